set_option maxHeartbeats 1600000 in
theorem g_l_law_28 (g : ch_G) (R : Room) (E : ch_En) (k : Nat) (hR : ch_RR R 18) (hcs : k + 40 ≤ R.cells ∧ 6 * k + 240 ≤ R.slots) (x5 : Int32) (o6 : Option ch_V) (o7 : Option ch_V) (o8 : Option ch_V) (o9 : Option ch_V) (m : ch_M) (h : ((((Int32.ofNat (ch_scr g).2.1) - 4) < x5 → ch_J g m_l_law R E 2103 [some (.inr (11, 0, 0)), some (.inr (0, 0, 0)), some (.inr (9, 0, 0)), some (.inr (10, 0, 1)), some (.inr (10, 0, 2)), some (.inl (.int x5)), o6, o7, o8, o9] [.inl (.int 1)] m k) ∧ (¬ ((Int32.ofNat (ch_scr g).2.1) - 4) < x5 → (vp_in x5 (ch_scr g).2.1) ∧ (((((ch_scr g).2.2 (Int32.toNatClampNeg x5)) &&& 63) = 0 → ch_J g m_l_law R E 208 [some (.inr (11, 0, 0)), some (.inr (0, 0, 0)), some (.inr (9, 0, 0)), some (.inr (10, 0, 1)), some (.inr (10, 0, 2)), some (.inl (.int x5)), o6, o7, o8, o9] [] m k) ∧ ((((ch_scr g).2.2 (Int32.toNatClampNeg x5)) &&& 63) = 1 → ch_J g m_l_law R E 264 [some (.inr (11, 0, 0)), some (.inr (0, 0, 0)), some (.inr (9, 0, 0)), some (.inr (10, 0, 1)), some (.inr (10, 0, 2)), some (.inl (.int x5)), o6, o7, o8, o9] [] m k) ∧ ((((ch_scr g).2.2 (Int32.toNatClampNeg x5)) &&& 63) = 2 → ch_J g m_l_law R E 332 [some (.inr (11, 0, 0)), some (.inr (0, 0, 0)), some (.inr (9, 0, 0)), some (.inr (10, 0, 1)), some (.inr (10, 0, 2)), some (.inl (.int x5)), o6, o7, o8, o9] [] m k) ∧ ((((ch_scr g).2.2 (Int32.toNatClampNeg x5)) &&& 63) = 3 → ch_J g m_l_law R E 400 [some (.inr (11, 0, 0)), some (.inr (0, 0, 0)), some (.inr (9, 0, 0)), some (.inr (10, 0, 1)), some (.inr (10, 0, 2)), some (.inl (.int x5)), o6, o7, o8, o9] [] m k) ∧ ((((ch_scr g).2.2 (Int32.toNatClampNeg x5)) &&& 63) = 4 → ch_J g m_l_law R E 456 [some (.inr (11, 0, 0)), some (.inr (0, 0, 0)), some (.inr (9, 0, 0)), some (.inr (10, 0, 1)), some (.inr (10, 0, 2)), some (.inl (.int x5)), o6, o7, o8, o9] [] m k) ∧ ((((ch_scr g).2.2 (Int32.toNatClampNeg x5)) &&& 63) = 5 → ch_J g m_l_law R E 512 [some (.inr (11, 0, 0)), some (.inr (0, 0, 0)), some (.inr (9, 0, 0)), some (.inr (10, 0, 1)), some (.inr (10, 0, 2)), some (.inl (.int x5)), o6, o7, o8, o9] [] m k) ∧ ((((ch_scr g).2.2 (Int32.toNatClampNeg x5)) &&& 63) = 6 → ch_J g m_l_law R E 568 [some (.inr (11, 0, 0)), some (.inr (0, 0, 0)), some (.inr (9, 0, 0)), some (.inr (10, 0, 1)), some (.inr (10, 0, 2)), some (.inl (.int x5)), o6, o7, o8, o9] [] m k) ∧ ((((ch_scr g).2.2 (Int32.toNatClampNeg x5)) &&& 63) = 7 → ch_J g m_l_law R E 612 [some (.inr (11, 0, 0)), some (.inr (0, 0, 0)), some (.inr (9, 0, 0)), some (.inr (10, 0, 1)), some (.inr (10, 0, 2)), some (.inl (.int x5)), o6, o7, o8, o9] [] m k) ∧ ((((ch_scr g).2.2 (Int32.toNatClampNeg x5)) &&& 63) = 8 → ch_J g m_l_law R E 692 [some (.inr (11, 0, 0)), some (.inr (0, 0, 0)), some (.inr (9, 0, 0)), some (.inr (10, 0, 1)), some (.inr (10, 0, 2)), some (.inl (.int x5)), o6, o7, o8, o9] [] m k) ∧ ((((ch_scr g).2.2 (Int32.toNatClampNeg x5)) &&& 63) = 9 → ch_J g m_l_law R E 776 [some (.inr (11, 0, 0)), some (.inr (0, 0, 0)), some (.inr (9, 0, 0)), some (.inr (10, 0, 1)), some (.inr (10, 0, 2)), some (.inl (.int x5)), o6, o7, o8, o9] [] m k) ∧ ((((ch_scr g).2.2 (Int32.toNatClampNeg x5)) &&& 63) = 10 → ch_J g m_l_law R E 844 [some (.inr (11, 0, 0)), some (.inr (0, 0, 0)), some (.inr (9, 0, 0)), some (.inr (10, 0, 1)), some (.inr (10, 0, 2)), some (.inl (.int x5)), o6, o7, o8, o9] [] m k) ∧ ((((ch_scr g).2.2 (Int32.toNatClampNeg x5)) &&& 63) = 11 → ch_J g m_l_law R E 900 [some (.inr (11, 0, 0)), some (.inr (0, 0, 0)), some (.inr (9, 0, 0)), some (.inr (10, 0, 1)), some (.inr (10, 0, 2)), some (.inl (.int x5)), o6, o7, o8, o9] [] m k) ∧ ((((ch_scr g).2.2 (Int32.toNatClampNeg x5)) &&& 63) = 12 → ch_J g m_l_law R E 956 [some (.inr (11, 0, 0)), some (.inr (0, 0, 0)), some (.inr (9, 0, 0)), some (.inr (10, 0, 1)), some (.inr (10, 0, 2)), some (.inl (.int x5)), o6, o7, o8, o9] [] m k) ∧ ((((ch_scr g).2.2 (Int32.toNatClampNeg x5)) &&& 63) = 13 → ch_J g m_l_law R E 1012 [some (.inr (11, 0, 0)), some (.inr (0, 0, 0)), some (.inr (9, 0, 0)), some (.inr (10, 0, 1)), some (.inr (10, 0, 2)), some (.inl (.int x5)), o6, o7, o8, o9] [] m k) ∧ ((((ch_scr g).2.2 (Int32.toNatClampNeg x5)) &&& 63) = 14 → ch_J g m_l_law R E 1068 [some (.inr (11, 0, 0)), some (.inr (0, 0, 0)), some (.inr (9, 0, 0)), some (.inr (10, 0, 1)), some (.inr (10, 0, 2)), some (.inl (.int x5)), o6, o7, o8, o9] [] m k) ∧ ((((ch_scr g).2.2 (Int32.toNatClampNeg x5)) &&& 63) = 15 → ch_J g m_l_law R E 1136 [some (.inr (11, 0, 0)), some (.inr (0, 0, 0)), some (.inr (9, 0, 0)), some (.inr (10, 0, 1)), some (.inr (10, 0, 2)), some (.inl (.int x5)), o6, o7, o8, o9] [] m k) ∧ ((((ch_scr g).2.2 (Int32.toNatClampNeg x5)) &&& 63) = 16 → ch_J g m_l_law R E 1204 [some (.inr (11, 0, 0)), some (.inr (0, 0, 0)), some (.inr (9, 0, 0)), some (.inr (10, 0, 1)), some (.inr (10, 0, 2)), some (.inl (.int x5)), o6, o7, o8, o9] [] m k) ∧ ((((ch_scr g).2.2 (Int32.toNatClampNeg x5)) &&& 63) = 17 → ch_J g m_l_law R E 1260 [some (.inr (11, 0, 0)), some (.inr (0, 0, 0)), some (.inr (9, 0, 0)), some (.inr (10, 0, 1)), some (.inr (10, 0, 2)), some (.inl (.int x5)), o6, o7, o8, o9] [] m k) ∧ ((((ch_scr g).2.2 (Int32.toNatClampNeg x5)) &&& 63) = 18 → ch_J g m_l_law R E 1273 [some (.inr (11, 0, 0)), some (.inr (0, 0, 0)), some (.inr (9, 0, 0)), some (.inr (10, 0, 1)), some (.inr (10, 0, 2)), some (.inl (.int x5)), o6, o7, o8, o9] [] m k) ∧ ((((ch_scr g).2.2 (Int32.toNatClampNeg x5)) &&& 63) = 19 → ch_J g m_l_law R E 1329 [some (.inr (11, 0, 0)), some (.inr (0, 0, 0)), some (.inr (9, 0, 0)), some (.inr (10, 0, 1)), some (.inr (10, 0, 2)), some (.inl (.int x5)), o6, o7, o8, o9] [] m k) ∧ ((((ch_scr g).2.2 (Int32.toNatClampNeg x5)) &&& 63) = 20 → ch_J g m_l_law R E 1385 [some (.inr (11, 0, 0)), some (.inr (0, 0, 0)), some (.inr (9, 0, 0)), some (.inr (10, 0, 1)), some (.inr (10, 0, 2)), some (.inl (.int x5)), o6, o7, o8, o9] [] m k) ∧ ((((ch_scr g).2.2 (Int32.toNatClampNeg x5)) &&& 63) = 21 → ch_J g m_l_law R E 1441 [some (.inr (11, 0, 0)), some (.inr (0, 0, 0)), some (.inr (9, 0, 0)), some (.inr (10, 0, 1)), some (.inr (10, 0, 2)), some (.inl (.int x5)), o6, o7, o8, o9] [] m k) ∧ ((((ch_scr g).2.2 (Int32.toNatClampNeg x5)) &&& 63) = 22 → ch_J g m_l_law R E 1497 [some (.inr (11, 0, 0)), some (.inr (0, 0, 0)), some (.inr (9, 0, 0)), some (.inr (10, 0, 1)), some (.inr (10, 0, 2)), some (.inl (.int x5)), o6, o7, o8, o9] [] m k) ∧ ((((ch_scr g).2.2 (Int32.toNatClampNeg x5)) &&& 63) = 23 → ch_J g m_l_law R E 1565 [some (.inr (11, 0, 0)), some (.inr (0, 0, 0)), some (.inr (9, 0, 0)), some (.inr (10, 0, 1)), some (.inr (10, 0, 2)), some (.inl (.int x5)), o6, o7, o8, o9] [] m k) ∧ ((((ch_scr g).2.2 (Int32.toNatClampNeg x5)) &&& 63) = 24 → ch_J g m_l_law R E 1578 [some (.inr (11, 0, 0)), some (.inr (0, 0, 0)), some (.inr (9, 0, 0)), some (.inr (10, 0, 1)), some (.inr (10, 0, 2)), some (.inl (.int x5)), o6, o7, o8, o9] [] m k) ∧ ((((ch_scr g).2.2 (Int32.toNatClampNeg x5)) &&& 63) = 25 → ch_J g m_l_law R E 1636 [some (.inr (11, 0, 0)), some (.inr (0, 0, 0)), some (.inr (9, 0, 0)), some (.inr (10, 0, 1)), some (.inr (10, 0, 2)), some (.inl (.int x5)), o6, o7, o8, o9] [] m k) ∧ ((((ch_scr g).2.2 (Int32.toNatClampNeg x5)) &&& 63) = 26 → ch_J g m_l_law R E 1680 [some (.inr (11, 0, 0)), some (.inr (0, 0, 0)), some (.inr (9, 0, 0)), some (.inr (10, 0, 1)), some (.inr (10, 0, 2)), some (.inl (.int x5)), o6, o7, o8, o9] [] m k) ∧ ((((ch_scr g).2.2 (Int32.toNatClampNeg x5)) &&& 63) = 27 → ch_J g m_l_law R E 1693 [some (.inr (11, 0, 0)), some (.inr (0, 0, 0)), some (.inr (9, 0, 0)), some (.inr (10, 0, 1)), some (.inr (10, 0, 2)), some (.inl (.int x5)), o6, o7, o8, o9] [] m k) ∧ ((((ch_scr g).2.2 (Int32.toNatClampNeg x5)) &&& 63) = 28 → ch_J g m_l_law R E 1749 [some (.inr (11, 0, 0)), some (.inr (0, 0, 0)), some (.inr (9, 0, 0)), some (.inr (10, 0, 1)), some (.inr (10, 0, 2)), some (.inl (.int x5)), o6, o7, o8, o9] [] m k) ∧ ((((ch_scr g).2.2 (Int32.toNatClampNeg x5)) &&& 63) = 29 → ch_J g m_l_law R E 1762 [some (.inr (11, 0, 0)), some (.inr (0, 0, 0)), some (.inr (9, 0, 0)), some (.inr (10, 0, 1)), some (.inr (10, 0, 2)), some (.inl (.int x5)), o6, o7, o8, o9] [] m k) ∧ ((((ch_scr g).2.2 (Int32.toNatClampNeg x5)) &&& 63) = 30 → ch_J g m_l_law R E 1775 [some (.inr (11, 0, 0)), some (.inr (0, 0, 0)), some (.inr (9, 0, 0)), some (.inr (10, 0, 1)), some (.inr (10, 0, 2)), some (.inl (.int x5)), o6, o7, o8, o9] [] m k) ∧ ((((ch_scr g).2.2 (Int32.toNatClampNeg x5)) &&& 63) = 31 → ch_J g m_l_law R E 1831 [some (.inr (11, 0, 0)), some (.inr (0, 0, 0)), some (.inr (9, 0, 0)), some (.inr (10, 0, 1)), some (.inr (10, 0, 2)), some (.inl (.int x5)), o6, o7, o8, o9] [] m k) ∧ ((((ch_scr g).2.2 (Int32.toNatClampNeg x5)) &&& 63) = 32 → ch_J g m_l_law R E 1896 [some (.inr (11, 0, 0)), some (.inr (0, 0, 0)), some (.inr (9, 0, 0)), some (.inr (10, 0, 1)), some (.inr (10, 0, 2)), some (.inl (.int x5)), o6, o7, o8, o9] [] m k) ∧ ((((ch_scr g).2.2 (Int32.toNatClampNeg x5)) &&& 63) = 33 → ch_J g m_l_law R E 1939 [some (.inr (11, 0, 0)), some (.inr (0, 0, 0)), some (.inr (9, 0, 0)), some (.inr (10, 0, 1)), some (.inr (10, 0, 2)), some (.inl (.int x5)), o6, o7, o8, o9] [] m k) ∧ ((((ch_scr g).2.2 (Int32.toNatClampNeg x5)) &&& 63) = 34 → ch_J g m_l_law R E 1995 [some (.inr (11, 0, 0)), some (.inr (0, 0, 0)), some (.inr (9, 0, 0)), some (.inr (10, 0, 1)), some (.inr (10, 0, 2)), some (.inl (.int x5)), o6, o7, o8, o9] [] m k) ∧ ((((ch_scr g).2.2 (Int32.toNatClampNeg x5)) &&& 63) = 35 → ch_J g m_l_law R E 2039 [some (.inr (11, 0, 0)), some (.inr (0, 0, 0)), some (.inr (9, 0, 0)), some (.inr (10, 0, 1)), some (.inr (10, 0, 2)), some (.inl (.int x5)), o6, o7, o8, o9] [] m k) ∧ ((((ch_scr g).2.2 (Int32.toNatClampNeg x5)) &&& 63) = 36 → ch_J g m_l_law R E 2052 [some (.inr (11, 0, 0)), some (.inr (0, 0, 0)), some (.inr (9, 0, 0)), some (.inr (10, 0, 1)), some (.inr (10, 0, 2)), some (.inl (.int x5)), o6, o7, o8, o9] [] m k) ∧ ((Int32.toInt (((ch_scr g).2.2 (Int32.toNatClampNeg x5)) &&& 63) < 0 ∨ 36 < Int32.toInt (((ch_scr g).2.2 (Int32.toNatClampNeg x5)) &&& 63)) → ch_J g m_l_law R E 2096 [some (.inr (11, 0, 0)), some (.inr (0, 0, 0)), some (.inr (9, 0, 0)), some (.inr (10, 0, 1)), some (.inr (10, 0, 2)), some (.inl (.int x5)), o6, o7, o8, o9] [] m k))))) : ch_J g m_l_law R E 28 [some (.inr (11, 0, 0)), some (.inr (0, 0, 0)), some (.inr (9, 0, 0)), some (.inr (10, 0, 1)), some (.inr (10, 0, 2)), some (.inl (.int x5)), o6, o7, o8, o9] [] m k := by
  refine ch_iload d_l_law_28 rfl ?_
  refine ch_aload_n (i := 0) d_l_law_30 rfl rfl ?_
  refine ch_slen d_l_law_31 ?_
  refine ch_iconst (v := 4) d_l_law_32 (by decide) ?_
  refine ch_isub d_l_law_33 ?_
  refine ch_icmp_gt (tgt := 2102) d_l_law_34 (by decide) (fun c => ?_) (fun c => ?_)
  · replace h := h.1 c
    refine ch_iconst (v := 1) d_l_law_2102 (by decide) ?_
    exact h
  · replace h := h.2 c
    refine ch_aload_n (i := 0) d_l_law_37 rfl rfl ?_
    refine ch_iload d_l_law_38 rfl ?_
    have b1 := h.1
    replace h := h.2
    refine ch_sld d_l_law_40 b1 ?_
    refine ch_bipush (v := 63) d_l_law_41 (by decide) ?_
    refine ch_iand d_l_law_43 ?_
    by_cases e0 : (((ch_scr g).2.2 (Int32.toNatClampNeg x5)) &&& 63) = 0
    · replace h := h.1 e0
      refine ch_tswIn (tgt := 208) (off := 164) d_l_law_44 (by rw [e0]; decide) (by rw [e0]; decide) (by rw [e0]; rfl) (by decide) ?_
      exact h
    replace h := h.2
    by_cases e1 : (((ch_scr g).2.2 (Int32.toNatClampNeg x5)) &&& 63) = 1
    · replace h := h.1 e1
      refine ch_tswIn (tgt := 264) (off := 220) d_l_law_44 (by rw [e1]; decide) (by rw [e1]; decide) (by rw [e1]; rfl) (by decide) ?_
      exact h
    replace h := h.2
    by_cases e2 : (((ch_scr g).2.2 (Int32.toNatClampNeg x5)) &&& 63) = 2
    · replace h := h.1 e2
      refine ch_tswIn (tgt := 332) (off := 288) d_l_law_44 (by rw [e2]; decide) (by rw [e2]; decide) (by rw [e2]; rfl) (by decide) ?_
      exact h
    replace h := h.2
    by_cases e3 : (((ch_scr g).2.2 (Int32.toNatClampNeg x5)) &&& 63) = 3
    · replace h := h.1 e3
      refine ch_tswIn (tgt := 400) (off := 356) d_l_law_44 (by rw [e3]; decide) (by rw [e3]; decide) (by rw [e3]; rfl) (by decide) ?_
      exact h
    replace h := h.2
    by_cases e4 : (((ch_scr g).2.2 (Int32.toNatClampNeg x5)) &&& 63) = 4
    · replace h := h.1 e4
      refine ch_tswIn (tgt := 456) (off := 412) d_l_law_44 (by rw [e4]; decide) (by rw [e4]; decide) (by rw [e4]; rfl) (by decide) ?_
      exact h
    replace h := h.2
    by_cases e5 : (((ch_scr g).2.2 (Int32.toNatClampNeg x5)) &&& 63) = 5
    · replace h := h.1 e5
      refine ch_tswIn (tgt := 512) (off := 468) d_l_law_44 (by rw [e5]; decide) (by rw [e5]; decide) (by rw [e5]; rfl) (by decide) ?_
      exact h
    replace h := h.2
    by_cases e6 : (((ch_scr g).2.2 (Int32.toNatClampNeg x5)) &&& 63) = 6
    · replace h := h.1 e6
      refine ch_tswIn (tgt := 568) (off := 524) d_l_law_44 (by rw [e6]; decide) (by rw [e6]; decide) (by rw [e6]; rfl) (by decide) ?_
      exact h
    replace h := h.2
    by_cases e7 : (((ch_scr g).2.2 (Int32.toNatClampNeg x5)) &&& 63) = 7
    · replace h := h.1 e7
      refine ch_tswIn (tgt := 612) (off := 568) d_l_law_44 (by rw [e7]; decide) (by rw [e7]; decide) (by rw [e7]; rfl) (by decide) ?_
      exact h
    replace h := h.2
    by_cases e8 : (((ch_scr g).2.2 (Int32.toNatClampNeg x5)) &&& 63) = 8
    · replace h := h.1 e8
      refine ch_tswIn (tgt := 692) (off := 648) d_l_law_44 (by rw [e8]; decide) (by rw [e8]; decide) (by rw [e8]; rfl) (by decide) ?_
      exact h
    replace h := h.2
    by_cases e9 : (((ch_scr g).2.2 (Int32.toNatClampNeg x5)) &&& 63) = 9
    · replace h := h.1 e9
      refine ch_tswIn (tgt := 776) (off := 732) d_l_law_44 (by rw [e9]; decide) (by rw [e9]; decide) (by rw [e9]; rfl) (by decide) ?_
      exact h
    replace h := h.2
    by_cases e10 : (((ch_scr g).2.2 (Int32.toNatClampNeg x5)) &&& 63) = 10
    · replace h := h.1 e10
      refine ch_tswIn (tgt := 844) (off := 800) d_l_law_44 (by rw [e10]; decide) (by rw [e10]; decide) (by rw [e10]; rfl) (by decide) ?_
      exact h
    replace h := h.2
    by_cases e11 : (((ch_scr g).2.2 (Int32.toNatClampNeg x5)) &&& 63) = 11
    · replace h := h.1 e11
      refine ch_tswIn (tgt := 900) (off := 856) d_l_law_44 (by rw [e11]; decide) (by rw [e11]; decide) (by rw [e11]; rfl) (by decide) ?_
      exact h
    replace h := h.2
    by_cases e12 : (((ch_scr g).2.2 (Int32.toNatClampNeg x5)) &&& 63) = 12
    · replace h := h.1 e12
      refine ch_tswIn (tgt := 956) (off := 912) d_l_law_44 (by rw [e12]; decide) (by rw [e12]; decide) (by rw [e12]; rfl) (by decide) ?_
      exact h
    replace h := h.2
    by_cases e13 : (((ch_scr g).2.2 (Int32.toNatClampNeg x5)) &&& 63) = 13
    · replace h := h.1 e13
      refine ch_tswIn (tgt := 1012) (off := 968) d_l_law_44 (by rw [e13]; decide) (by rw [e13]; decide) (by rw [e13]; rfl) (by decide) ?_
      exact h
    replace h := h.2
    by_cases e14 : (((ch_scr g).2.2 (Int32.toNatClampNeg x5)) &&& 63) = 14
    · replace h := h.1 e14
      refine ch_tswIn (tgt := 1068) (off := 1024) d_l_law_44 (by rw [e14]; decide) (by rw [e14]; decide) (by rw [e14]; rfl) (by decide) ?_
      exact h
    replace h := h.2
    by_cases e15 : (((ch_scr g).2.2 (Int32.toNatClampNeg x5)) &&& 63) = 15
    · replace h := h.1 e15
      refine ch_tswIn (tgt := 1136) (off := 1092) d_l_law_44 (by rw [e15]; decide) (by rw [e15]; decide) (by rw [e15]; rfl) (by decide) ?_
      exact h
    replace h := h.2
    by_cases e16 : (((ch_scr g).2.2 (Int32.toNatClampNeg x5)) &&& 63) = 16
    · replace h := h.1 e16
      refine ch_tswIn (tgt := 1204) (off := 1160) d_l_law_44 (by rw [e16]; decide) (by rw [e16]; decide) (by rw [e16]; rfl) (by decide) ?_
      exact h
    replace h := h.2
    by_cases e17 : (((ch_scr g).2.2 (Int32.toNatClampNeg x5)) &&& 63) = 17
    · replace h := h.1 e17
      refine ch_tswIn (tgt := 1260) (off := 1216) d_l_law_44 (by rw [e17]; decide) (by rw [e17]; decide) (by rw [e17]; rfl) (by decide) ?_
      exact h
    replace h := h.2
    by_cases e18 : (((ch_scr g).2.2 (Int32.toNatClampNeg x5)) &&& 63) = 18
    · replace h := h.1 e18
      refine ch_tswIn (tgt := 1273) (off := 1229) d_l_law_44 (by rw [e18]; decide) (by rw [e18]; decide) (by rw [e18]; rfl) (by decide) ?_
      exact h
    replace h := h.2
    by_cases e19 : (((ch_scr g).2.2 (Int32.toNatClampNeg x5)) &&& 63) = 19
    · replace h := h.1 e19
      refine ch_tswIn (tgt := 1329) (off := 1285) d_l_law_44 (by rw [e19]; decide) (by rw [e19]; decide) (by rw [e19]; rfl) (by decide) ?_
      exact h
    replace h := h.2
    by_cases e20 : (((ch_scr g).2.2 (Int32.toNatClampNeg x5)) &&& 63) = 20
    · replace h := h.1 e20
      refine ch_tswIn (tgt := 1385) (off := 1341) d_l_law_44 (by rw [e20]; decide) (by rw [e20]; decide) (by rw [e20]; rfl) (by decide) ?_
      exact h
    replace h := h.2
    by_cases e21 : (((ch_scr g).2.2 (Int32.toNatClampNeg x5)) &&& 63) = 21
    · replace h := h.1 e21
      refine ch_tswIn (tgt := 1441) (off := 1397) d_l_law_44 (by rw [e21]; decide) (by rw [e21]; decide) (by rw [e21]; rfl) (by decide) ?_
      exact h
    replace h := h.2
    by_cases e22 : (((ch_scr g).2.2 (Int32.toNatClampNeg x5)) &&& 63) = 22
    · replace h := h.1 e22
      refine ch_tswIn (tgt := 1497) (off := 1453) d_l_law_44 (by rw [e22]; decide) (by rw [e22]; decide) (by rw [e22]; rfl) (by decide) ?_
      exact h
    replace h := h.2
    by_cases e23 : (((ch_scr g).2.2 (Int32.toNatClampNeg x5)) &&& 63) = 23
    · replace h := h.1 e23
      refine ch_tswIn (tgt := 1565) (off := 1521) d_l_law_44 (by rw [e23]; decide) (by rw [e23]; decide) (by rw [e23]; rfl) (by decide) ?_
      exact h
    replace h := h.2
    by_cases e24 : (((ch_scr g).2.2 (Int32.toNatClampNeg x5)) &&& 63) = 24
    · replace h := h.1 e24
      refine ch_tswIn (tgt := 1578) (off := 1534) d_l_law_44 (by rw [e24]; decide) (by rw [e24]; decide) (by rw [e24]; rfl) (by decide) ?_
      exact h
    replace h := h.2
    by_cases e25 : (((ch_scr g).2.2 (Int32.toNatClampNeg x5)) &&& 63) = 25
    · replace h := h.1 e25
      refine ch_tswIn (tgt := 1636) (off := 1592) d_l_law_44 (by rw [e25]; decide) (by rw [e25]; decide) (by rw [e25]; rfl) (by decide) ?_
      exact h
    replace h := h.2
    by_cases e26 : (((ch_scr g).2.2 (Int32.toNatClampNeg x5)) &&& 63) = 26
    · replace h := h.1 e26
      refine ch_tswIn (tgt := 1680) (off := 1636) d_l_law_44 (by rw [e26]; decide) (by rw [e26]; decide) (by rw [e26]; rfl) (by decide) ?_
      exact h
    replace h := h.2
    by_cases e27 : (((ch_scr g).2.2 (Int32.toNatClampNeg x5)) &&& 63) = 27
    · replace h := h.1 e27
      refine ch_tswIn (tgt := 1693) (off := 1649) d_l_law_44 (by rw [e27]; decide) (by rw [e27]; decide) (by rw [e27]; rfl) (by decide) ?_
      exact h
    replace h := h.2
    by_cases e28 : (((ch_scr g).2.2 (Int32.toNatClampNeg x5)) &&& 63) = 28
    · replace h := h.1 e28
      refine ch_tswIn (tgt := 1749) (off := 1705) d_l_law_44 (by rw [e28]; decide) (by rw [e28]; decide) (by rw [e28]; rfl) (by decide) ?_
      exact h
    replace h := h.2
    by_cases e29 : (((ch_scr g).2.2 (Int32.toNatClampNeg x5)) &&& 63) = 29
    · replace h := h.1 e29
      refine ch_tswIn (tgt := 1762) (off := 1718) d_l_law_44 (by rw [e29]; decide) (by rw [e29]; decide) (by rw [e29]; rfl) (by decide) ?_
      exact h
    replace h := h.2
    by_cases e30 : (((ch_scr g).2.2 (Int32.toNatClampNeg x5)) &&& 63) = 30
    · replace h := h.1 e30
      refine ch_tswIn (tgt := 1775) (off := 1731) d_l_law_44 (by rw [e30]; decide) (by rw [e30]; decide) (by rw [e30]; rfl) (by decide) ?_
      exact h
    replace h := h.2
    by_cases e31 : (((ch_scr g).2.2 (Int32.toNatClampNeg x5)) &&& 63) = 31
    · replace h := h.1 e31
      refine ch_tswIn (tgt := 1831) (off := 1787) d_l_law_44 (by rw [e31]; decide) (by rw [e31]; decide) (by rw [e31]; rfl) (by decide) ?_
      exact h
    replace h := h.2
    by_cases e32 : (((ch_scr g).2.2 (Int32.toNatClampNeg x5)) &&& 63) = 32
    · replace h := h.1 e32
      refine ch_tswIn (tgt := 1896) (off := 1852) d_l_law_44 (by rw [e32]; decide) (by rw [e32]; decide) (by rw [e32]; rfl) (by decide) ?_
      exact h
    replace h := h.2
    by_cases e33 : (((ch_scr g).2.2 (Int32.toNatClampNeg x5)) &&& 63) = 33
    · replace h := h.1 e33
      refine ch_tswIn (tgt := 1939) (off := 1895) d_l_law_44 (by rw [e33]; decide) (by rw [e33]; decide) (by rw [e33]; rfl) (by decide) ?_
      exact h
    replace h := h.2
    by_cases e34 : (((ch_scr g).2.2 (Int32.toNatClampNeg x5)) &&& 63) = 34
    · replace h := h.1 e34
      refine ch_tswIn (tgt := 1995) (off := 1951) d_l_law_44 (by rw [e34]; decide) (by rw [e34]; decide) (by rw [e34]; rfl) (by decide) ?_
      exact h
    replace h := h.2
    by_cases e35 : (((ch_scr g).2.2 (Int32.toNatClampNeg x5)) &&& 63) = 35
    · replace h := h.1 e35
      refine ch_tswIn (tgt := 2039) (off := 1995) d_l_law_44 (by rw [e35]; decide) (by rw [e35]; decide) (by rw [e35]; rfl) (by decide) ?_
      exact h
    replace h := h.2
    by_cases e36 : (((ch_scr g).2.2 (Int32.toNatClampNeg x5)) &&& 63) = 36
    · replace h := h.1 e36
      refine ch_tswIn (tgt := 2052) (off := 2008) d_l_law_44 (by rw [e36]; decide) (by rw [e36]; decide) (by rw [e36]; rfl) (by decide) ?_
      exact h
    replace h := h.2
    have hx : (Int32.toInt (((ch_scr g).2.2 (Int32.toNatClampNeg x5)) &&& 63) < 0 ∨ 36 < Int32.toInt (((ch_scr g).2.2 (Int32.toNatClampNeg x5)) &&& 63)) := by
      have f0 : Int32.toInt (((ch_scr g).2.2 (Int32.toNatClampNeg x5)) &&& 63) ≠ 0 := fun q => e0 (Int32.toInt_inj.mp (q.trans (by decide)))
      have f1 : Int32.toInt (((ch_scr g).2.2 (Int32.toNatClampNeg x5)) &&& 63) ≠ 1 := fun q => e1 (Int32.toInt_inj.mp (q.trans (by decide)))
      have f2 : Int32.toInt (((ch_scr g).2.2 (Int32.toNatClampNeg x5)) &&& 63) ≠ 2 := fun q => e2 (Int32.toInt_inj.mp (q.trans (by decide)))
      have f3 : Int32.toInt (((ch_scr g).2.2 (Int32.toNatClampNeg x5)) &&& 63) ≠ 3 := fun q => e3 (Int32.toInt_inj.mp (q.trans (by decide)))
      have f4 : Int32.toInt (((ch_scr g).2.2 (Int32.toNatClampNeg x5)) &&& 63) ≠ 4 := fun q => e4 (Int32.toInt_inj.mp (q.trans (by decide)))
      have f5 : Int32.toInt (((ch_scr g).2.2 (Int32.toNatClampNeg x5)) &&& 63) ≠ 5 := fun q => e5 (Int32.toInt_inj.mp (q.trans (by decide)))
      have f6 : Int32.toInt (((ch_scr g).2.2 (Int32.toNatClampNeg x5)) &&& 63) ≠ 6 := fun q => e6 (Int32.toInt_inj.mp (q.trans (by decide)))
      have f7 : Int32.toInt (((ch_scr g).2.2 (Int32.toNatClampNeg x5)) &&& 63) ≠ 7 := fun q => e7 (Int32.toInt_inj.mp (q.trans (by decide)))
      have f8 : Int32.toInt (((ch_scr g).2.2 (Int32.toNatClampNeg x5)) &&& 63) ≠ 8 := fun q => e8 (Int32.toInt_inj.mp (q.trans (by decide)))
      have f9 : Int32.toInt (((ch_scr g).2.2 (Int32.toNatClampNeg x5)) &&& 63) ≠ 9 := fun q => e9 (Int32.toInt_inj.mp (q.trans (by decide)))
      have f10 : Int32.toInt (((ch_scr g).2.2 (Int32.toNatClampNeg x5)) &&& 63) ≠ 10 := fun q => e10 (Int32.toInt_inj.mp (q.trans (by decide)))
      have f11 : Int32.toInt (((ch_scr g).2.2 (Int32.toNatClampNeg x5)) &&& 63) ≠ 11 := fun q => e11 (Int32.toInt_inj.mp (q.trans (by decide)))
      have f12 : Int32.toInt (((ch_scr g).2.2 (Int32.toNatClampNeg x5)) &&& 63) ≠ 12 := fun q => e12 (Int32.toInt_inj.mp (q.trans (by decide)))
      have f13 : Int32.toInt (((ch_scr g).2.2 (Int32.toNatClampNeg x5)) &&& 63) ≠ 13 := fun q => e13 (Int32.toInt_inj.mp (q.trans (by decide)))
      have f14 : Int32.toInt (((ch_scr g).2.2 (Int32.toNatClampNeg x5)) &&& 63) ≠ 14 := fun q => e14 (Int32.toInt_inj.mp (q.trans (by decide)))
      have f15 : Int32.toInt (((ch_scr g).2.2 (Int32.toNatClampNeg x5)) &&& 63) ≠ 15 := fun q => e15 (Int32.toInt_inj.mp (q.trans (by decide)))
      have f16 : Int32.toInt (((ch_scr g).2.2 (Int32.toNatClampNeg x5)) &&& 63) ≠ 16 := fun q => e16 (Int32.toInt_inj.mp (q.trans (by decide)))
      have f17 : Int32.toInt (((ch_scr g).2.2 (Int32.toNatClampNeg x5)) &&& 63) ≠ 17 := fun q => e17 (Int32.toInt_inj.mp (q.trans (by decide)))
      have f18 : Int32.toInt (((ch_scr g).2.2 (Int32.toNatClampNeg x5)) &&& 63) ≠ 18 := fun q => e18 (Int32.toInt_inj.mp (q.trans (by decide)))
      have f19 : Int32.toInt (((ch_scr g).2.2 (Int32.toNatClampNeg x5)) &&& 63) ≠ 19 := fun q => e19 (Int32.toInt_inj.mp (q.trans (by decide)))
      have f20 : Int32.toInt (((ch_scr g).2.2 (Int32.toNatClampNeg x5)) &&& 63) ≠ 20 := fun q => e20 (Int32.toInt_inj.mp (q.trans (by decide)))
      have f21 : Int32.toInt (((ch_scr g).2.2 (Int32.toNatClampNeg x5)) &&& 63) ≠ 21 := fun q => e21 (Int32.toInt_inj.mp (q.trans (by decide)))
      have f22 : Int32.toInt (((ch_scr g).2.2 (Int32.toNatClampNeg x5)) &&& 63) ≠ 22 := fun q => e22 (Int32.toInt_inj.mp (q.trans (by decide)))
      have f23 : Int32.toInt (((ch_scr g).2.2 (Int32.toNatClampNeg x5)) &&& 63) ≠ 23 := fun q => e23 (Int32.toInt_inj.mp (q.trans (by decide)))
      have f24 : Int32.toInt (((ch_scr g).2.2 (Int32.toNatClampNeg x5)) &&& 63) ≠ 24 := fun q => e24 (Int32.toInt_inj.mp (q.trans (by decide)))
      have f25 : Int32.toInt (((ch_scr g).2.2 (Int32.toNatClampNeg x5)) &&& 63) ≠ 25 := fun q => e25 (Int32.toInt_inj.mp (q.trans (by decide)))
      have f26 : Int32.toInt (((ch_scr g).2.2 (Int32.toNatClampNeg x5)) &&& 63) ≠ 26 := fun q => e26 (Int32.toInt_inj.mp (q.trans (by decide)))
      have f27 : Int32.toInt (((ch_scr g).2.2 (Int32.toNatClampNeg x5)) &&& 63) ≠ 27 := fun q => e27 (Int32.toInt_inj.mp (q.trans (by decide)))
      have f28 : Int32.toInt (((ch_scr g).2.2 (Int32.toNatClampNeg x5)) &&& 63) ≠ 28 := fun q => e28 (Int32.toInt_inj.mp (q.trans (by decide)))
      have f29 : Int32.toInt (((ch_scr g).2.2 (Int32.toNatClampNeg x5)) &&& 63) ≠ 29 := fun q => e29 (Int32.toInt_inj.mp (q.trans (by decide)))
      have f30 : Int32.toInt (((ch_scr g).2.2 (Int32.toNatClampNeg x5)) &&& 63) ≠ 30 := fun q => e30 (Int32.toInt_inj.mp (q.trans (by decide)))
      have f31 : Int32.toInt (((ch_scr g).2.2 (Int32.toNatClampNeg x5)) &&& 63) ≠ 31 := fun q => e31 (Int32.toInt_inj.mp (q.trans (by decide)))
      have f32 : Int32.toInt (((ch_scr g).2.2 (Int32.toNatClampNeg x5)) &&& 63) ≠ 32 := fun q => e32 (Int32.toInt_inj.mp (q.trans (by decide)))
      have f33 : Int32.toInt (((ch_scr g).2.2 (Int32.toNatClampNeg x5)) &&& 63) ≠ 33 := fun q => e33 (Int32.toInt_inj.mp (q.trans (by decide)))
      have f34 : Int32.toInt (((ch_scr g).2.2 (Int32.toNatClampNeg x5)) &&& 63) ≠ 34 := fun q => e34 (Int32.toInt_inj.mp (q.trans (by decide)))
      have f35 : Int32.toInt (((ch_scr g).2.2 (Int32.toNatClampNeg x5)) &&& 63) ≠ 35 := fun q => e35 (Int32.toInt_inj.mp (q.trans (by decide)))
      have f36 : Int32.toInt (((ch_scr g).2.2 (Int32.toNatClampNeg x5)) &&& 63) ≠ 36 := fun q => e36 (Int32.toInt_inj.mp (q.trans (by decide)))
      omega
    replace h := h hx
    refine ch_tswOut (tgt := 2096) d_l_law_44 hx (by decide) ?_
    exact h
set_option maxHeartbeats 1600000 in
theorem g_l_law_208 (g : ch_G) (R : Room) (E : ch_En) (k : Nat) (hR : ch_RR R 18) (hcs : k + 40 ≤ R.cells ∧ 6 * k + 240 ≤ R.slots) (x5 : Int32) (o6 : Option ch_V) (o7 : Option ch_V) (o8 : Option ch_V) (o9 : Option ch_V) (m : ch_M) (h : (vp_in (x5 + 1) (ch_scr g).2.1) ∧ (vp_in ((x_K m 110 0 0 ((ch_scr g).2.2 (Int32.toNatClampNeg (x5 + 1)))) (1, 0, 0) 8) 6) ∧ (vp_in ((x_K m 110 0 0 ((ch_scr g).2.2 (Int32.toNatClampNeg (x5 + 1)))) (5, 0, 0) 1) 13) ∧ (vp_in ((x_K m 110 0 0 ((ch_scr g).2.2 (Int32.toNatClampNeg (x5 + 1)))) (2, 0, 0) 1) 8) ∧ ((x_R (x_K m 110 0 0 ((ch_scr g).2.2 (Int32.toNatClampNeg (x5 + 1))))).1 = 0 → y_carP (ch_ob (x_K m 110 0 0 ((ch_scr g).2.2 (Int32.toNatClampNeg (x5 + 1)))) 1 0) (ch_ob (x_K m 110 0 0 ((ch_scr g).2.2 (Int32.toNatClampNeg (x5 + 1)))) 4 0) ((x_K m 110 0 0 ((ch_scr g).2.2 (Int32.toNatClampNeg (x5 + 1)))) (5, 0, 0) 1)) ∧ ((((x_R (x_K m 110 0 0 ((ch_scr g).2.2 (Int32.toNatClampNeg (x5 + 1))))).1 = 0) → (∀ m3 : ch_M, m3 = (ch_wr (ch_os (p_kM (x_K m 110 0 0 ((ch_scr g).2.2 (Int32.toNatClampNeg (x5 + 1)))) 0) 1 0 (x_C (x_K m 110 0 0 ((ch_scr g).2.2 (Int32.toNatClampNeg (x5 + 1))))).2) (10, 0, 1) 0 ((x_C (x_K m 110 0 0 ((ch_scr g).2.2 (Int32.toNatClampNeg (x5 + 1))))).1)) → (∃ T_9 : Nat, (∃ Y_10 : ch_B, (m_rel Y_10 (m3 (9, 0, 1))) ∧ (y_inv T_9 Y_10) ∧ (vp_in (m3 (9, 0, 0) 4) 9) ∧ ((((r_wn Y_10 ((ch_scr g).2.2 (Int32.toNatClampNeg (x5 + 1)))).1 = 0) → (∀ (B11 : ch_B), (m_done (ch_ob m3 9 0) B11 (y_briB Y_10 ((ch_scr g).2.2 (Int32.toNatClampNeg (x5 + 1))))) → (∀ m14 : ch_M, m14 = ch_os m3 9 0 B11 → ((((m14 (9, 0, 0) 19) = 0 → (((lg_cmp ((m14 (10, 0, 1) (0))).toInt64 ((Y_10 0 8)).toInt64) = 0 → ch_J g m_l_law R E 2096 [some (.inr (11, 0, 0)), some (.inr (0, 0, 0)), some (.inr (9, 0, 0)), some (.inr (10, 0, 1)), some (.inr (10, 0, 2)), some (.inl (.int x5)), some (.inl (.int 0)), some (.inl (.int (Y_10 0 8))), o8, o9] [] m14 (k + 1)) ∧ (¬ (lg_cmp ((m14 (10, 0, 1) (0))).toInt64 ((Y_10 0 8)).toInt64) = 0 → ch_J g m_l_law R E 260 [some (.inr (11, 0, 0)), some (.inr (0, 0, 0)), some (.inr (9, 0, 0)), some (.inr (10, 0, 1)), some (.inr (10, 0, 2)), some (.inl (.int x5)), some (.inl (.int 0)), some (.inl (.int (Y_10 0 8))), o8, o9] [.inl (.int 0)] m14 (k + 1)))) ∧ (¬ (m14 (9, 0, 0) 19) = 0 → ch_J g m_l_law R E 243 [some (.inr (11, 0, 0)), some (.inr (0, 0, 0)), some (.inr (9, 0, 0)), some (.inr (10, 0, 1)), some (.inr (10, 0, 2)), some (.inl (.int x5)), some (.inl (.int 0)), some (.inl (.int (Y_10 0 8))), o8, o9] [.inl (.int 0)] m14 (k + 1))))))) ∧ ((¬ (r_wn Y_10 ((ch_scr g).2.2 (Int32.toNatClampNeg (x5 + 1)))).1 = 0) → (∀ (B12 : ch_B), (m_rfd (ch_ob m3 9 0) B12 (r_wn Y_10 ((ch_scr g).2.2 (Int32.toNatClampNeg (x5 + 1)))).1 (r_wn Y_10 ((ch_scr g).2.2 (Int32.toNatClampNeg (x5 + 1)))).2) → (∀ m14 : ch_M, m14 = ch_os m3 9 0 B12 → ((((m14 (9, 0, 0) 19) = 0 → (((lg_cmp ((m14 (10, 0, 1) (0))).toInt64 (0).toInt64) = 0 → ch_J g m_l_law R E 2096 [some (.inr (11, 0, 0)), some (.inr (0, 0, 0)), some (.inr (9, 0, 0)), some (.inr (10, 0, 1)), some (.inr (10, 0, 2)), some (.inl (.int x5)), some (.inl (.int 0)), some (.inl (.int 0)), o8, o9] [] m14 (k + 1)) ∧ (¬ (lg_cmp ((m14 (10, 0, 1) (0))).toInt64 (0).toInt64) = 0 → ch_J g m_l_law R E 260 [some (.inr (11, 0, 0)), some (.inr (0, 0, 0)), some (.inr (9, 0, 0)), some (.inr (10, 0, 1)), some (.inr (10, 0, 2)), some (.inl (.int x5)), some (.inl (.int 0)), some (.inl (.int 0)), o8, o9] [.inl (.int 0)] m14 (k + 1)))) ∧ (¬ (m14 (9, 0, 0) 19) = 0 → ch_J g m_l_law R E 243 [some (.inr (11, 0, 0)), some (.inr (0, 0, 0)), some (.inr (9, 0, 0)), some (.inr (10, 0, 1)), some (.inr (10, 0, 2)), some (.inl (.int x5)), some (.inl (.int 0)), some (.inl (.int 0)), o8, o9] [.inl (.int 0)] m14 (k + 1)))))))))))) ∧ ((¬ (x_R (x_K m 110 0 0 ((ch_scr g).2.2 (Int32.toNatClampNeg (x5 + 1))))).1 = 0) → (∀ m3 : ch_M, m3 = r_kp (x_K m 110 0 0 ((ch_scr g).2.2 (Int32.toNatClampNeg (x5 + 1)))) (x_R (x_K m 110 0 0 ((ch_scr g).2.2 (Int32.toNatClampNeg (x5 + 1))))).1 (x_R (x_K m 110 0 0 ((ch_scr g).2.2 (Int32.toNatClampNeg (x5 + 1))))).2 → (∃ T_25 : Nat, (∃ Y_26 : ch_B, (m_rel Y_26 (m3 (9, 0, 1))) ∧ (y_inv T_25 Y_26) ∧ (vp_in (m3 (9, 0, 0) 4) 9) ∧ ((((r_wn Y_26 ((ch_scr g).2.2 (Int32.toNatClampNeg (x5 + 1)))).1 = 0) → (∀ (B27 : ch_B), (m_done (ch_ob m3 9 0) B27 (y_briB Y_26 ((ch_scr g).2.2 (Int32.toNatClampNeg (x5 + 1))))) → (∀ m30 : ch_M, m30 = ch_os m3 9 0 B27 → ((((m30 (9, 0, 0) 19) = 1 → ch_J g m_l_law R E 2096 [some (.inr (11, 0, 0)), some (.inr (0, 0, 0)), some (.inr (9, 0, 0)), some (.inr (10, 0, 1)), some (.inr (10, 0, 2)), some (.inl (.int x5)), some (.inl (.int 1)), some (.inl (.int (Y_26 0 8))), o8, o9] [] m30 (k + 1)) ∧ (¬ (m30 (9, 0, 0) 19) = 1 → ch_J g m_l_law R E 243 [some (.inr (11, 0, 0)), some (.inr (0, 0, 0)), some (.inr (9, 0, 0)), some (.inr (10, 0, 1)), some (.inr (10, 0, 2)), some (.inl (.int x5)), some (.inl (.int 1)), some (.inl (.int (Y_26 0 8))), o8, o9] [.inl (.int 0)] m30 (k + 1))))))) ∧ ((¬ (r_wn Y_26 ((ch_scr g).2.2 (Int32.toNatClampNeg (x5 + 1)))).1 = 0) → (∀ (B28 : ch_B), (m_rfd (ch_ob m3 9 0) B28 (r_wn Y_26 ((ch_scr g).2.2 (Int32.toNatClampNeg (x5 + 1)))).1 (r_wn Y_26 ((ch_scr g).2.2 (Int32.toNatClampNeg (x5 + 1)))).2) → (∀ m30 : ch_M, m30 = ch_os m3 9 0 B28 → ((((m30 (9, 0, 0) 19) = 1 → ch_J g m_l_law R E 2096 [some (.inr (11, 0, 0)), some (.inr (0, 0, 0)), some (.inr (9, 0, 0)), some (.inr (10, 0, 1)), some (.inr (10, 0, 2)), some (.inl (.int x5)), some (.inl (.int 1)), some (.inl (.int 0)), o8, o9] [] m30 (k + 1)) ∧ (¬ (m30 (9, 0, 0) 19) = 1 → ch_J g m_l_law R E 243 [some (.inr (11, 0, 0)), some (.inr (0, 0, 0)), some (.inr (9, 0, 0)), some (.inr (10, 0, 1)), some (.inr (10, 0, 2)), some (.inl (.int x5)), some (.inl (.int 1)), some (.inl (.int 0)), o8, o9] [.inl (.int 0)] m30 (k + 1)))))))))))))) : ch_J g m_l_law R E 208 [some (.inr (11, 0, 0)), some (.inr (0, 0, 0)), some (.inr (9, 0, 0)), some (.inr (10, 0, 1)), some (.inr (10, 0, 2)), some (.inl (.int x5)), o6, o7, o8, o9] [] m k := by
  refine ch_aload_n (i := 1) d_l_law_208 rfl rfl ?_
  refine ch_aload_n (i := 0) d_l_law_209 rfl rfl ?_
  refine ch_iload d_l_law_210 rfl ?_
  refine ch_iconst (v := 1) d_l_law_212 (by decide) ?_
  refine ch_iadd d_l_law_213 ?_
  have b1 := h.1
  replace h := h.2
  refine ch_sld d_l_law_214 b1 ?_
  refine ch_aload_n (i := 3) d_l_law_215 rfl rfl ?_
  have b5 := h.1
  replace h := h.2
  have b6 := h.1
  replace h := h.2
  have b7 := h.1
  replace h := h.2
  have b8 := h.1
  replace h := h.2
  refine ch_callSX (as := [.inr (0, 0, 0), .inl (.int ((ch_scr g).2.2 (Int32.toNatClampNeg (x5 + 1)))), .inr (10, 0, 1)]) d_l_law_216 lk_l_123 ms_l_child rfl rfl (ch_hR hR (Nat.le_of_ble_eq_true rfl)) (Nat.le_of_ble_eq_true rfl) (ch_rc0 (k := k) (b := 1) hcs (Nat.le_of_ble_eq_true rfl)) (ch_mono (ch_Ki (fun r2 m3 q4 => ?_)) (s_l_child g (fun (r_ : Int32) (m_ : ch_M) => (((x_R (x_K m 110 0 0 ((ch_scr g).2.2 (Int32.toNatClampNeg (x5 + 1))))).1 = 0) ∧ 0 = r_ ∧ m_ = (ch_wr (ch_os (p_kM (x_K m 110 0 0 ((ch_scr g).2.2 (Int32.toNatClampNeg (x5 + 1)))) 0) 1 0 (x_C (x_K m 110 0 0 ((ch_scr g).2.2 (Int32.toNatClampNeg (x5 + 1))))).2) (10, 0, 1) 0 ((x_C (x_K m 110 0 0 ((ch_scr g).2.2 (Int32.toNatClampNeg (x5 + 1))))).1))) ∨ ((¬ (x_R (x_K m 110 0 0 ((ch_scr g).2.2 (Int32.toNatClampNeg (x5 + 1))))).1 = 0) ∧ 1 = r_ ∧ m_ = r_kp (x_K m 110 0 0 ((ch_scr g).2.2 (Int32.toNatClampNeg (x5 + 1)))) (x_R (x_K m 110 0 0 ((ch_scr g).2.2 (Int32.toNatClampNeg (x5 + 1))))).1 (x_R (x_K m 110 0 0 ((ch_scr g).2.2 (Int32.toNatClampNeg (x5 + 1))))).2)) (((ch_scr g).2.2 (Int32.toNatClampNeg (x5 + 1)))) m ⟨b5, b6, b7, b8, (fun c_ => (Or.inl ⟨c_, rfl, rfl⟩)), (fun c_ => (Or.inr ⟨c_, rfl, rfl⟩))⟩))
  rcases q4 with ⟨c_, rfl, hm_⟩ | ⟨c_, rfl, hm_⟩
  · replace h := h.1 c_ m3 hm_
    refine ch_istore (i := 6) d_l_law_219 (Nat.le_of_ble_eq_true rfl) (ls' := [some (.inr (11, 0, 0)), some (.inr (0, 0, 0)), some (.inr (9, 0, 0)), some (.inr (10, 0, 1)), some (.inr (10, 0, 2)), some (.inl (.int x5)), some (.inl (.int 0)), o7, o8, o9]) rfl ?_
    refine ch_aload_n (i := 2) d_l_law_221 rfl rfl ?_
    refine ch_aload_n (i := 0) d_l_law_222 rfl rfl ?_
    refine ch_iload d_l_law_223 rfl ?_
    refine ch_iconst (v := 1) d_l_law_225 (by decide) ?_
    refine ch_iadd d_l_law_226 ?_
    refine ch_sld d_l_law_227 b1 ?_
    obtain ⟨T_9, h⟩ := h
    obtain ⟨Y_10, h⟩ := h
    have b16 := h.1
    replace h := h.2
    have b17 := h.1
    replace h := h.2
    have b18 := h.1
    replace h := h.2
    refine ch_callV (as := [.inl (.int ((ch_scr g).2.2 (Int32.toNatClampNeg (x5 + 1))))]) d_l_law_228 lk_l_128 mi_m_child me_m_child rfl rfl rfl (ch_hR hR (Nat.le_of_ble_eq_true rfl)) (Nat.le_of_ble_eq_true rfl) (ch_rc1 (k := k) (a := 1) (b := 0) hcs (Nat.le_of_ble_eq_true rfl)) (ch_mono (ch_Ki (fun r13 m14 q15 => ?_)) (s_m_child g (fun (r_ : Int32) (m_ : ch_M) => (∃ (B11 : ch_B), ((r_wn Y_10 ((ch_scr g).2.2 (Int32.toNatClampNeg (x5 + 1)))).1 = 0) ∧ (Y_10 0 8) = r_ ∧ (m_done (ch_ob m3 9 0) B11 (y_briB Y_10 ((ch_scr g).2.2 (Int32.toNatClampNeg (x5 + 1))))) ∧ m_ = ch_os m3 9 0 B11) ∨ (∃ (B12 : ch_B), (¬ (r_wn Y_10 ((ch_scr g).2.2 (Int32.toNatClampNeg (x5 + 1)))).1 = 0) ∧ 0 = r_ ∧ (m_rfd (ch_ob m3 9 0) B12 (r_wn Y_10 ((ch_scr g).2.2 (Int32.toNatClampNeg (x5 + 1)))).1 (r_wn Y_10 ((ch_scr g).2.2 (Int32.toNatClampNeg (x5 + 1)))).2) ∧ m_ = ch_os m3 9 0 B12)) (T_9) (Y_10) (((ch_scr g).2.2 (Int32.toNatClampNeg (x5 + 1)))) m3 ⟨b16, b17, b18, (fun c_ B11 f0_ => (Or.inl ⟨B11, c_, rfl, f0_, rfl⟩)), (fun c_ B12 f0_ => (Or.inr ⟨B12, c_, rfl, f0_, rfl⟩))⟩))
    rcases q15 with ⟨B11, c_, rfl, f0_, hm_⟩ | ⟨B12, c_, rfl, f0_, hm_⟩
    · replace h := h.1 c_ B11 f0_ m14 hm_
      refine ch_istore (i := 7) d_l_law_231 (Nat.le_of_ble_eq_true rfl) (ls' := [some (.inr (11, 0, 0)), some (.inr (0, 0, 0)), some (.inr (9, 0, 0)), some (.inr (10, 0, 1)), some (.inr (10, 0, 2)), some (.inl (.int x5)), some (.inl (.int 0)), some (.inl (.int (Y_10 0 8))), o8, o9]) rfl ?_
      refine ch_aload_n (i := 2) d_l_law_233 rfl rfl ?_
      refine ch_callV (as := []) d_l_law_234 lk_l_129 mi_m_thrown me_m_thrown rfl rfl rfl (ch_hR hR (Nat.le_of_ble_eq_true rfl)) (Nat.le_of_ble_eq_true rfl) (ch_rc1 (k := k) (a := 1) (b := 0) hcs (Nat.le_of_ble_eq_true rfl)) (ch_mono (ch_Ki (fun r19 m20 q21 => ?_)) (s_m_thrown g (fun (r_ : Int32) (m_ : ch_M) => ((m14 (9, 0, 0) 19) = r_ ∧ m14 = m_))  m14 ⟨rfl, rfl⟩))
      obtain ⟨rfl, rfl⟩ := q21
      replace h := h
      refine ch_iload d_l_law_237 rfl ?_
      refine ch_icmp_eq (tgt := 244) d_l_law_239 (by decide) (fun c => ?_) (fun c => ?_)
      · replace h := h.1 c
        refine ch_iload d_l_law_244 rfl ?_
        refine ch_if_ne (tgt := 261) d_l_law_246 (by decide) (fun c => absurd c (by decide)) (fun _ => ?_)
        refine ch_aload_n (i := 3) d_l_law_249 rfl rfl ?_
        refine ch_iconst (v := 0) d_l_law_250 (by decide) ?_
        refine ch_lald (n := 1) d_l_law_251 (by decide) rfl (vp_in_nI (n := 0) (by decide) (by decide)) ?_
        refine ch_iload d_l_law_252 rfl ?_
        refine ch_i2l d_l_law_254 ?_
        refine ch_lcmp d_l_law_255 ?_
        refine ch_if_eq (tgt := 261) d_l_law_256 (by decide) (fun c => ?_) (fun c => ?_)
        · replace h := h.1 c
          refine ch_goto (tgt := 2096) d_l_law_261 (by decide) ?_
          exact h
        · replace h := h.2 c
          refine ch_iconst (v := 0) d_l_law_259 (by decide) ?_
          exact h
      · replace h := h.2 c
        refine ch_iconst (v := 0) d_l_law_242 (by decide) ?_
        exact h
    · replace h := h.2 c_ B12 f0_ m14 hm_
      refine ch_istore (i := 7) d_l_law_231 (Nat.le_of_ble_eq_true rfl) (ls' := [some (.inr (11, 0, 0)), some (.inr (0, 0, 0)), some (.inr (9, 0, 0)), some (.inr (10, 0, 1)), some (.inr (10, 0, 2)), some (.inl (.int x5)), some (.inl (.int 0)), some (.inl (.int 0)), o8, o9]) rfl ?_
      refine ch_aload_n (i := 2) d_l_law_233 rfl rfl ?_
      refine ch_callV (as := []) d_l_law_234 lk_l_129 mi_m_thrown me_m_thrown rfl rfl rfl (ch_hR hR (Nat.le_of_ble_eq_true rfl)) (Nat.le_of_ble_eq_true rfl) (ch_rc1 (k := k) (a := 1) (b := 0) hcs (Nat.le_of_ble_eq_true rfl)) (ch_mono (ch_Ki (fun r22 m23 q24 => ?_)) (s_m_thrown g (fun (r_ : Int32) (m_ : ch_M) => ((m14 (9, 0, 0) 19) = r_ ∧ m14 = m_))  m14 ⟨rfl, rfl⟩))
      obtain ⟨rfl, rfl⟩ := q24
      replace h := h
      refine ch_iload d_l_law_237 rfl ?_
      refine ch_icmp_eq (tgt := 244) d_l_law_239 (by decide) (fun c => ?_) (fun c => ?_)
      · replace h := h.1 c
        refine ch_iload d_l_law_244 rfl ?_
        refine ch_if_ne (tgt := 261) d_l_law_246 (by decide) (fun c => absurd c (by decide)) (fun _ => ?_)
        refine ch_aload_n (i := 3) d_l_law_249 rfl rfl ?_
        refine ch_iconst (v := 0) d_l_law_250 (by decide) ?_
        refine ch_lald (n := 1) d_l_law_251 (by decide) rfl (vp_in_nI (n := 0) (by decide) (by decide)) ?_
        refine ch_iload d_l_law_252 rfl ?_
        refine ch_i2l d_l_law_254 ?_
        refine ch_lcmp d_l_law_255 ?_
        refine ch_if_eq (tgt := 261) d_l_law_256 (by decide) (fun c => ?_) (fun c => ?_)
        · replace h := h.1 c
          refine ch_goto (tgt := 2096) d_l_law_261 (by decide) ?_
          exact h
        · replace h := h.2 c
          refine ch_iconst (v := 0) d_l_law_259 (by decide) ?_
          exact h
      · replace h := h.2 c
        refine ch_iconst (v := 0) d_l_law_242 (by decide) ?_
        exact h
  · replace h := h.2 c_ m3 hm_
    refine ch_istore (i := 6) d_l_law_219 (Nat.le_of_ble_eq_true rfl) (ls' := [some (.inr (11, 0, 0)), some (.inr (0, 0, 0)), some (.inr (9, 0, 0)), some (.inr (10, 0, 1)), some (.inr (10, 0, 2)), some (.inl (.int x5)), some (.inl (.int 1)), o7, o8, o9]) rfl ?_
    refine ch_aload_n (i := 2) d_l_law_221 rfl rfl ?_
    refine ch_aload_n (i := 0) d_l_law_222 rfl rfl ?_
    refine ch_iload d_l_law_223 rfl ?_
    refine ch_iconst (v := 1) d_l_law_225 (by decide) ?_
    refine ch_iadd d_l_law_226 ?_
    refine ch_sld d_l_law_227 b1 ?_
    obtain ⟨T_25, h⟩ := h
    obtain ⟨Y_26, h⟩ := h
    have b32 := h.1
    replace h := h.2
    have b33 := h.1
    replace h := h.2
    have b34 := h.1
    replace h := h.2
    refine ch_callV (as := [.inl (.int ((ch_scr g).2.2 (Int32.toNatClampNeg (x5 + 1))))]) d_l_law_228 lk_l_128 mi_m_child me_m_child rfl rfl rfl (ch_hR hR (Nat.le_of_ble_eq_true rfl)) (Nat.le_of_ble_eq_true rfl) (ch_rc1 (k := k) (a := 1) (b := 0) hcs (Nat.le_of_ble_eq_true rfl)) (ch_mono (ch_Ki (fun r29 m30 q31 => ?_)) (s_m_child g (fun (r_ : Int32) (m_ : ch_M) => (∃ (B27 : ch_B), ((r_wn Y_26 ((ch_scr g).2.2 (Int32.toNatClampNeg (x5 + 1)))).1 = 0) ∧ (Y_26 0 8) = r_ ∧ (m_done (ch_ob m3 9 0) B27 (y_briB Y_26 ((ch_scr g).2.2 (Int32.toNatClampNeg (x5 + 1))))) ∧ m_ = ch_os m3 9 0 B27) ∨ (∃ (B28 : ch_B), (¬ (r_wn Y_26 ((ch_scr g).2.2 (Int32.toNatClampNeg (x5 + 1)))).1 = 0) ∧ 0 = r_ ∧ (m_rfd (ch_ob m3 9 0) B28 (r_wn Y_26 ((ch_scr g).2.2 (Int32.toNatClampNeg (x5 + 1)))).1 (r_wn Y_26 ((ch_scr g).2.2 (Int32.toNatClampNeg (x5 + 1)))).2) ∧ m_ = ch_os m3 9 0 B28)) (T_25) (Y_26) (((ch_scr g).2.2 (Int32.toNatClampNeg (x5 + 1)))) m3 ⟨b32, b33, b34, (fun c_ B27 f0_ => (Or.inl ⟨B27, c_, rfl, f0_, rfl⟩)), (fun c_ B28 f0_ => (Or.inr ⟨B28, c_, rfl, f0_, rfl⟩))⟩))
    rcases q31 with ⟨B27, c_, rfl, f0_, hm_⟩ | ⟨B28, c_, rfl, f0_, hm_⟩
    · replace h := h.1 c_ B27 f0_ m30 hm_
      refine ch_istore (i := 7) d_l_law_231 (Nat.le_of_ble_eq_true rfl) (ls' := [some (.inr (11, 0, 0)), some (.inr (0, 0, 0)), some (.inr (9, 0, 0)), some (.inr (10, 0, 1)), some (.inr (10, 0, 2)), some (.inl (.int x5)), some (.inl (.int 1)), some (.inl (.int (Y_26 0 8))), o8, o9]) rfl ?_
      refine ch_aload_n (i := 2) d_l_law_233 rfl rfl ?_
      refine ch_callV (as := []) d_l_law_234 lk_l_129 mi_m_thrown me_m_thrown rfl rfl rfl (ch_hR hR (Nat.le_of_ble_eq_true rfl)) (Nat.le_of_ble_eq_true rfl) (ch_rc1 (k := k) (a := 1) (b := 0) hcs (Nat.le_of_ble_eq_true rfl)) (ch_mono (ch_Ki (fun r35 m36 q37 => ?_)) (s_m_thrown g (fun (r_ : Int32) (m_ : ch_M) => ((m30 (9, 0, 0) 19) = r_ ∧ m30 = m_))  m30 ⟨rfl, rfl⟩))
      obtain ⟨rfl, rfl⟩ := q37
      replace h := h
      refine ch_iload d_l_law_237 rfl ?_
      refine ch_icmp_eq (tgt := 244) d_l_law_239 (by decide) (fun c => ?_) (fun c => ?_)
      · replace h := h.1 c
        refine ch_iload d_l_law_244 rfl ?_
        refine ch_if_ne (tgt := 261) d_l_law_246 (by decide) (fun _ => ?_) (fun c => absurd c (by decide))
        refine ch_goto (tgt := 2096) d_l_law_261 (by decide) ?_
        exact h
      · replace h := h.2 c
        refine ch_iconst (v := 0) d_l_law_242 (by decide) ?_
        exact h
    · replace h := h.2 c_ B28 f0_ m30 hm_
      refine ch_istore (i := 7) d_l_law_231 (Nat.le_of_ble_eq_true rfl) (ls' := [some (.inr (11, 0, 0)), some (.inr (0, 0, 0)), some (.inr (9, 0, 0)), some (.inr (10, 0, 1)), some (.inr (10, 0, 2)), some (.inl (.int x5)), some (.inl (.int 1)), some (.inl (.int 0)), o8, o9]) rfl ?_
      refine ch_aload_n (i := 2) d_l_law_233 rfl rfl ?_
      refine ch_callV (as := []) d_l_law_234 lk_l_129 mi_m_thrown me_m_thrown rfl rfl rfl (ch_hR hR (Nat.le_of_ble_eq_true rfl)) (Nat.le_of_ble_eq_true rfl) (ch_rc1 (k := k) (a := 1) (b := 0) hcs (Nat.le_of_ble_eq_true rfl)) (ch_mono (ch_Ki (fun r38 m39 q40 => ?_)) (s_m_thrown g (fun (r_ : Int32) (m_ : ch_M) => ((m30 (9, 0, 0) 19) = r_ ∧ m30 = m_))  m30 ⟨rfl, rfl⟩))
      obtain ⟨rfl, rfl⟩ := q40
      replace h := h
      refine ch_iload d_l_law_237 rfl ?_
      refine ch_icmp_eq (tgt := 244) d_l_law_239 (by decide) (fun c => ?_) (fun c => ?_)
      · replace h := h.1 c
        refine ch_iload d_l_law_244 rfl ?_
        refine ch_if_ne (tgt := 261) d_l_law_246 (by decide) (fun _ => ?_) (fun c => absurd c (by decide))
        refine ch_goto (tgt := 2096) d_l_law_261 (by decide) ?_
        exact h
      · replace h := h.2 c
        refine ch_iconst (v := 0) d_l_law_242 (by decide) ?_
        exact h
set_option maxHeartbeats 1600000 in
theorem g_l_law_264 (g : ch_G) (R : Room) (E : ch_En) (k : Nat) (hR : ch_RR R 18) (hcs : k + 40 ≤ R.cells ∧ 6 * k + 240 ≤ R.slots) (x5 : Int32) (o6 : Option ch_V) (o7 : Option ch_V) (o8 : Option ch_V) (o9 : Option ch_V) (m : ch_M) (h : (vp_in (x5 + 1) (ch_scr g).2.1) ∧ (vp_in (x5 + 2) (ch_scr g).2.1) ∧ (vp_in ((x_K m 99 ((ch_scr g).2.2 (Int32.toNatClampNeg (x5 + 1))) 0 ((ch_scr g).2.2 (Int32.toNatClampNeg (x5 + 2)))) (1, 0, 0) 8) 6) ∧ (vp_in ((x_K m 99 ((ch_scr g).2.2 (Int32.toNatClampNeg (x5 + 1))) 0 ((ch_scr g).2.2 (Int32.toNatClampNeg (x5 + 2)))) (5, 0, 0) 1) 13) ∧ (vp_in ((x_K m 99 ((ch_scr g).2.2 (Int32.toNatClampNeg (x5 + 1))) 0 ((ch_scr g).2.2 (Int32.toNatClampNeg (x5 + 2)))) (2, 0, 0) 1) 8) ∧ ((x_R (x_K m 99 ((ch_scr g).2.2 (Int32.toNatClampNeg (x5 + 1))) 0 ((ch_scr g).2.2 (Int32.toNatClampNeg (x5 + 2))))).1 = 0 → y_carP (ch_ob (x_K m 99 ((ch_scr g).2.2 (Int32.toNatClampNeg (x5 + 1))) 0 ((ch_scr g).2.2 (Int32.toNatClampNeg (x5 + 2)))) 1 0) (ch_ob (x_K m 99 ((ch_scr g).2.2 (Int32.toNatClampNeg (x5 + 1))) 0 ((ch_scr g).2.2 (Int32.toNatClampNeg (x5 + 2)))) 4 0) ((x_K m 99 ((ch_scr g).2.2 (Int32.toNatClampNeg (x5 + 1))) 0 ((ch_scr g).2.2 (Int32.toNatClampNeg (x5 + 2)))) (5, 0, 0) 1)) ∧ ((((x_R (x_K m 99 ((ch_scr g).2.2 (Int32.toNatClampNeg (x5 + 1))) 0 ((ch_scr g).2.2 (Int32.toNatClampNeg (x5 + 2))))).1 = 0) → (∀ m4 : ch_M, m4 = (ch_wr (ch_os (p_kM (x_K m 99 ((ch_scr g).2.2 (Int32.toNatClampNeg (x5 + 1))) 0 ((ch_scr g).2.2 (Int32.toNatClampNeg (x5 + 2)))) 0) 1 0 (x_C (x_K m 99 ((ch_scr g).2.2 (Int32.toNatClampNeg (x5 + 1))) 0 ((ch_scr g).2.2 (Int32.toNatClampNeg (x5 + 2))))).2) (10, 0, 1) 0 ((x_C (x_K m 99 ((ch_scr g).2.2 (Int32.toNatClampNeg (x5 + 1))) 0 ((ch_scr g).2.2 (Int32.toNatClampNeg (x5 + 2))))).1)) → (∃ T_10 : Nat, (∃ Y_11 : ch_B, (m_rel Y_11 (m4 (9, 0, 1))) ∧ (y_inv T_10 Y_11) ∧ (vp_in (m4 (9, 0, 0) 4) 9) ∧ ((((r_wc Y_11 ((ch_scr g).2.2 (Int32.toNatClampNeg (x5 + 1))) ((ch_scr g).2.2 (Int32.toNatClampNeg (x5 + 2)))).1 = 0) → (∀ (B12 : ch_B), (m_done (ch_ob m4 9 0) B12 (y_chaB Y_11 ((ch_scr g).2.2 (Int32.toNatClampNeg (x5 + 1))) ((ch_scr g).2.2 (Int32.toNatClampNeg (x5 + 2))))) → (∀ m15 : ch_M, m15 = ch_os m4 9 0 B12 → ((((m15 (9, 0, 0) 19) = 0 → (((lg_cmp ((m15 (10, 0, 1) (0))).toInt64 ((y_chv Y_11 ((ch_scr g).2.2 (Int32.toNatClampNeg (x5 + 2))))).toInt64) = 0 → ch_J g m_l_law R E 2096 [some (.inr (11, 0, 0)), some (.inr (0, 0, 0)), some (.inr (9, 0, 0)), some (.inr (10, 0, 1)), some (.inr (10, 0, 2)), some (.inl (.int x5)), some (.inl (.int 0)), some (.inl (.int (y_chv Y_11 ((ch_scr g).2.2 (Int32.toNatClampNeg (x5 + 2)))))), o8, o9] [] m15 (k + 1)) ∧ (¬ (lg_cmp ((m15 (10, 0, 1) (0))).toInt64 ((y_chv Y_11 ((ch_scr g).2.2 (Int32.toNatClampNeg (x5 + 2))))).toInt64) = 0 → ch_J g m_l_law R E 328 [some (.inr (11, 0, 0)), some (.inr (0, 0, 0)), some (.inr (9, 0, 0)), some (.inr (10, 0, 1)), some (.inr (10, 0, 2)), some (.inl (.int x5)), some (.inl (.int 0)), some (.inl (.int (y_chv Y_11 ((ch_scr g).2.2 (Int32.toNatClampNeg (x5 + 2)))))), o8, o9] [.inl (.int 0)] m15 (k + 1)))) ∧ (¬ (m15 (9, 0, 0) 19) = 0 → ch_J g m_l_law R E 311 [some (.inr (11, 0, 0)), some (.inr (0, 0, 0)), some (.inr (9, 0, 0)), some (.inr (10, 0, 1)), some (.inr (10, 0, 2)), some (.inl (.int x5)), some (.inl (.int 0)), some (.inl (.int (y_chv Y_11 ((ch_scr g).2.2 (Int32.toNatClampNeg (x5 + 2)))))), o8, o9] [.inl (.int 0)] m15 (k + 1))))))) ∧ ((¬ (r_wc Y_11 ((ch_scr g).2.2 (Int32.toNatClampNeg (x5 + 1))) ((ch_scr g).2.2 (Int32.toNatClampNeg (x5 + 2)))).1 = 0) → (∀ (B13 : ch_B), (m_rfd (ch_ob m4 9 0) B13 (r_wc Y_11 ((ch_scr g).2.2 (Int32.toNatClampNeg (x5 + 1))) ((ch_scr g).2.2 (Int32.toNatClampNeg (x5 + 2)))).1 (r_wc Y_11 ((ch_scr g).2.2 (Int32.toNatClampNeg (x5 + 1))) ((ch_scr g).2.2 (Int32.toNatClampNeg (x5 + 2)))).2) → (∀ m15 : ch_M, m15 = ch_os m4 9 0 B13 → ((((m15 (9, 0, 0) 19) = 0 → (((lg_cmp ((m15 (10, 0, 1) (0))).toInt64 (0).toInt64) = 0 → ch_J g m_l_law R E 2096 [some (.inr (11, 0, 0)), some (.inr (0, 0, 0)), some (.inr (9, 0, 0)), some (.inr (10, 0, 1)), some (.inr (10, 0, 2)), some (.inl (.int x5)), some (.inl (.int 0)), some (.inl (.int 0)), o8, o9] [] m15 (k + 1)) ∧ (¬ (lg_cmp ((m15 (10, 0, 1) (0))).toInt64 (0).toInt64) = 0 → ch_J g m_l_law R E 328 [some (.inr (11, 0, 0)), some (.inr (0, 0, 0)), some (.inr (9, 0, 0)), some (.inr (10, 0, 1)), some (.inr (10, 0, 2)), some (.inl (.int x5)), some (.inl (.int 0)), some (.inl (.int 0)), o8, o9] [.inl (.int 0)] m15 (k + 1)))) ∧ (¬ (m15 (9, 0, 0) 19) = 0 → ch_J g m_l_law R E 311 [some (.inr (11, 0, 0)), some (.inr (0, 0, 0)), some (.inr (9, 0, 0)), some (.inr (10, 0, 1)), some (.inr (10, 0, 2)), some (.inl (.int x5)), some (.inl (.int 0)), some (.inl (.int 0)), o8, o9] [.inl (.int 0)] m15 (k + 1)))))))))))) ∧ ((¬ (x_R (x_K m 99 ((ch_scr g).2.2 (Int32.toNatClampNeg (x5 + 1))) 0 ((ch_scr g).2.2 (Int32.toNatClampNeg (x5 + 2))))).1 = 0) → (∀ m4 : ch_M, m4 = r_kp (x_K m 99 ((ch_scr g).2.2 (Int32.toNatClampNeg (x5 + 1))) 0 ((ch_scr g).2.2 (Int32.toNatClampNeg (x5 + 2)))) (x_R (x_K m 99 ((ch_scr g).2.2 (Int32.toNatClampNeg (x5 + 1))) 0 ((ch_scr g).2.2 (Int32.toNatClampNeg (x5 + 2))))).1 (x_R (x_K m 99 ((ch_scr g).2.2 (Int32.toNatClampNeg (x5 + 1))) 0 ((ch_scr g).2.2 (Int32.toNatClampNeg (x5 + 2))))).2 → (∃ T_26 : Nat, (∃ Y_27 : ch_B, (m_rel Y_27 (m4 (9, 0, 1))) ∧ (y_inv T_26 Y_27) ∧ (vp_in (m4 (9, 0, 0) 4) 9) ∧ ((((r_wc Y_27 ((ch_scr g).2.2 (Int32.toNatClampNeg (x5 + 1))) ((ch_scr g).2.2 (Int32.toNatClampNeg (x5 + 2)))).1 = 0) → (∀ (B28 : ch_B), (m_done (ch_ob m4 9 0) B28 (y_chaB Y_27 ((ch_scr g).2.2 (Int32.toNatClampNeg (x5 + 1))) ((ch_scr g).2.2 (Int32.toNatClampNeg (x5 + 2))))) → (∀ m31 : ch_M, m31 = ch_os m4 9 0 B28 → ((((m31 (9, 0, 0) 19) = 1 → ch_J g m_l_law R E 2096 [some (.inr (11, 0, 0)), some (.inr (0, 0, 0)), some (.inr (9, 0, 0)), some (.inr (10, 0, 1)), some (.inr (10, 0, 2)), some (.inl (.int x5)), some (.inl (.int 1)), some (.inl (.int (y_chv Y_27 ((ch_scr g).2.2 (Int32.toNatClampNeg (x5 + 2)))))), o8, o9] [] m31 (k + 1)) ∧ (¬ (m31 (9, 0, 0) 19) = 1 → ch_J g m_l_law R E 311 [some (.inr (11, 0, 0)), some (.inr (0, 0, 0)), some (.inr (9, 0, 0)), some (.inr (10, 0, 1)), some (.inr (10, 0, 2)), some (.inl (.int x5)), some (.inl (.int 1)), some (.inl (.int (y_chv Y_27 ((ch_scr g).2.2 (Int32.toNatClampNeg (x5 + 2)))))), o8, o9] [.inl (.int 0)] m31 (k + 1))))))) ∧ ((¬ (r_wc Y_27 ((ch_scr g).2.2 (Int32.toNatClampNeg (x5 + 1))) ((ch_scr g).2.2 (Int32.toNatClampNeg (x5 + 2)))).1 = 0) → (∀ (B29 : ch_B), (m_rfd (ch_ob m4 9 0) B29 (r_wc Y_27 ((ch_scr g).2.2 (Int32.toNatClampNeg (x5 + 1))) ((ch_scr g).2.2 (Int32.toNatClampNeg (x5 + 2)))).1 (r_wc Y_27 ((ch_scr g).2.2 (Int32.toNatClampNeg (x5 + 1))) ((ch_scr g).2.2 (Int32.toNatClampNeg (x5 + 2)))).2) → (∀ m31 : ch_M, m31 = ch_os m4 9 0 B29 → ((((m31 (9, 0, 0) 19) = 1 → ch_J g m_l_law R E 2096 [some (.inr (11, 0, 0)), some (.inr (0, 0, 0)), some (.inr (9, 0, 0)), some (.inr (10, 0, 1)), some (.inr (10, 0, 2)), some (.inl (.int x5)), some (.inl (.int 1)), some (.inl (.int 0)), o8, o9] [] m31 (k + 1)) ∧ (¬ (m31 (9, 0, 0) 19) = 1 → ch_J g m_l_law R E 311 [some (.inr (11, 0, 0)), some (.inr (0, 0, 0)), some (.inr (9, 0, 0)), some (.inr (10, 0, 1)), some (.inr (10, 0, 2)), some (.inl (.int x5)), some (.inl (.int 1)), some (.inl (.int 0)), o8, o9] [.inl (.int 0)] m31 (k + 1)))))))))))))) : ch_J g m_l_law R E 264 [some (.inr (11, 0, 0)), some (.inr (0, 0, 0)), some (.inr (9, 0, 0)), some (.inr (10, 0, 1)), some (.inr (10, 0, 2)), some (.inl (.int x5)), o6, o7, o8, o9] [] m k := by
  refine ch_aload_n (i := 1) d_l_law_264 rfl rfl ?_
  refine ch_aload_n (i := 0) d_l_law_265 rfl rfl ?_
  refine ch_iload d_l_law_266 rfl ?_
  refine ch_iconst (v := 1) d_l_law_268 (by decide) ?_
  refine ch_iadd d_l_law_269 ?_
  have b1 := h.1
  replace h := h.2
  refine ch_sld d_l_law_270 b1 ?_
  refine ch_aload_n (i := 0) d_l_law_271 rfl rfl ?_
  refine ch_iload d_l_law_272 rfl ?_
  refine ch_iconst (v := 2) d_l_law_274 (by decide) ?_
  refine ch_iadd d_l_law_275 ?_
  have b2 := h.1
  replace h := h.2
  refine ch_sld d_l_law_276 b2 ?_
  refine ch_aload_n (i := 3) d_l_law_277 rfl rfl ?_
  have b6 := h.1
  replace h := h.2
  have b7 := h.1
  replace h := h.2
  have b8 := h.1
  replace h := h.2
  have b9 := h.1
  replace h := h.2
  refine ch_callSX (as := [.inr (0, 0, 0), .inl (.int ((ch_scr g).2.2 (Int32.toNatClampNeg (x5 + 1)))), .inl (.int ((ch_scr g).2.2 (Int32.toNatClampNeg (x5 + 2)))), .inr (10, 0, 1)]) d_l_law_278 lk_l_132 ms_l_chalk rfl rfl (ch_hR hR (Nat.le_of_ble_eq_true rfl)) (Nat.le_of_ble_eq_true rfl) (ch_rc0 (k := k) (b := 1) hcs (Nat.le_of_ble_eq_true rfl)) (ch_mono (ch_Ki (fun r3 m4 q5 => ?_)) (s_l_chalk g (fun (r_ : Int32) (m_ : ch_M) => (((x_R (x_K m 99 ((ch_scr g).2.2 (Int32.toNatClampNeg (x5 + 1))) 0 ((ch_scr g).2.2 (Int32.toNatClampNeg (x5 + 2))))).1 = 0) ∧ 0 = r_ ∧ m_ = (ch_wr (ch_os (p_kM (x_K m 99 ((ch_scr g).2.2 (Int32.toNatClampNeg (x5 + 1))) 0 ((ch_scr g).2.2 (Int32.toNatClampNeg (x5 + 2)))) 0) 1 0 (x_C (x_K m 99 ((ch_scr g).2.2 (Int32.toNatClampNeg (x5 + 1))) 0 ((ch_scr g).2.2 (Int32.toNatClampNeg (x5 + 2))))).2) (10, 0, 1) 0 ((x_C (x_K m 99 ((ch_scr g).2.2 (Int32.toNatClampNeg (x5 + 1))) 0 ((ch_scr g).2.2 (Int32.toNatClampNeg (x5 + 2))))).1))) ∨ ((¬ (x_R (x_K m 99 ((ch_scr g).2.2 (Int32.toNatClampNeg (x5 + 1))) 0 ((ch_scr g).2.2 (Int32.toNatClampNeg (x5 + 2))))).1 = 0) ∧ 1 = r_ ∧ m_ = r_kp (x_K m 99 ((ch_scr g).2.2 (Int32.toNatClampNeg (x5 + 1))) 0 ((ch_scr g).2.2 (Int32.toNatClampNeg (x5 + 2)))) (x_R (x_K m 99 ((ch_scr g).2.2 (Int32.toNatClampNeg (x5 + 1))) 0 ((ch_scr g).2.2 (Int32.toNatClampNeg (x5 + 2))))).1 (x_R (x_K m 99 ((ch_scr g).2.2 (Int32.toNatClampNeg (x5 + 1))) 0 ((ch_scr g).2.2 (Int32.toNatClampNeg (x5 + 2))))).2)) (((ch_scr g).2.2 (Int32.toNatClampNeg (x5 + 1)))) (((ch_scr g).2.2 (Int32.toNatClampNeg (x5 + 2)))) m ⟨b6, b7, b8, b9, (fun c_ => (Or.inl ⟨c_, rfl, rfl⟩)), (fun c_ => (Or.inr ⟨c_, rfl, rfl⟩))⟩))
  rcases q5 with ⟨c_, rfl, hm_⟩ | ⟨c_, rfl, hm_⟩
  · replace h := h.1 c_ m4 hm_
    refine ch_istore (i := 6) d_l_law_281 (Nat.le_of_ble_eq_true rfl) (ls' := [some (.inr (11, 0, 0)), some (.inr (0, 0, 0)), some (.inr (9, 0, 0)), some (.inr (10, 0, 1)), some (.inr (10, 0, 2)), some (.inl (.int x5)), some (.inl (.int 0)), o7, o8, o9]) rfl ?_
    refine ch_aload_n (i := 2) d_l_law_283 rfl rfl ?_
    refine ch_aload_n (i := 0) d_l_law_284 rfl rfl ?_
    refine ch_iload d_l_law_285 rfl ?_
    refine ch_iconst (v := 1) d_l_law_287 (by decide) ?_
    refine ch_iadd d_l_law_288 ?_
    refine ch_sld d_l_law_289 b1 ?_
    refine ch_aload_n (i := 0) d_l_law_290 rfl rfl ?_
    refine ch_iload d_l_law_291 rfl ?_
    refine ch_iconst (v := 2) d_l_law_293 (by decide) ?_
    refine ch_iadd d_l_law_294 ?_
    refine ch_sld d_l_law_295 b2 ?_
    obtain ⟨T_10, h⟩ := h
    obtain ⟨Y_11, h⟩ := h
    have b17 := h.1
    replace h := h.2
    have b18 := h.1
    replace h := h.2
    have b19 := h.1
    replace h := h.2
    refine ch_callV (as := [.inl (.int ((ch_scr g).2.2 (Int32.toNatClampNeg (x5 + 1)))), .inl (.int ((ch_scr g).2.2 (Int32.toNatClampNeg (x5 + 2))))]) d_l_law_296 lk_l_135 mi_m_chalk me_m_chalk rfl rfl rfl (ch_hR hR (Nat.le_of_ble_eq_true rfl)) (Nat.le_of_ble_eq_true rfl) (ch_rc1 (k := k) (a := 1) (b := 0) hcs (Nat.le_of_ble_eq_true rfl)) (ch_mono (ch_Ki (fun r14 m15 q16 => ?_)) (s_m_chalk g (fun (r_ : Int32) (m_ : ch_M) => (∃ (B12 : ch_B), ((r_wc Y_11 ((ch_scr g).2.2 (Int32.toNatClampNeg (x5 + 1))) ((ch_scr g).2.2 (Int32.toNatClampNeg (x5 + 2)))).1 = 0) ∧ (y_chv Y_11 ((ch_scr g).2.2 (Int32.toNatClampNeg (x5 + 2)))) = r_ ∧ (m_done (ch_ob m4 9 0) B12 (y_chaB Y_11 ((ch_scr g).2.2 (Int32.toNatClampNeg (x5 + 1))) ((ch_scr g).2.2 (Int32.toNatClampNeg (x5 + 2))))) ∧ m_ = ch_os m4 9 0 B12) ∨ (∃ (B13 : ch_B), (¬ (r_wc Y_11 ((ch_scr g).2.2 (Int32.toNatClampNeg (x5 + 1))) ((ch_scr g).2.2 (Int32.toNatClampNeg (x5 + 2)))).1 = 0) ∧ 0 = r_ ∧ (m_rfd (ch_ob m4 9 0) B13 (r_wc Y_11 ((ch_scr g).2.2 (Int32.toNatClampNeg (x5 + 1))) ((ch_scr g).2.2 (Int32.toNatClampNeg (x5 + 2)))).1 (r_wc Y_11 ((ch_scr g).2.2 (Int32.toNatClampNeg (x5 + 1))) ((ch_scr g).2.2 (Int32.toNatClampNeg (x5 + 2)))).2) ∧ m_ = ch_os m4 9 0 B13)) (T_10) (Y_11) (((ch_scr g).2.2 (Int32.toNatClampNeg (x5 + 1)))) (((ch_scr g).2.2 (Int32.toNatClampNeg (x5 + 2)))) m4 ⟨b17, b18, b19, (fun c_ B12 f0_ => (Or.inl ⟨B12, c_, rfl, f0_, rfl⟩)), (fun c_ B13 f0_ => (Or.inr ⟨B13, c_, rfl, f0_, rfl⟩))⟩))
    rcases q16 with ⟨B12, c_, rfl, f0_, hm_⟩ | ⟨B13, c_, rfl, f0_, hm_⟩
    · replace h := h.1 c_ B12 f0_ m15 hm_
      refine ch_istore (i := 7) d_l_law_299 (Nat.le_of_ble_eq_true rfl) (ls' := [some (.inr (11, 0, 0)), some (.inr (0, 0, 0)), some (.inr (9, 0, 0)), some (.inr (10, 0, 1)), some (.inr (10, 0, 2)), some (.inl (.int x5)), some (.inl (.int 0)), some (.inl (.int (y_chv Y_11 ((ch_scr g).2.2 (Int32.toNatClampNeg (x5 + 2)))))), o8, o9]) rfl ?_
      refine ch_aload_n (i := 2) d_l_law_301 rfl rfl ?_
      refine ch_callV (as := []) d_l_law_302 lk_l_129 mi_m_thrown me_m_thrown rfl rfl rfl (ch_hR hR (Nat.le_of_ble_eq_true rfl)) (Nat.le_of_ble_eq_true rfl) (ch_rc1 (k := k) (a := 1) (b := 0) hcs (Nat.le_of_ble_eq_true rfl)) (ch_mono (ch_Ki (fun r20 m21 q22 => ?_)) (s_m_thrown g (fun (r_ : Int32) (m_ : ch_M) => ((m15 (9, 0, 0) 19) = r_ ∧ m15 = m_))  m15 ⟨rfl, rfl⟩))
      obtain ⟨rfl, rfl⟩ := q22
      replace h := h
      refine ch_iload d_l_law_305 rfl ?_
      refine ch_icmp_eq (tgt := 312) d_l_law_307 (by decide) (fun c => ?_) (fun c => ?_)
      · replace h := h.1 c
        refine ch_iload d_l_law_312 rfl ?_
        refine ch_if_ne (tgt := 329) d_l_law_314 (by decide) (fun c => absurd c (by decide)) (fun _ => ?_)
        refine ch_aload_n (i := 3) d_l_law_317 rfl rfl ?_
        refine ch_iconst (v := 0) d_l_law_318 (by decide) ?_
        refine ch_lald (n := 1) d_l_law_319 (by decide) rfl (vp_in_nI (n := 0) (by decide) (by decide)) ?_
        refine ch_iload d_l_law_320 rfl ?_
        refine ch_i2l d_l_law_322 ?_
        refine ch_lcmp d_l_law_323 ?_
        refine ch_if_eq (tgt := 329) d_l_law_324 (by decide) (fun c => ?_) (fun c => ?_)
        · replace h := h.1 c
          refine ch_goto (tgt := 2096) d_l_law_329 (by decide) ?_
          exact h
        · replace h := h.2 c
          refine ch_iconst (v := 0) d_l_law_327 (by decide) ?_
          exact h
      · replace h := h.2 c
        refine ch_iconst (v := 0) d_l_law_310 (by decide) ?_
        exact h
    · replace h := h.2 c_ B13 f0_ m15 hm_
      refine ch_istore (i := 7) d_l_law_299 (Nat.le_of_ble_eq_true rfl) (ls' := [some (.inr (11, 0, 0)), some (.inr (0, 0, 0)), some (.inr (9, 0, 0)), some (.inr (10, 0, 1)), some (.inr (10, 0, 2)), some (.inl (.int x5)), some (.inl (.int 0)), some (.inl (.int 0)), o8, o9]) rfl ?_
      refine ch_aload_n (i := 2) d_l_law_301 rfl rfl ?_
      refine ch_callV (as := []) d_l_law_302 lk_l_129 mi_m_thrown me_m_thrown rfl rfl rfl (ch_hR hR (Nat.le_of_ble_eq_true rfl)) (Nat.le_of_ble_eq_true rfl) (ch_rc1 (k := k) (a := 1) (b := 0) hcs (Nat.le_of_ble_eq_true rfl)) (ch_mono (ch_Ki (fun r23 m24 q25 => ?_)) (s_m_thrown g (fun (r_ : Int32) (m_ : ch_M) => ((m15 (9, 0, 0) 19) = r_ ∧ m15 = m_))  m15 ⟨rfl, rfl⟩))
      obtain ⟨rfl, rfl⟩ := q25
      replace h := h
      refine ch_iload d_l_law_305 rfl ?_
      refine ch_icmp_eq (tgt := 312) d_l_law_307 (by decide) (fun c => ?_) (fun c => ?_)
      · replace h := h.1 c
        refine ch_iload d_l_law_312 rfl ?_
        refine ch_if_ne (tgt := 329) d_l_law_314 (by decide) (fun c => absurd c (by decide)) (fun _ => ?_)
        refine ch_aload_n (i := 3) d_l_law_317 rfl rfl ?_
        refine ch_iconst (v := 0) d_l_law_318 (by decide) ?_
        refine ch_lald (n := 1) d_l_law_319 (by decide) rfl (vp_in_nI (n := 0) (by decide) (by decide)) ?_
        refine ch_iload d_l_law_320 rfl ?_
        refine ch_i2l d_l_law_322 ?_
        refine ch_lcmp d_l_law_323 ?_
        refine ch_if_eq (tgt := 329) d_l_law_324 (by decide) (fun c => ?_) (fun c => ?_)
        · replace h := h.1 c
          refine ch_goto (tgt := 2096) d_l_law_329 (by decide) ?_
          exact h
        · replace h := h.2 c
          refine ch_iconst (v := 0) d_l_law_327 (by decide) ?_
          exact h
      · replace h := h.2 c
        refine ch_iconst (v := 0) d_l_law_310 (by decide) ?_
        exact h
  · replace h := h.2 c_ m4 hm_
    refine ch_istore (i := 6) d_l_law_281 (Nat.le_of_ble_eq_true rfl) (ls' := [some (.inr (11, 0, 0)), some (.inr (0, 0, 0)), some (.inr (9, 0, 0)), some (.inr (10, 0, 1)), some (.inr (10, 0, 2)), some (.inl (.int x5)), some (.inl (.int 1)), o7, o8, o9]) rfl ?_
    refine ch_aload_n (i := 2) d_l_law_283 rfl rfl ?_
    refine ch_aload_n (i := 0) d_l_law_284 rfl rfl ?_
    refine ch_iload d_l_law_285 rfl ?_
    refine ch_iconst (v := 1) d_l_law_287 (by decide) ?_
    refine ch_iadd d_l_law_288 ?_
    refine ch_sld d_l_law_289 b1 ?_
    refine ch_aload_n (i := 0) d_l_law_290 rfl rfl ?_
    refine ch_iload d_l_law_291 rfl ?_
    refine ch_iconst (v := 2) d_l_law_293 (by decide) ?_
    refine ch_iadd d_l_law_294 ?_
    refine ch_sld d_l_law_295 b2 ?_
    obtain ⟨T_26, h⟩ := h
    obtain ⟨Y_27, h⟩ := h
    have b33 := h.1
    replace h := h.2
    have b34 := h.1
    replace h := h.2
    have b35 := h.1
    replace h := h.2
    refine ch_callV (as := [.inl (.int ((ch_scr g).2.2 (Int32.toNatClampNeg (x5 + 1)))), .inl (.int ((ch_scr g).2.2 (Int32.toNatClampNeg (x5 + 2))))]) d_l_law_296 lk_l_135 mi_m_chalk me_m_chalk rfl rfl rfl (ch_hR hR (Nat.le_of_ble_eq_true rfl)) (Nat.le_of_ble_eq_true rfl) (ch_rc1 (k := k) (a := 1) (b := 0) hcs (Nat.le_of_ble_eq_true rfl)) (ch_mono (ch_Ki (fun r30 m31 q32 => ?_)) (s_m_chalk g (fun (r_ : Int32) (m_ : ch_M) => (∃ (B28 : ch_B), ((r_wc Y_27 ((ch_scr g).2.2 (Int32.toNatClampNeg (x5 + 1))) ((ch_scr g).2.2 (Int32.toNatClampNeg (x5 + 2)))).1 = 0) ∧ (y_chv Y_27 ((ch_scr g).2.2 (Int32.toNatClampNeg (x5 + 2)))) = r_ ∧ (m_done (ch_ob m4 9 0) B28 (y_chaB Y_27 ((ch_scr g).2.2 (Int32.toNatClampNeg (x5 + 1))) ((ch_scr g).2.2 (Int32.toNatClampNeg (x5 + 2))))) ∧ m_ = ch_os m4 9 0 B28) ∨ (∃ (B29 : ch_B), (¬ (r_wc Y_27 ((ch_scr g).2.2 (Int32.toNatClampNeg (x5 + 1))) ((ch_scr g).2.2 (Int32.toNatClampNeg (x5 + 2)))).1 = 0) ∧ 0 = r_ ∧ (m_rfd (ch_ob m4 9 0) B29 (r_wc Y_27 ((ch_scr g).2.2 (Int32.toNatClampNeg (x5 + 1))) ((ch_scr g).2.2 (Int32.toNatClampNeg (x5 + 2)))).1 (r_wc Y_27 ((ch_scr g).2.2 (Int32.toNatClampNeg (x5 + 1))) ((ch_scr g).2.2 (Int32.toNatClampNeg (x5 + 2)))).2) ∧ m_ = ch_os m4 9 0 B29)) (T_26) (Y_27) (((ch_scr g).2.2 (Int32.toNatClampNeg (x5 + 1)))) (((ch_scr g).2.2 (Int32.toNatClampNeg (x5 + 2)))) m4 ⟨b33, b34, b35, (fun c_ B28 f0_ => (Or.inl ⟨B28, c_, rfl, f0_, rfl⟩)), (fun c_ B29 f0_ => (Or.inr ⟨B29, c_, rfl, f0_, rfl⟩))⟩))
    rcases q32 with ⟨B28, c_, rfl, f0_, hm_⟩ | ⟨B29, c_, rfl, f0_, hm_⟩
    · replace h := h.1 c_ B28 f0_ m31 hm_
      refine ch_istore (i := 7) d_l_law_299 (Nat.le_of_ble_eq_true rfl) (ls' := [some (.inr (11, 0, 0)), some (.inr (0, 0, 0)), some (.inr (9, 0, 0)), some (.inr (10, 0, 1)), some (.inr (10, 0, 2)), some (.inl (.int x5)), some (.inl (.int 1)), some (.inl (.int (y_chv Y_27 ((ch_scr g).2.2 (Int32.toNatClampNeg (x5 + 2)))))), o8, o9]) rfl ?_
      refine ch_aload_n (i := 2) d_l_law_301 rfl rfl ?_
      refine ch_callV (as := []) d_l_law_302 lk_l_129 mi_m_thrown me_m_thrown rfl rfl rfl (ch_hR hR (Nat.le_of_ble_eq_true rfl)) (Nat.le_of_ble_eq_true rfl) (ch_rc1 (k := k) (a := 1) (b := 0) hcs (Nat.le_of_ble_eq_true rfl)) (ch_mono (ch_Ki (fun r36 m37 q38 => ?_)) (s_m_thrown g (fun (r_ : Int32) (m_ : ch_M) => ((m31 (9, 0, 0) 19) = r_ ∧ m31 = m_))  m31 ⟨rfl, rfl⟩))
      obtain ⟨rfl, rfl⟩ := q38
      replace h := h
      refine ch_iload d_l_law_305 rfl ?_
      refine ch_icmp_eq (tgt := 312) d_l_law_307 (by decide) (fun c => ?_) (fun c => ?_)
      · replace h := h.1 c
        refine ch_iload d_l_law_312 rfl ?_
        refine ch_if_ne (tgt := 329) d_l_law_314 (by decide) (fun _ => ?_) (fun c => absurd c (by decide))
        refine ch_goto (tgt := 2096) d_l_law_329 (by decide) ?_
        exact h
      · replace h := h.2 c
        refine ch_iconst (v := 0) d_l_law_310 (by decide) ?_
        exact h
    · replace h := h.2 c_ B29 f0_ m31 hm_
      refine ch_istore (i := 7) d_l_law_299 (Nat.le_of_ble_eq_true rfl) (ls' := [some (.inr (11, 0, 0)), some (.inr (0, 0, 0)), some (.inr (9, 0, 0)), some (.inr (10, 0, 1)), some (.inr (10, 0, 2)), some (.inl (.int x5)), some (.inl (.int 1)), some (.inl (.int 0)), o8, o9]) rfl ?_
      refine ch_aload_n (i := 2) d_l_law_301 rfl rfl ?_
      refine ch_callV (as := []) d_l_law_302 lk_l_129 mi_m_thrown me_m_thrown rfl rfl rfl (ch_hR hR (Nat.le_of_ble_eq_true rfl)) (Nat.le_of_ble_eq_true rfl) (ch_rc1 (k := k) (a := 1) (b := 0) hcs (Nat.le_of_ble_eq_true rfl)) (ch_mono (ch_Ki (fun r39 m40 q41 => ?_)) (s_m_thrown g (fun (r_ : Int32) (m_ : ch_M) => ((m31 (9, 0, 0) 19) = r_ ∧ m31 = m_))  m31 ⟨rfl, rfl⟩))
      obtain ⟨rfl, rfl⟩ := q41
      replace h := h
      refine ch_iload d_l_law_305 rfl ?_
      refine ch_icmp_eq (tgt := 312) d_l_law_307 (by decide) (fun c => ?_) (fun c => ?_)
      · replace h := h.1 c
        refine ch_iload d_l_law_312 rfl ?_
        refine ch_if_ne (tgt := 329) d_l_law_314 (by decide) (fun _ => ?_) (fun c => absurd c (by decide))
        refine ch_goto (tgt := 2096) d_l_law_329 (by decide) ?_
        exact h
      · replace h := h.2 c
        refine ch_iconst (v := 0) d_l_law_310 (by decide) ?_
        exact h
set_option maxHeartbeats 1600000 in
theorem g_l_law_332 (g : ch_G) (R : Room) (E : ch_En) (k : Nat) (hR : ch_RR R 18) (hcs : k + 40 ≤ R.cells ∧ 6 * k + 240 ≤ R.slots) (x5 : Int32) (o6 : Option ch_V) (o7 : Option ch_V) (o8 : Option ch_V) (o9 : Option ch_V) (m : ch_M) (h : (vp_in (x5 + 1) (ch_scr g).2.1) ∧ (vp_in (x5 + 2) (ch_scr g).2.1) ∧ (vp_in ((x_S (x_K m 104 ((ch_scr g).2.2 (Int32.toNatClampNeg (x5 + 1))) 0 0) ((ch_scr g).2.2 (Int32.toNatClampNeg (x5 + 2)))) (1, 0, 0) 8) 6) ∧ (vp_in ((x_S (x_K m 104 ((ch_scr g).2.2 (Int32.toNatClampNeg (x5 + 1))) 0 0) ((ch_scr g).2.2 (Int32.toNatClampNeg (x5 + 2)))) (5, 0, 0) 1) 13) ∧ (vp_in ((x_S (x_K m 104 ((ch_scr g).2.2 (Int32.toNatClampNeg (x5 + 1))) 0 0) ((ch_scr g).2.2 (Int32.toNatClampNeg (x5 + 2)))) (2, 0, 0) 1) 8) ∧ ((x_R (x_S (x_K m 104 ((ch_scr g).2.2 (Int32.toNatClampNeg (x5 + 1))) 0 0) ((ch_scr g).2.2 (Int32.toNatClampNeg (x5 + 2))))).1 = 0 → y_carP (ch_ob (x_S (x_K m 104 ((ch_scr g).2.2 (Int32.toNatClampNeg (x5 + 1))) 0 0) ((ch_scr g).2.2 (Int32.toNatClampNeg (x5 + 2)))) 1 0) (ch_ob (x_S (x_K m 104 ((ch_scr g).2.2 (Int32.toNatClampNeg (x5 + 1))) 0 0) ((ch_scr g).2.2 (Int32.toNatClampNeg (x5 + 2)))) 4 0) ((x_S (x_K m 104 ((ch_scr g).2.2 (Int32.toNatClampNeg (x5 + 1))) 0 0) ((ch_scr g).2.2 (Int32.toNatClampNeg (x5 + 2)))) (5, 0, 0) 1)) ∧ ((((x_R (x_S (x_K m 104 ((ch_scr g).2.2 (Int32.toNatClampNeg (x5 + 1))) 0 0) ((ch_scr g).2.2 (Int32.toNatClampNeg (x5 + 2))))).1 = 0) → (∀ m4 : ch_M, m4 = (ch_wr (ch_os (p_kM (x_S (x_K m 104 ((ch_scr g).2.2 (Int32.toNatClampNeg (x5 + 1))) 0 0) ((ch_scr g).2.2 (Int32.toNatClampNeg (x5 + 2)))) 0) 1 0 (x_C (x_S (x_K m 104 ((ch_scr g).2.2 (Int32.toNatClampNeg (x5 + 1))) 0 0) ((ch_scr g).2.2 (Int32.toNatClampNeg (x5 + 2))))).2) (10, 0, 1) 0 ((x_C (x_S (x_K m 104 ((ch_scr g).2.2 (Int32.toNatClampNeg (x5 + 1))) 0 0) ((ch_scr g).2.2 (Int32.toNatClampNeg (x5 + 2))))).1)) → (∃ T_10 : Nat, (∃ Y_11 : ch_B, (∃ A_12 : ch_B, (m_rel Y_11 (m4 (9, 0, 1))) ∧ (y_inv T_10 Y_11) ∧ (vp_in (m4 (9, 0, 0) 4) 9) ∧ ((((r_wh Y_11 ((ch_scr g).2.2 (Int32.toNatClampNeg (x5 + 1))) (s_rfB A_12 ((ch_scr g).2.2 (Int32.toNatClampNeg (x5 + 2))) 1) (s_rfB A_12 ((ch_scr g).2.2 (Int32.toNatClampNeg (x5 + 2))) 0 1)).1 = 0) → (∀ (B13 : ch_B), (m_done (ch_ob m4 9 0) B13 (y_hopB Y_11 ((ch_scr g).2.2 (Int32.toNatClampNeg (x5 + 1))) (s_rfB A_12 ((ch_scr g).2.2 (Int32.toNatClampNeg (x5 + 2))) 1) (Int32.toNatClampNeg (s_rfB A_12 ((ch_scr g).2.2 (Int32.toNatClampNeg (x5 + 2))) 0 1)))) → (∀ m16 : ch_M, m16 = ch_os m4 9 0 B13 → ((((m16 (9, 0, 0) 19) = 0 → (((lg_cmp ((m16 (10, 0, 1) (0))).toInt64 ((y_ct Y_11 ((ch_scr g).2.2 (Int32.toNatClampNeg (x5 + 1))) (s_rfB A_12 ((ch_scr g).2.2 (Int32.toNatClampNeg (x5 + 2))) 1) (Int32.toNatClampNeg (s_rfB A_12 ((ch_scr g).2.2 (Int32.toNatClampNeg (x5 + 2))) 0 1)))).toInt64) = 0 → ch_J g m_l_law R E 2096 [some (.inr (11, 0, 0)), some (.inr (0, 0, 0)), some (.inr (9, 0, 0)), some (.inr (10, 0, 1)), some (.inr (10, 0, 2)), some (.inl (.int x5)), some (.inl (.int 0)), some (.inl (.int (y_ct Y_11 ((ch_scr g).2.2 (Int32.toNatClampNeg (x5 + 1))) (s_rfB A_12 ((ch_scr g).2.2 (Int32.toNatClampNeg (x5 + 2))) 1) (Int32.toNatClampNeg (s_rfB A_12 ((ch_scr g).2.2 (Int32.toNatClampNeg (x5 + 2))) 0 1))))), o8, o9] [] m16 (k + 1)) ∧ (¬ (lg_cmp ((m16 (10, 0, 1) (0))).toInt64 ((y_ct Y_11 ((ch_scr g).2.2 (Int32.toNatClampNeg (x5 + 1))) (s_rfB A_12 ((ch_scr g).2.2 (Int32.toNatClampNeg (x5 + 2))) 1) (Int32.toNatClampNeg (s_rfB A_12 ((ch_scr g).2.2 (Int32.toNatClampNeg (x5 + 2))) 0 1)))).toInt64) = 0 → ch_J g m_l_law R E 396 [some (.inr (11, 0, 0)), some (.inr (0, 0, 0)), some (.inr (9, 0, 0)), some (.inr (10, 0, 1)), some (.inr (10, 0, 2)), some (.inl (.int x5)), some (.inl (.int 0)), some (.inl (.int (y_ct Y_11 ((ch_scr g).2.2 (Int32.toNatClampNeg (x5 + 1))) (s_rfB A_12 ((ch_scr g).2.2 (Int32.toNatClampNeg (x5 + 2))) 1) (Int32.toNatClampNeg (s_rfB A_12 ((ch_scr g).2.2 (Int32.toNatClampNeg (x5 + 2))) 0 1))))), o8, o9] [.inl (.int 0)] m16 (k + 1)))) ∧ (¬ (m16 (9, 0, 0) 19) = 0 → ch_J g m_l_law R E 379 [some (.inr (11, 0, 0)), some (.inr (0, 0, 0)), some (.inr (9, 0, 0)), some (.inr (10, 0, 1)), some (.inr (10, 0, 2)), some (.inl (.int x5)), some (.inl (.int 0)), some (.inl (.int (y_ct Y_11 ((ch_scr g).2.2 (Int32.toNatClampNeg (x5 + 1))) (s_rfB A_12 ((ch_scr g).2.2 (Int32.toNatClampNeg (x5 + 2))) 1) (Int32.toNatClampNeg (s_rfB A_12 ((ch_scr g).2.2 (Int32.toNatClampNeg (x5 + 2))) 0 1))))), o8, o9] [.inl (.int 0)] m16 (k + 1))))))) ∧ ((¬ (r_wh Y_11 ((ch_scr g).2.2 (Int32.toNatClampNeg (x5 + 1))) (s_rfB A_12 ((ch_scr g).2.2 (Int32.toNatClampNeg (x5 + 2))) 1) (s_rfB A_12 ((ch_scr g).2.2 (Int32.toNatClampNeg (x5 + 2))) 0 1)).1 = 0) → (∀ (B14 : ch_B), (m_rfd (ch_ob m4 9 0) B14 (r_wh Y_11 ((ch_scr g).2.2 (Int32.toNatClampNeg (x5 + 1))) (s_rfB A_12 ((ch_scr g).2.2 (Int32.toNatClampNeg (x5 + 2))) 1) (s_rfB A_12 ((ch_scr g).2.2 (Int32.toNatClampNeg (x5 + 2))) 0 1)).1 (r_wh Y_11 ((ch_scr g).2.2 (Int32.toNatClampNeg (x5 + 1))) (s_rfB A_12 ((ch_scr g).2.2 (Int32.toNatClampNeg (x5 + 2))) 1) (s_rfB A_12 ((ch_scr g).2.2 (Int32.toNatClampNeg (x5 + 2))) 0 1)).2) → (∀ m16 : ch_M, m16 = ch_os m4 9 0 B14 → ((((m16 (9, 0, 0) 19) = 0 → (((lg_cmp ((m16 (10, 0, 1) (0))).toInt64 (0).toInt64) = 0 → ch_J g m_l_law R E 2096 [some (.inr (11, 0, 0)), some (.inr (0, 0, 0)), some (.inr (9, 0, 0)), some (.inr (10, 0, 1)), some (.inr (10, 0, 2)), some (.inl (.int x5)), some (.inl (.int 0)), some (.inl (.int 0)), o8, o9] [] m16 (k + 1)) ∧ (¬ (lg_cmp ((m16 (10, 0, 1) (0))).toInt64 (0).toInt64) = 0 → ch_J g m_l_law R E 396 [some (.inr (11, 0, 0)), some (.inr (0, 0, 0)), some (.inr (9, 0, 0)), some (.inr (10, 0, 1)), some (.inr (10, 0, 2)), some (.inl (.int x5)), some (.inl (.int 0)), some (.inl (.int 0)), o8, o9] [.inl (.int 0)] m16 (k + 1)))) ∧ (¬ (m16 (9, 0, 0) 19) = 0 → ch_J g m_l_law R E 379 [some (.inr (11, 0, 0)), some (.inr (0, 0, 0)), some (.inr (9, 0, 0)), some (.inr (10, 0, 1)), some (.inr (10, 0, 2)), some (.inl (.int x5)), some (.inl (.int 0)), some (.inl (.int 0)), o8, o9] [.inl (.int 0)] m16 (k + 1))))))))))))) ∧ ((¬ (x_R (x_S (x_K m 104 ((ch_scr g).2.2 (Int32.toNatClampNeg (x5 + 1))) 0 0) ((ch_scr g).2.2 (Int32.toNatClampNeg (x5 + 2))))).1 = 0) → (∀ m4 : ch_M, m4 = r_kp (x_S (x_K m 104 ((ch_scr g).2.2 (Int32.toNatClampNeg (x5 + 1))) 0 0) ((ch_scr g).2.2 (Int32.toNatClampNeg (x5 + 2)))) (x_R (x_S (x_K m 104 ((ch_scr g).2.2 (Int32.toNatClampNeg (x5 + 1))) 0 0) ((ch_scr g).2.2 (Int32.toNatClampNeg (x5 + 2))))).1 (x_R (x_S (x_K m 104 ((ch_scr g).2.2 (Int32.toNatClampNeg (x5 + 1))) 0 0) ((ch_scr g).2.2 (Int32.toNatClampNeg (x5 + 2))))).2 → (∃ T_27 : Nat, (∃ Y_28 : ch_B, (∃ A_29 : ch_B, (m_rel Y_28 (m4 (9, 0, 1))) ∧ (y_inv T_27 Y_28) ∧ (vp_in (m4 (9, 0, 0) 4) 9) ∧ ((((r_wh Y_28 ((ch_scr g).2.2 (Int32.toNatClampNeg (x5 + 1))) (s_rfB A_29 ((ch_scr g).2.2 (Int32.toNatClampNeg (x5 + 2))) 1) (s_rfB A_29 ((ch_scr g).2.2 (Int32.toNatClampNeg (x5 + 2))) 0 1)).1 = 0) → (∀ (B30 : ch_B), (m_done (ch_ob m4 9 0) B30 (y_hopB Y_28 ((ch_scr g).2.2 (Int32.toNatClampNeg (x5 + 1))) (s_rfB A_29 ((ch_scr g).2.2 (Int32.toNatClampNeg (x5 + 2))) 1) (Int32.toNatClampNeg (s_rfB A_29 ((ch_scr g).2.2 (Int32.toNatClampNeg (x5 + 2))) 0 1)))) → (∀ m33 : ch_M, m33 = ch_os m4 9 0 B30 → ((((m33 (9, 0, 0) 19) = 1 → ch_J g m_l_law R E 2096 [some (.inr (11, 0, 0)), some (.inr (0, 0, 0)), some (.inr (9, 0, 0)), some (.inr (10, 0, 1)), some (.inr (10, 0, 2)), some (.inl (.int x5)), some (.inl (.int 1)), some (.inl (.int (y_ct Y_28 ((ch_scr g).2.2 (Int32.toNatClampNeg (x5 + 1))) (s_rfB A_29 ((ch_scr g).2.2 (Int32.toNatClampNeg (x5 + 2))) 1) (Int32.toNatClampNeg (s_rfB A_29 ((ch_scr g).2.2 (Int32.toNatClampNeg (x5 + 2))) 0 1))))), o8, o9] [] m33 (k + 1)) ∧ (¬ (m33 (9, 0, 0) 19) = 1 → ch_J g m_l_law R E 379 [some (.inr (11, 0, 0)), some (.inr (0, 0, 0)), some (.inr (9, 0, 0)), some (.inr (10, 0, 1)), some (.inr (10, 0, 2)), some (.inl (.int x5)), some (.inl (.int 1)), some (.inl (.int (y_ct Y_28 ((ch_scr g).2.2 (Int32.toNatClampNeg (x5 + 1))) (s_rfB A_29 ((ch_scr g).2.2 (Int32.toNatClampNeg (x5 + 2))) 1) (Int32.toNatClampNeg (s_rfB A_29 ((ch_scr g).2.2 (Int32.toNatClampNeg (x5 + 2))) 0 1))))), o8, o9] [.inl (.int 0)] m33 (k + 1))))))) ∧ ((¬ (r_wh Y_28 ((ch_scr g).2.2 (Int32.toNatClampNeg (x5 + 1))) (s_rfB A_29 ((ch_scr g).2.2 (Int32.toNatClampNeg (x5 + 2))) 1) (s_rfB A_29 ((ch_scr g).2.2 (Int32.toNatClampNeg (x5 + 2))) 0 1)).1 = 0) → (∀ (B31 : ch_B), (m_rfd (ch_ob m4 9 0) B31 (r_wh Y_28 ((ch_scr g).2.2 (Int32.toNatClampNeg (x5 + 1))) (s_rfB A_29 ((ch_scr g).2.2 (Int32.toNatClampNeg (x5 + 2))) 1) (s_rfB A_29 ((ch_scr g).2.2 (Int32.toNatClampNeg (x5 + 2))) 0 1)).1 (r_wh Y_28 ((ch_scr g).2.2 (Int32.toNatClampNeg (x5 + 1))) (s_rfB A_29 ((ch_scr g).2.2 (Int32.toNatClampNeg (x5 + 2))) 1) (s_rfB A_29 ((ch_scr g).2.2 (Int32.toNatClampNeg (x5 + 2))) 0 1)).2) → (∀ m33 : ch_M, m33 = ch_os m4 9 0 B31 → ((((m33 (9, 0, 0) 19) = 1 → ch_J g m_l_law R E 2096 [some (.inr (11, 0, 0)), some (.inr (0, 0, 0)), some (.inr (9, 0, 0)), some (.inr (10, 0, 1)), some (.inr (10, 0, 2)), some (.inl (.int x5)), some (.inl (.int 1)), some (.inl (.int 0)), o8, o9] [] m33 (k + 1)) ∧ (¬ (m33 (9, 0, 0) 19) = 1 → ch_J g m_l_law R E 379 [some (.inr (11, 0, 0)), some (.inr (0, 0, 0)), some (.inr (9, 0, 0)), some (.inr (10, 0, 1)), some (.inr (10, 0, 2)), some (.inl (.int x5)), some (.inl (.int 1)), some (.inl (.int 0)), o8, o9] [.inl (.int 0)] m33 (k + 1))))))))))))))) : ch_J g m_l_law R E 332 [some (.inr (11, 0, 0)), some (.inr (0, 0, 0)), some (.inr (9, 0, 0)), some (.inr (10, 0, 1)), some (.inr (10, 0, 2)), some (.inl (.int x5)), o6, o7, o8, o9] [] m k := by
  refine ch_aload_n (i := 1) d_l_law_332 rfl rfl ?_
  refine ch_aload_n (i := 0) d_l_law_333 rfl rfl ?_
  refine ch_iload d_l_law_334 rfl ?_
  refine ch_iconst (v := 1) d_l_law_336 (by decide) ?_
  refine ch_iadd d_l_law_337 ?_
  have b1 := h.1
  replace h := h.2
  refine ch_sld d_l_law_338 b1 ?_
  refine ch_aload_n (i := 0) d_l_law_339 rfl rfl ?_
  refine ch_iload d_l_law_340 rfl ?_
  refine ch_iconst (v := 2) d_l_law_342 (by decide) ?_
  refine ch_iadd d_l_law_343 ?_
  have b2 := h.1
  replace h := h.2
  refine ch_sld d_l_law_344 b2 ?_
  refine ch_aload_n (i := 3) d_l_law_345 rfl rfl ?_
  have b6 := h.1
  replace h := h.2
  have b7 := h.1
  replace h := h.2
  have b8 := h.1
  replace h := h.2
  have b9 := h.1
  replace h := h.2
  refine ch_callSX (as := [.inr (0, 0, 0), .inl (.int ((ch_scr g).2.2 (Int32.toNatClampNeg (x5 + 1)))), .inl (.int ((ch_scr g).2.2 (Int32.toNatClampNeg (x5 + 2)))), .inr (10, 0, 1)]) d_l_law_346 lk_l_136 ms_l_hop rfl rfl (ch_hR hR (Nat.le_of_ble_eq_true rfl)) (Nat.le_of_ble_eq_true rfl) (ch_rc0 (k := k) (b := 1) hcs (Nat.le_of_ble_eq_true rfl)) (ch_mono (ch_Ki (fun r3 m4 q5 => ?_)) (s_l_hop g (fun (r_ : Int32) (m_ : ch_M) => (((x_R (x_S (x_K m 104 ((ch_scr g).2.2 (Int32.toNatClampNeg (x5 + 1))) 0 0) ((ch_scr g).2.2 (Int32.toNatClampNeg (x5 + 2))))).1 = 0) ∧ 0 = r_ ∧ m_ = (ch_wr (ch_os (p_kM (x_S (x_K m 104 ((ch_scr g).2.2 (Int32.toNatClampNeg (x5 + 1))) 0 0) ((ch_scr g).2.2 (Int32.toNatClampNeg (x5 + 2)))) 0) 1 0 (x_C (x_S (x_K m 104 ((ch_scr g).2.2 (Int32.toNatClampNeg (x5 + 1))) 0 0) ((ch_scr g).2.2 (Int32.toNatClampNeg (x5 + 2))))).2) (10, 0, 1) 0 ((x_C (x_S (x_K m 104 ((ch_scr g).2.2 (Int32.toNatClampNeg (x5 + 1))) 0 0) ((ch_scr g).2.2 (Int32.toNatClampNeg (x5 + 2))))).1))) ∨ ((¬ (x_R (x_S (x_K m 104 ((ch_scr g).2.2 (Int32.toNatClampNeg (x5 + 1))) 0 0) ((ch_scr g).2.2 (Int32.toNatClampNeg (x5 + 2))))).1 = 0) ∧ 1 = r_ ∧ m_ = r_kp (x_S (x_K m 104 ((ch_scr g).2.2 (Int32.toNatClampNeg (x5 + 1))) 0 0) ((ch_scr g).2.2 (Int32.toNatClampNeg (x5 + 2)))) (x_R (x_S (x_K m 104 ((ch_scr g).2.2 (Int32.toNatClampNeg (x5 + 1))) 0 0) ((ch_scr g).2.2 (Int32.toNatClampNeg (x5 + 2))))).1 (x_R (x_S (x_K m 104 ((ch_scr g).2.2 (Int32.toNatClampNeg (x5 + 1))) 0 0) ((ch_scr g).2.2 (Int32.toNatClampNeg (x5 + 2))))).2)) (((ch_scr g).2.2 (Int32.toNatClampNeg (x5 + 1)))) (((ch_scr g).2.2 (Int32.toNatClampNeg (x5 + 2)))) m ⟨b6, b7, b8, b9, (fun c_ => (Or.inl ⟨c_, rfl, rfl⟩)), (fun c_ => (Or.inr ⟨c_, rfl, rfl⟩))⟩))
  rcases q5 with ⟨c_, rfl, hm_⟩ | ⟨c_, rfl, hm_⟩
  · replace h := h.1 c_ m4 hm_
    refine ch_istore (i := 6) d_l_law_349 (Nat.le_of_ble_eq_true rfl) (ls' := [some (.inr (11, 0, 0)), some (.inr (0, 0, 0)), some (.inr (9, 0, 0)), some (.inr (10, 0, 1)), some (.inr (10, 0, 2)), some (.inl (.int x5)), some (.inl (.int 0)), o7, o8, o9]) rfl ?_
    refine ch_aload_n (i := 2) d_l_law_351 rfl rfl ?_
    refine ch_aload_n (i := 0) d_l_law_352 rfl rfl ?_
    refine ch_iload d_l_law_353 rfl ?_
    refine ch_iconst (v := 1) d_l_law_355 (by decide) ?_
    refine ch_iadd d_l_law_356 ?_
    refine ch_sld d_l_law_357 b1 ?_
    refine ch_aload_n (i := 0) d_l_law_358 rfl rfl ?_
    refine ch_iload d_l_law_359 rfl ?_
    refine ch_iconst (v := 2) d_l_law_361 (by decide) ?_
    refine ch_iadd d_l_law_362 ?_
    refine ch_sld d_l_law_363 b2 ?_
    obtain ⟨T_10, h⟩ := h
    obtain ⟨Y_11, h⟩ := h
    obtain ⟨A_12, h⟩ := h
    have b18 := h.1
    replace h := h.2
    have b19 := h.1
    replace h := h.2
    have b20 := h.1
    replace h := h.2
    refine ch_callV (as := [.inl (.int ((ch_scr g).2.2 (Int32.toNatClampNeg (x5 + 1)))), .inl (.int ((ch_scr g).2.2 (Int32.toNatClampNeg (x5 + 2))))]) d_l_law_364 lk_l_138 mi_m_hop me_m_hop rfl rfl rfl (ch_hR hR (Nat.le_of_ble_eq_true rfl)) (Nat.le_of_ble_eq_true rfl) (ch_rc1 (k := k) (a := 1) (b := 0) hcs (Nat.le_of_ble_eq_true rfl)) (ch_mono (ch_Ki (fun r15 m16 q17 => ?_)) (s_m_hop g (fun (r_ : Int32) (m_ : ch_M) => (∃ (B13 : ch_B), ((r_wh Y_11 ((ch_scr g).2.2 (Int32.toNatClampNeg (x5 + 1))) (s_rfB A_12 ((ch_scr g).2.2 (Int32.toNatClampNeg (x5 + 2))) 1) (s_rfB A_12 ((ch_scr g).2.2 (Int32.toNatClampNeg (x5 + 2))) 0 1)).1 = 0) ∧ (y_ct Y_11 ((ch_scr g).2.2 (Int32.toNatClampNeg (x5 + 1))) (s_rfB A_12 ((ch_scr g).2.2 (Int32.toNatClampNeg (x5 + 2))) 1) (Int32.toNatClampNeg (s_rfB A_12 ((ch_scr g).2.2 (Int32.toNatClampNeg (x5 + 2))) 0 1))) = r_ ∧ (m_done (ch_ob m4 9 0) B13 (y_hopB Y_11 ((ch_scr g).2.2 (Int32.toNatClampNeg (x5 + 1))) (s_rfB A_12 ((ch_scr g).2.2 (Int32.toNatClampNeg (x5 + 2))) 1) (Int32.toNatClampNeg (s_rfB A_12 ((ch_scr g).2.2 (Int32.toNatClampNeg (x5 + 2))) 0 1)))) ∧ m_ = ch_os m4 9 0 B13) ∨ (∃ (B14 : ch_B), (¬ (r_wh Y_11 ((ch_scr g).2.2 (Int32.toNatClampNeg (x5 + 1))) (s_rfB A_12 ((ch_scr g).2.2 (Int32.toNatClampNeg (x5 + 2))) 1) (s_rfB A_12 ((ch_scr g).2.2 (Int32.toNatClampNeg (x5 + 2))) 0 1)).1 = 0) ∧ 0 = r_ ∧ (m_rfd (ch_ob m4 9 0) B14 (r_wh Y_11 ((ch_scr g).2.2 (Int32.toNatClampNeg (x5 + 1))) (s_rfB A_12 ((ch_scr g).2.2 (Int32.toNatClampNeg (x5 + 2))) 1) (s_rfB A_12 ((ch_scr g).2.2 (Int32.toNatClampNeg (x5 + 2))) 0 1)).1 (r_wh Y_11 ((ch_scr g).2.2 (Int32.toNatClampNeg (x5 + 1))) (s_rfB A_12 ((ch_scr g).2.2 (Int32.toNatClampNeg (x5 + 2))) 1) (s_rfB A_12 ((ch_scr g).2.2 (Int32.toNatClampNeg (x5 + 2))) 0 1)).2) ∧ m_ = ch_os m4 9 0 B14)) (T_10) (Y_11) (A_12) (((ch_scr g).2.2 (Int32.toNatClampNeg (x5 + 1)))) (((ch_scr g).2.2 (Int32.toNatClampNeg (x5 + 2)))) m4 ⟨b18, b19, b20, (fun c_ B13 f0_ => (Or.inl ⟨B13, c_, rfl, f0_, rfl⟩)), (fun c_ B14 f0_ => (Or.inr ⟨B14, c_, rfl, f0_, rfl⟩))⟩))
    rcases q17 with ⟨B13, c_, rfl, f0_, hm_⟩ | ⟨B14, c_, rfl, f0_, hm_⟩
    · replace h := h.1 c_ B13 f0_ m16 hm_
      refine ch_istore (i := 7) d_l_law_367 (Nat.le_of_ble_eq_true rfl) (ls' := [some (.inr (11, 0, 0)), some (.inr (0, 0, 0)), some (.inr (9, 0, 0)), some (.inr (10, 0, 1)), some (.inr (10, 0, 2)), some (.inl (.int x5)), some (.inl (.int 0)), some (.inl (.int (y_ct Y_11 ((ch_scr g).2.2 (Int32.toNatClampNeg (x5 + 1))) (s_rfB A_12 ((ch_scr g).2.2 (Int32.toNatClampNeg (x5 + 2))) 1) (Int32.toNatClampNeg (s_rfB A_12 ((ch_scr g).2.2 (Int32.toNatClampNeg (x5 + 2))) 0 1))))), o8, o9]) rfl ?_
      refine ch_aload_n (i := 2) d_l_law_369 rfl rfl ?_
      refine ch_callV (as := []) d_l_law_370 lk_l_129 mi_m_thrown me_m_thrown rfl rfl rfl (ch_hR hR (Nat.le_of_ble_eq_true rfl)) (Nat.le_of_ble_eq_true rfl) (ch_rc1 (k := k) (a := 1) (b := 0) hcs (Nat.le_of_ble_eq_true rfl)) (ch_mono (ch_Ki (fun r21 m22 q23 => ?_)) (s_m_thrown g (fun (r_ : Int32) (m_ : ch_M) => ((m16 (9, 0, 0) 19) = r_ ∧ m16 = m_))  m16 ⟨rfl, rfl⟩))
      obtain ⟨rfl, rfl⟩ := q23
      replace h := h
      refine ch_iload d_l_law_373 rfl ?_
      refine ch_icmp_eq (tgt := 380) d_l_law_375 (by decide) (fun c => ?_) (fun c => ?_)
      · replace h := h.1 c
        refine ch_iload d_l_law_380 rfl ?_
        refine ch_if_ne (tgt := 397) d_l_law_382 (by decide) (fun c => absurd c (by decide)) (fun _ => ?_)
        refine ch_aload_n (i := 3) d_l_law_385 rfl rfl ?_
        refine ch_iconst (v := 0) d_l_law_386 (by decide) ?_
        refine ch_lald (n := 1) d_l_law_387 (by decide) rfl (vp_in_nI (n := 0) (by decide) (by decide)) ?_
        refine ch_iload d_l_law_388 rfl ?_
        refine ch_i2l d_l_law_390 ?_
        refine ch_lcmp d_l_law_391 ?_
        refine ch_if_eq (tgt := 397) d_l_law_392 (by decide) (fun c => ?_) (fun c => ?_)
        · replace h := h.1 c
          refine ch_goto (tgt := 2096) d_l_law_397 (by decide) ?_
          exact h
        · replace h := h.2 c
          refine ch_iconst (v := 0) d_l_law_395 (by decide) ?_
          exact h
      · replace h := h.2 c
        refine ch_iconst (v := 0) d_l_law_378 (by decide) ?_
        exact h
    · replace h := h.2 c_ B14 f0_ m16 hm_
      refine ch_istore (i := 7) d_l_law_367 (Nat.le_of_ble_eq_true rfl) (ls' := [some (.inr (11, 0, 0)), some (.inr (0, 0, 0)), some (.inr (9, 0, 0)), some (.inr (10, 0, 1)), some (.inr (10, 0, 2)), some (.inl (.int x5)), some (.inl (.int 0)), some (.inl (.int 0)), o8, o9]) rfl ?_
      refine ch_aload_n (i := 2) d_l_law_369 rfl rfl ?_
      refine ch_callV (as := []) d_l_law_370 lk_l_129 mi_m_thrown me_m_thrown rfl rfl rfl (ch_hR hR (Nat.le_of_ble_eq_true rfl)) (Nat.le_of_ble_eq_true rfl) (ch_rc1 (k := k) (a := 1) (b := 0) hcs (Nat.le_of_ble_eq_true rfl)) (ch_mono (ch_Ki (fun r24 m25 q26 => ?_)) (s_m_thrown g (fun (r_ : Int32) (m_ : ch_M) => ((m16 (9, 0, 0) 19) = r_ ∧ m16 = m_))  m16 ⟨rfl, rfl⟩))
      obtain ⟨rfl, rfl⟩ := q26
      replace h := h
      refine ch_iload d_l_law_373 rfl ?_
      refine ch_icmp_eq (tgt := 380) d_l_law_375 (by decide) (fun c => ?_) (fun c => ?_)
      · replace h := h.1 c
        refine ch_iload d_l_law_380 rfl ?_
        refine ch_if_ne (tgt := 397) d_l_law_382 (by decide) (fun c => absurd c (by decide)) (fun _ => ?_)
        refine ch_aload_n (i := 3) d_l_law_385 rfl rfl ?_
        refine ch_iconst (v := 0) d_l_law_386 (by decide) ?_
        refine ch_lald (n := 1) d_l_law_387 (by decide) rfl (vp_in_nI (n := 0) (by decide) (by decide)) ?_
        refine ch_iload d_l_law_388 rfl ?_
        refine ch_i2l d_l_law_390 ?_
        refine ch_lcmp d_l_law_391 ?_
        refine ch_if_eq (tgt := 397) d_l_law_392 (by decide) (fun c => ?_) (fun c => ?_)
        · replace h := h.1 c
          refine ch_goto (tgt := 2096) d_l_law_397 (by decide) ?_
          exact h
        · replace h := h.2 c
          refine ch_iconst (v := 0) d_l_law_395 (by decide) ?_
          exact h
      · replace h := h.2 c
        refine ch_iconst (v := 0) d_l_law_378 (by decide) ?_
        exact h
  · replace h := h.2 c_ m4 hm_
    refine ch_istore (i := 6) d_l_law_349 (Nat.le_of_ble_eq_true rfl) (ls' := [some (.inr (11, 0, 0)), some (.inr (0, 0, 0)), some (.inr (9, 0, 0)), some (.inr (10, 0, 1)), some (.inr (10, 0, 2)), some (.inl (.int x5)), some (.inl (.int 1)), o7, o8, o9]) rfl ?_
    refine ch_aload_n (i := 2) d_l_law_351 rfl rfl ?_
    refine ch_aload_n (i := 0) d_l_law_352 rfl rfl ?_
    refine ch_iload d_l_law_353 rfl ?_
    refine ch_iconst (v := 1) d_l_law_355 (by decide) ?_
    refine ch_iadd d_l_law_356 ?_
    refine ch_sld d_l_law_357 b1 ?_
    refine ch_aload_n (i := 0) d_l_law_358 rfl rfl ?_
    refine ch_iload d_l_law_359 rfl ?_
    refine ch_iconst (v := 2) d_l_law_361 (by decide) ?_
    refine ch_iadd d_l_law_362 ?_
    refine ch_sld d_l_law_363 b2 ?_
    obtain ⟨T_27, h⟩ := h
    obtain ⟨Y_28, h⟩ := h
    obtain ⟨A_29, h⟩ := h
    have b35 := h.1
    replace h := h.2
    have b36 := h.1
    replace h := h.2
    have b37 := h.1
    replace h := h.2
    refine ch_callV (as := [.inl (.int ((ch_scr g).2.2 (Int32.toNatClampNeg (x5 + 1)))), .inl (.int ((ch_scr g).2.2 (Int32.toNatClampNeg (x5 + 2))))]) d_l_law_364 lk_l_138 mi_m_hop me_m_hop rfl rfl rfl (ch_hR hR (Nat.le_of_ble_eq_true rfl)) (Nat.le_of_ble_eq_true rfl) (ch_rc1 (k := k) (a := 1) (b := 0) hcs (Nat.le_of_ble_eq_true rfl)) (ch_mono (ch_Ki (fun r32 m33 q34 => ?_)) (s_m_hop g (fun (r_ : Int32) (m_ : ch_M) => (∃ (B30 : ch_B), ((r_wh Y_28 ((ch_scr g).2.2 (Int32.toNatClampNeg (x5 + 1))) (s_rfB A_29 ((ch_scr g).2.2 (Int32.toNatClampNeg (x5 + 2))) 1) (s_rfB A_29 ((ch_scr g).2.2 (Int32.toNatClampNeg (x5 + 2))) 0 1)).1 = 0) ∧ (y_ct Y_28 ((ch_scr g).2.2 (Int32.toNatClampNeg (x5 + 1))) (s_rfB A_29 ((ch_scr g).2.2 (Int32.toNatClampNeg (x5 + 2))) 1) (Int32.toNatClampNeg (s_rfB A_29 ((ch_scr g).2.2 (Int32.toNatClampNeg (x5 + 2))) 0 1))) = r_ ∧ (m_done (ch_ob m4 9 0) B30 (y_hopB Y_28 ((ch_scr g).2.2 (Int32.toNatClampNeg (x5 + 1))) (s_rfB A_29 ((ch_scr g).2.2 (Int32.toNatClampNeg (x5 + 2))) 1) (Int32.toNatClampNeg (s_rfB A_29 ((ch_scr g).2.2 (Int32.toNatClampNeg (x5 + 2))) 0 1)))) ∧ m_ = ch_os m4 9 0 B30) ∨ (∃ (B31 : ch_B), (¬ (r_wh Y_28 ((ch_scr g).2.2 (Int32.toNatClampNeg (x5 + 1))) (s_rfB A_29 ((ch_scr g).2.2 (Int32.toNatClampNeg (x5 + 2))) 1) (s_rfB A_29 ((ch_scr g).2.2 (Int32.toNatClampNeg (x5 + 2))) 0 1)).1 = 0) ∧ 0 = r_ ∧ (m_rfd (ch_ob m4 9 0) B31 (r_wh Y_28 ((ch_scr g).2.2 (Int32.toNatClampNeg (x5 + 1))) (s_rfB A_29 ((ch_scr g).2.2 (Int32.toNatClampNeg (x5 + 2))) 1) (s_rfB A_29 ((ch_scr g).2.2 (Int32.toNatClampNeg (x5 + 2))) 0 1)).1 (r_wh Y_28 ((ch_scr g).2.2 (Int32.toNatClampNeg (x5 + 1))) (s_rfB A_29 ((ch_scr g).2.2 (Int32.toNatClampNeg (x5 + 2))) 1) (s_rfB A_29 ((ch_scr g).2.2 (Int32.toNatClampNeg (x5 + 2))) 0 1)).2) ∧ m_ = ch_os m4 9 0 B31)) (T_27) (Y_28) (A_29) (((ch_scr g).2.2 (Int32.toNatClampNeg (x5 + 1)))) (((ch_scr g).2.2 (Int32.toNatClampNeg (x5 + 2)))) m4 ⟨b35, b36, b37, (fun c_ B30 f0_ => (Or.inl ⟨B30, c_, rfl, f0_, rfl⟩)), (fun c_ B31 f0_ => (Or.inr ⟨B31, c_, rfl, f0_, rfl⟩))⟩))
    rcases q34 with ⟨B30, c_, rfl, f0_, hm_⟩ | ⟨B31, c_, rfl, f0_, hm_⟩
    · replace h := h.1 c_ B30 f0_ m33 hm_
      refine ch_istore (i := 7) d_l_law_367 (Nat.le_of_ble_eq_true rfl) (ls' := [some (.inr (11, 0, 0)), some (.inr (0, 0, 0)), some (.inr (9, 0, 0)), some (.inr (10, 0, 1)), some (.inr (10, 0, 2)), some (.inl (.int x5)), some (.inl (.int 1)), some (.inl (.int (y_ct Y_28 ((ch_scr g).2.2 (Int32.toNatClampNeg (x5 + 1))) (s_rfB A_29 ((ch_scr g).2.2 (Int32.toNatClampNeg (x5 + 2))) 1) (Int32.toNatClampNeg (s_rfB A_29 ((ch_scr g).2.2 (Int32.toNatClampNeg (x5 + 2))) 0 1))))), o8, o9]) rfl ?_
      refine ch_aload_n (i := 2) d_l_law_369 rfl rfl ?_
      refine ch_callV (as := []) d_l_law_370 lk_l_129 mi_m_thrown me_m_thrown rfl rfl rfl (ch_hR hR (Nat.le_of_ble_eq_true rfl)) (Nat.le_of_ble_eq_true rfl) (ch_rc1 (k := k) (a := 1) (b := 0) hcs (Nat.le_of_ble_eq_true rfl)) (ch_mono (ch_Ki (fun r38 m39 q40 => ?_)) (s_m_thrown g (fun (r_ : Int32) (m_ : ch_M) => ((m33 (9, 0, 0) 19) = r_ ∧ m33 = m_))  m33 ⟨rfl, rfl⟩))
      obtain ⟨rfl, rfl⟩ := q40
      replace h := h
      refine ch_iload d_l_law_373 rfl ?_
      refine ch_icmp_eq (tgt := 380) d_l_law_375 (by decide) (fun c => ?_) (fun c => ?_)
      · replace h := h.1 c
        refine ch_iload d_l_law_380 rfl ?_
        refine ch_if_ne (tgt := 397) d_l_law_382 (by decide) (fun _ => ?_) (fun c => absurd c (by decide))
        refine ch_goto (tgt := 2096) d_l_law_397 (by decide) ?_
        exact h
      · replace h := h.2 c
        refine ch_iconst (v := 0) d_l_law_378 (by decide) ?_
        exact h
    · replace h := h.2 c_ B31 f0_ m33 hm_
      refine ch_istore (i := 7) d_l_law_367 (Nat.le_of_ble_eq_true rfl) (ls' := [some (.inr (11, 0, 0)), some (.inr (0, 0, 0)), some (.inr (9, 0, 0)), some (.inr (10, 0, 1)), some (.inr (10, 0, 2)), some (.inl (.int x5)), some (.inl (.int 1)), some (.inl (.int 0)), o8, o9]) rfl ?_
      refine ch_aload_n (i := 2) d_l_law_369 rfl rfl ?_
      refine ch_callV (as := []) d_l_law_370 lk_l_129 mi_m_thrown me_m_thrown rfl rfl rfl (ch_hR hR (Nat.le_of_ble_eq_true rfl)) (Nat.le_of_ble_eq_true rfl) (ch_rc1 (k := k) (a := 1) (b := 0) hcs (Nat.le_of_ble_eq_true rfl)) (ch_mono (ch_Ki (fun r41 m42 q43 => ?_)) (s_m_thrown g (fun (r_ : Int32) (m_ : ch_M) => ((m33 (9, 0, 0) 19) = r_ ∧ m33 = m_))  m33 ⟨rfl, rfl⟩))
      obtain ⟨rfl, rfl⟩ := q43
      replace h := h
      refine ch_iload d_l_law_373 rfl ?_
      refine ch_icmp_eq (tgt := 380) d_l_law_375 (by decide) (fun c => ?_) (fun c => ?_)
      · replace h := h.1 c
        refine ch_iload d_l_law_380 rfl ?_
        refine ch_if_ne (tgt := 397) d_l_law_382 (by decide) (fun _ => ?_) (fun c => absurd c (by decide))
        refine ch_goto (tgt := 2096) d_l_law_397 (by decide) ?_
        exact h
      · replace h := h.2 c
        refine ch_iconst (v := 0) d_l_law_378 (by decide) ?_
        exact h
set_option maxHeartbeats 1600000 in
theorem g_l_law_400 (g : ch_G) (R : Room) (E : ch_En) (k : Nat) (hR : ch_RR R 18) (hcs : k + 40 ≤ R.cells ∧ 6 * k + 240 ≤ R.slots) (x5 : Int32) (o6 : Option ch_V) (o7 : Option ch_V) (o8 : Option ch_V) (o9 : Option ch_V) (m : ch_M) (h : (vp_in (x5 + 1) (ch_scr g).2.1) ∧ (vp_in ((x_K m 119 ((ch_scr g).2.2 (Int32.toNatClampNeg (x5 + 1))) 0 0) (1, 0, 0) 8) 6) ∧ (vp_in ((x_K m 119 ((ch_scr g).2.2 (Int32.toNatClampNeg (x5 + 1))) 0 0) (5, 0, 0) 1) 13) ∧ (vp_in ((x_K m 119 ((ch_scr g).2.2 (Int32.toNatClampNeg (x5 + 1))) 0 0) (2, 0, 0) 1) 8) ∧ ((x_R (x_K m 119 ((ch_scr g).2.2 (Int32.toNatClampNeg (x5 + 1))) 0 0)).1 = 0 → y_carP (ch_ob (x_K m 119 ((ch_scr g).2.2 (Int32.toNatClampNeg (x5 + 1))) 0 0) 1 0) (ch_ob (x_K m 119 ((ch_scr g).2.2 (Int32.toNatClampNeg (x5 + 1))) 0 0) 4 0) ((x_K m 119 ((ch_scr g).2.2 (Int32.toNatClampNeg (x5 + 1))) 0 0) (5, 0, 0) 1)) ∧ ((((x_R (x_K m 119 ((ch_scr g).2.2 (Int32.toNatClampNeg (x5 + 1))) 0 0)).1 = 0) → (∀ m3 : ch_M, m3 = (ch_wr (ch_os (p_kM (x_K m 119 ((ch_scr g).2.2 (Int32.toNatClampNeg (x5 + 1))) 0 0) 0) 1 0 (x_C (x_K m 119 ((ch_scr g).2.2 (Int32.toNatClampNeg (x5 + 1))) 0 0)).2) (10, 0, 1) 0 ((x_C (x_K m 119 ((ch_scr g).2.2 (Int32.toNatClampNeg (x5 + 1))) 0 0)).1)) → (∃ T_9 : Nat, (∃ Y_10 : ch_B, (m_rel Y_10 (m3 (9, 0, 1))) ∧ (y_inv T_9 Y_10) ∧ (vp_in (m3 (9, 0, 0) 4) 9) ∧ ((((r_ww Y_10 ((ch_scr g).2.2 (Int32.toNatClampNeg (x5 + 1)))).1 = 0) → (∀ (B11 : ch_B), (m_done (ch_ob m3 9 0) B11 (y_wriB Y_10 ((ch_scr g).2.2 (Int32.toNatClampNeg (x5 + 1))))) → (∀ m14 : ch_M, m14 = ch_os m3 9 0 B11 → ((((m14 (9, 0, 0) 19) = 0 → (((lg_cmp ((m14 (10, 0, 1) (0))).toInt64 ((if 9 < Y_10 4 (Int32.toNatClampNeg ((ch_scr g).2.2 (Int32.toNatClampNeg (x5 + 1)))) then 9 else Y_10 4 (Int32.toNatClampNeg ((ch_scr g).2.2 (Int32.toNatClampNeg (x5 + 1)))))).toInt64) = 0 → ch_J g m_l_law R E 2096 [some (.inr (11, 0, 0)), some (.inr (0, 0, 0)), some (.inr (9, 0, 0)), some (.inr (10, 0, 1)), some (.inr (10, 0, 2)), some (.inl (.int x5)), some (.inl (.int 0)), some (.inl (.int (if 9 < Y_10 4 (Int32.toNatClampNeg ((ch_scr g).2.2 (Int32.toNatClampNeg (x5 + 1)))) then 9 else Y_10 4 (Int32.toNatClampNeg ((ch_scr g).2.2 (Int32.toNatClampNeg (x5 + 1))))))), o8, o9] [] m14 (k + 1)) ∧ (¬ (lg_cmp ((m14 (10, 0, 1) (0))).toInt64 ((if 9 < Y_10 4 (Int32.toNatClampNeg ((ch_scr g).2.2 (Int32.toNatClampNeg (x5 + 1)))) then 9 else Y_10 4 (Int32.toNatClampNeg ((ch_scr g).2.2 (Int32.toNatClampNeg (x5 + 1)))))).toInt64) = 0 → ch_J g m_l_law R E 452 [some (.inr (11, 0, 0)), some (.inr (0, 0, 0)), some (.inr (9, 0, 0)), some (.inr (10, 0, 1)), some (.inr (10, 0, 2)), some (.inl (.int x5)), some (.inl (.int 0)), some (.inl (.int (if 9 < Y_10 4 (Int32.toNatClampNeg ((ch_scr g).2.2 (Int32.toNatClampNeg (x5 + 1)))) then 9 else Y_10 4 (Int32.toNatClampNeg ((ch_scr g).2.2 (Int32.toNatClampNeg (x5 + 1))))))), o8, o9] [.inl (.int 0)] m14 (k + 1)))) ∧ (¬ (m14 (9, 0, 0) 19) = 0 → ch_J g m_l_law R E 435 [some (.inr (11, 0, 0)), some (.inr (0, 0, 0)), some (.inr (9, 0, 0)), some (.inr (10, 0, 1)), some (.inr (10, 0, 2)), some (.inl (.int x5)), some (.inl (.int 0)), some (.inl (.int (if 9 < Y_10 4 (Int32.toNatClampNeg ((ch_scr g).2.2 (Int32.toNatClampNeg (x5 + 1)))) then 9 else Y_10 4 (Int32.toNatClampNeg ((ch_scr g).2.2 (Int32.toNatClampNeg (x5 + 1))))))), o8, o9] [.inl (.int 0)] m14 (k + 1))))))) ∧ ((¬ (r_ww Y_10 ((ch_scr g).2.2 (Int32.toNatClampNeg (x5 + 1)))).1 = 0) → (∀ (B12 : ch_B), (m_rfd (ch_ob m3 9 0) B12 (r_ww Y_10 ((ch_scr g).2.2 (Int32.toNatClampNeg (x5 + 1)))).1 (r_ww Y_10 ((ch_scr g).2.2 (Int32.toNatClampNeg (x5 + 1)))).2) → (∀ m14 : ch_M, m14 = ch_os m3 9 0 B12 → ((((m14 (9, 0, 0) 19) = 0 → (((lg_cmp ((m14 (10, 0, 1) (0))).toInt64 (0).toInt64) = 0 → ch_J g m_l_law R E 2096 [some (.inr (11, 0, 0)), some (.inr (0, 0, 0)), some (.inr (9, 0, 0)), some (.inr (10, 0, 1)), some (.inr (10, 0, 2)), some (.inl (.int x5)), some (.inl (.int 0)), some (.inl (.int 0)), o8, o9] [] m14 (k + 1)) ∧ (¬ (lg_cmp ((m14 (10, 0, 1) (0))).toInt64 (0).toInt64) = 0 → ch_J g m_l_law R E 452 [some (.inr (11, 0, 0)), some (.inr (0, 0, 0)), some (.inr (9, 0, 0)), some (.inr (10, 0, 1)), some (.inr (10, 0, 2)), some (.inl (.int x5)), some (.inl (.int 0)), some (.inl (.int 0)), o8, o9] [.inl (.int 0)] m14 (k + 1)))) ∧ (¬ (m14 (9, 0, 0) 19) = 0 → ch_J g m_l_law R E 435 [some (.inr (11, 0, 0)), some (.inr (0, 0, 0)), some (.inr (9, 0, 0)), some (.inr (10, 0, 1)), some (.inr (10, 0, 2)), some (.inl (.int x5)), some (.inl (.int 0)), some (.inl (.int 0)), o8, o9] [.inl (.int 0)] m14 (k + 1)))))))))))) ∧ ((¬ (x_R (x_K m 119 ((ch_scr g).2.2 (Int32.toNatClampNeg (x5 + 1))) 0 0)).1 = 0) → (∀ m3 : ch_M, m3 = r_kp (x_K m 119 ((ch_scr g).2.2 (Int32.toNatClampNeg (x5 + 1))) 0 0) (x_R (x_K m 119 ((ch_scr g).2.2 (Int32.toNatClampNeg (x5 + 1))) 0 0)).1 (x_R (x_K m 119 ((ch_scr g).2.2 (Int32.toNatClampNeg (x5 + 1))) 0 0)).2 → (∃ T_25 : Nat, (∃ Y_26 : ch_B, (m_rel Y_26 (m3 (9, 0, 1))) ∧ (y_inv T_25 Y_26) ∧ (vp_in (m3 (9, 0, 0) 4) 9) ∧ ((((r_ww Y_26 ((ch_scr g).2.2 (Int32.toNatClampNeg (x5 + 1)))).1 = 0) → (∀ (B27 : ch_B), (m_done (ch_ob m3 9 0) B27 (y_wriB Y_26 ((ch_scr g).2.2 (Int32.toNatClampNeg (x5 + 1))))) → (∀ m30 : ch_M, m30 = ch_os m3 9 0 B27 → ((((m30 (9, 0, 0) 19) = 1 → ch_J g m_l_law R E 2096 [some (.inr (11, 0, 0)), some (.inr (0, 0, 0)), some (.inr (9, 0, 0)), some (.inr (10, 0, 1)), some (.inr (10, 0, 2)), some (.inl (.int x5)), some (.inl (.int 1)), some (.inl (.int (if 9 < Y_26 4 (Int32.toNatClampNeg ((ch_scr g).2.2 (Int32.toNatClampNeg (x5 + 1)))) then 9 else Y_26 4 (Int32.toNatClampNeg ((ch_scr g).2.2 (Int32.toNatClampNeg (x5 + 1))))))), o8, o9] [] m30 (k + 1)) ∧ (¬ (m30 (9, 0, 0) 19) = 1 → ch_J g m_l_law R E 435 [some (.inr (11, 0, 0)), some (.inr (0, 0, 0)), some (.inr (9, 0, 0)), some (.inr (10, 0, 1)), some (.inr (10, 0, 2)), some (.inl (.int x5)), some (.inl (.int 1)), some (.inl (.int (if 9 < Y_26 4 (Int32.toNatClampNeg ((ch_scr g).2.2 (Int32.toNatClampNeg (x5 + 1)))) then 9 else Y_26 4 (Int32.toNatClampNeg ((ch_scr g).2.2 (Int32.toNatClampNeg (x5 + 1))))))), o8, o9] [.inl (.int 0)] m30 (k + 1))))))) ∧ ((¬ (r_ww Y_26 ((ch_scr g).2.2 (Int32.toNatClampNeg (x5 + 1)))).1 = 0) → (∀ (B28 : ch_B), (m_rfd (ch_ob m3 9 0) B28 (r_ww Y_26 ((ch_scr g).2.2 (Int32.toNatClampNeg (x5 + 1)))).1 (r_ww Y_26 ((ch_scr g).2.2 (Int32.toNatClampNeg (x5 + 1)))).2) → (∀ m30 : ch_M, m30 = ch_os m3 9 0 B28 → ((((m30 (9, 0, 0) 19) = 1 → ch_J g m_l_law R E 2096 [some (.inr (11, 0, 0)), some (.inr (0, 0, 0)), some (.inr (9, 0, 0)), some (.inr (10, 0, 1)), some (.inr (10, 0, 2)), some (.inl (.int x5)), some (.inl (.int 1)), some (.inl (.int 0)), o8, o9] [] m30 (k + 1)) ∧ (¬ (m30 (9, 0, 0) 19) = 1 → ch_J g m_l_law R E 435 [some (.inr (11, 0, 0)), some (.inr (0, 0, 0)), some (.inr (9, 0, 0)), some (.inr (10, 0, 1)), some (.inr (10, 0, 2)), some (.inl (.int x5)), some (.inl (.int 1)), some (.inl (.int 0)), o8, o9] [.inl (.int 0)] m30 (k + 1)))))))))))))) : ch_J g m_l_law R E 400 [some (.inr (11, 0, 0)), some (.inr (0, 0, 0)), some (.inr (9, 0, 0)), some (.inr (10, 0, 1)), some (.inr (10, 0, 2)), some (.inl (.int x5)), o6, o7, o8, o9] [] m k := by
  refine ch_aload_n (i := 1) d_l_law_400 rfl rfl ?_
  refine ch_aload_n (i := 0) d_l_law_401 rfl rfl ?_
  refine ch_iload d_l_law_402 rfl ?_
  refine ch_iconst (v := 1) d_l_law_404 (by decide) ?_
  refine ch_iadd d_l_law_405 ?_
  have b1 := h.1
  replace h := h.2
  refine ch_sld d_l_law_406 b1 ?_
  refine ch_aload_n (i := 3) d_l_law_407 rfl rfl ?_
  have b5 := h.1
  replace h := h.2
  have b6 := h.1
  replace h := h.2
  have b7 := h.1
  replace h := h.2
  have b8 := h.1
  replace h := h.2
  refine ch_callSX (as := [.inr (0, 0, 0), .inl (.int ((ch_scr g).2.2 (Int32.toNatClampNeg (x5 + 1)))), .inr (10, 0, 1)]) d_l_law_408 lk_l_139 ms_l_warrant rfl rfl (ch_hR hR (Nat.le_of_ble_eq_true rfl)) (Nat.le_of_ble_eq_true rfl) (ch_rc0 (k := k) (b := 1) hcs (Nat.le_of_ble_eq_true rfl)) (ch_mono (ch_Ki (fun r2 m3 q4 => ?_)) (s_l_warrant g (fun (r_ : Int32) (m_ : ch_M) => (((x_R (x_K m 119 ((ch_scr g).2.2 (Int32.toNatClampNeg (x5 + 1))) 0 0)).1 = 0) ∧ 0 = r_ ∧ m_ = (ch_wr (ch_os (p_kM (x_K m 119 ((ch_scr g).2.2 (Int32.toNatClampNeg (x5 + 1))) 0 0) 0) 1 0 (x_C (x_K m 119 ((ch_scr g).2.2 (Int32.toNatClampNeg (x5 + 1))) 0 0)).2) (10, 0, 1) 0 ((x_C (x_K m 119 ((ch_scr g).2.2 (Int32.toNatClampNeg (x5 + 1))) 0 0)).1))) ∨ ((¬ (x_R (x_K m 119 ((ch_scr g).2.2 (Int32.toNatClampNeg (x5 + 1))) 0 0)).1 = 0) ∧ 1 = r_ ∧ m_ = r_kp (x_K m 119 ((ch_scr g).2.2 (Int32.toNatClampNeg (x5 + 1))) 0 0) (x_R (x_K m 119 ((ch_scr g).2.2 (Int32.toNatClampNeg (x5 + 1))) 0 0)).1 (x_R (x_K m 119 ((ch_scr g).2.2 (Int32.toNatClampNeg (x5 + 1))) 0 0)).2)) (((ch_scr g).2.2 (Int32.toNatClampNeg (x5 + 1)))) m ⟨b5, b6, b7, b8, (fun c_ => (Or.inl ⟨c_, rfl, rfl⟩)), (fun c_ => (Or.inr ⟨c_, rfl, rfl⟩))⟩))
  rcases q4 with ⟨c_, rfl, hm_⟩ | ⟨c_, rfl, hm_⟩
  · replace h := h.1 c_ m3 hm_
    refine ch_istore (i := 6) d_l_law_411 (Nat.le_of_ble_eq_true rfl) (ls' := [some (.inr (11, 0, 0)), some (.inr (0, 0, 0)), some (.inr (9, 0, 0)), some (.inr (10, 0, 1)), some (.inr (10, 0, 2)), some (.inl (.int x5)), some (.inl (.int 0)), o7, o8, o9]) rfl ?_
    refine ch_aload_n (i := 2) d_l_law_413 rfl rfl ?_
    refine ch_aload_n (i := 0) d_l_law_414 rfl rfl ?_
    refine ch_iload d_l_law_415 rfl ?_
    refine ch_iconst (v := 1) d_l_law_417 (by decide) ?_
    refine ch_iadd d_l_law_418 ?_
    refine ch_sld d_l_law_419 b1 ?_
    obtain ⟨T_9, h⟩ := h
    obtain ⟨Y_10, h⟩ := h
    have b16 := h.1
    replace h := h.2
    have b17 := h.1
    replace h := h.2
    have b18 := h.1
    replace h := h.2
    refine ch_callV (as := [.inl (.int ((ch_scr g).2.2 (Int32.toNatClampNeg (x5 + 1))))]) d_l_law_420 lk_l_141 mi_m_warrant me_m_warrant rfl rfl rfl (ch_hR hR (Nat.le_of_ble_eq_true rfl)) (Nat.le_of_ble_eq_true rfl) (ch_rc1 (k := k) (a := 1) (b := 0) hcs (Nat.le_of_ble_eq_true rfl)) (ch_mono (ch_Ki (fun r13 m14 q15 => ?_)) (s_m_warrant g (fun (r_ : Int32) (m_ : ch_M) => (∃ (B11 : ch_B), ((r_ww Y_10 ((ch_scr g).2.2 (Int32.toNatClampNeg (x5 + 1)))).1 = 0) ∧ (if 9 < Y_10 4 (Int32.toNatClampNeg ((ch_scr g).2.2 (Int32.toNatClampNeg (x5 + 1)))) then 9 else Y_10 4 (Int32.toNatClampNeg ((ch_scr g).2.2 (Int32.toNatClampNeg (x5 + 1))))) = r_ ∧ (m_done (ch_ob m3 9 0) B11 (y_wriB Y_10 ((ch_scr g).2.2 (Int32.toNatClampNeg (x5 + 1))))) ∧ m_ = ch_os m3 9 0 B11) ∨ (∃ (B12 : ch_B), (¬ (r_ww Y_10 ((ch_scr g).2.2 (Int32.toNatClampNeg (x5 + 1)))).1 = 0) ∧ 0 = r_ ∧ (m_rfd (ch_ob m3 9 0) B12 (r_ww Y_10 ((ch_scr g).2.2 (Int32.toNatClampNeg (x5 + 1)))).1 (r_ww Y_10 ((ch_scr g).2.2 (Int32.toNatClampNeg (x5 + 1)))).2) ∧ m_ = ch_os m3 9 0 B12)) (T_9) (Y_10) (((ch_scr g).2.2 (Int32.toNatClampNeg (x5 + 1)))) m3 ⟨b16, b17, b18, (fun c_ B11 f0_ => (Or.inl ⟨B11, c_, rfl, f0_, rfl⟩)), (fun c_ B12 f0_ => (Or.inr ⟨B12, c_, rfl, f0_, rfl⟩))⟩))
    rcases q15 with ⟨B11, c_, rfl, f0_, hm_⟩ | ⟨B12, c_, rfl, f0_, hm_⟩
    · replace h := h.1 c_ B11 f0_ m14 hm_
      refine ch_istore (i := 7) d_l_law_423 (Nat.le_of_ble_eq_true rfl) (ls' := [some (.inr (11, 0, 0)), some (.inr (0, 0, 0)), some (.inr (9, 0, 0)), some (.inr (10, 0, 1)), some (.inr (10, 0, 2)), some (.inl (.int x5)), some (.inl (.int 0)), some (.inl (.int (if 9 < Y_10 4 (Int32.toNatClampNeg ((ch_scr g).2.2 (Int32.toNatClampNeg (x5 + 1)))) then 9 else Y_10 4 (Int32.toNatClampNeg ((ch_scr g).2.2 (Int32.toNatClampNeg (x5 + 1))))))), o8, o9]) rfl ?_
      refine ch_aload_n (i := 2) d_l_law_425 rfl rfl ?_
      refine ch_callV (as := []) d_l_law_426 lk_l_129 mi_m_thrown me_m_thrown rfl rfl rfl (ch_hR hR (Nat.le_of_ble_eq_true rfl)) (Nat.le_of_ble_eq_true rfl) (ch_rc1 (k := k) (a := 1) (b := 0) hcs (Nat.le_of_ble_eq_true rfl)) (ch_mono (ch_Ki (fun r19 m20 q21 => ?_)) (s_m_thrown g (fun (r_ : Int32) (m_ : ch_M) => ((m14 (9, 0, 0) 19) = r_ ∧ m14 = m_))  m14 ⟨rfl, rfl⟩))
      obtain ⟨rfl, rfl⟩ := q21
      replace h := h
      refine ch_iload d_l_law_429 rfl ?_
      refine ch_icmp_eq (tgt := 436) d_l_law_431 (by decide) (fun c => ?_) (fun c => ?_)
      · replace h := h.1 c
        refine ch_iload d_l_law_436 rfl ?_
        refine ch_if_ne (tgt := 453) d_l_law_438 (by decide) (fun c => absurd c (by decide)) (fun _ => ?_)
        refine ch_aload_n (i := 3) d_l_law_441 rfl rfl ?_
        refine ch_iconst (v := 0) d_l_law_442 (by decide) ?_
        refine ch_lald (n := 1) d_l_law_443 (by decide) rfl (vp_in_nI (n := 0) (by decide) (by decide)) ?_
        refine ch_iload d_l_law_444 rfl ?_
        refine ch_i2l d_l_law_446 ?_
        refine ch_lcmp d_l_law_447 ?_
        refine ch_if_eq (tgt := 453) d_l_law_448 (by decide) (fun c => ?_) (fun c => ?_)
        · replace h := h.1 c
          refine ch_goto (tgt := 2096) d_l_law_453 (by decide) ?_
          exact h
        · replace h := h.2 c
          refine ch_iconst (v := 0) d_l_law_451 (by decide) ?_
          exact h
      · replace h := h.2 c
        refine ch_iconst (v := 0) d_l_law_434 (by decide) ?_
        exact h
    · replace h := h.2 c_ B12 f0_ m14 hm_
      refine ch_istore (i := 7) d_l_law_423 (Nat.le_of_ble_eq_true rfl) (ls' := [some (.inr (11, 0, 0)), some (.inr (0, 0, 0)), some (.inr (9, 0, 0)), some (.inr (10, 0, 1)), some (.inr (10, 0, 2)), some (.inl (.int x5)), some (.inl (.int 0)), some (.inl (.int 0)), o8, o9]) rfl ?_
      refine ch_aload_n (i := 2) d_l_law_425 rfl rfl ?_
      refine ch_callV (as := []) d_l_law_426 lk_l_129 mi_m_thrown me_m_thrown rfl rfl rfl (ch_hR hR (Nat.le_of_ble_eq_true rfl)) (Nat.le_of_ble_eq_true rfl) (ch_rc1 (k := k) (a := 1) (b := 0) hcs (Nat.le_of_ble_eq_true rfl)) (ch_mono (ch_Ki (fun r22 m23 q24 => ?_)) (s_m_thrown g (fun (r_ : Int32) (m_ : ch_M) => ((m14 (9, 0, 0) 19) = r_ ∧ m14 = m_))  m14 ⟨rfl, rfl⟩))
      obtain ⟨rfl, rfl⟩ := q24
      replace h := h
      refine ch_iload d_l_law_429 rfl ?_
      refine ch_icmp_eq (tgt := 436) d_l_law_431 (by decide) (fun c => ?_) (fun c => ?_)
      · replace h := h.1 c
        refine ch_iload d_l_law_436 rfl ?_
        refine ch_if_ne (tgt := 453) d_l_law_438 (by decide) (fun c => absurd c (by decide)) (fun _ => ?_)
        refine ch_aload_n (i := 3) d_l_law_441 rfl rfl ?_
        refine ch_iconst (v := 0) d_l_law_442 (by decide) ?_
        refine ch_lald (n := 1) d_l_law_443 (by decide) rfl (vp_in_nI (n := 0) (by decide) (by decide)) ?_
        refine ch_iload d_l_law_444 rfl ?_
        refine ch_i2l d_l_law_446 ?_
        refine ch_lcmp d_l_law_447 ?_
        refine ch_if_eq (tgt := 453) d_l_law_448 (by decide) (fun c => ?_) (fun c => ?_)
        · replace h := h.1 c
          refine ch_goto (tgt := 2096) d_l_law_453 (by decide) ?_
          exact h
        · replace h := h.2 c
          refine ch_iconst (v := 0) d_l_law_451 (by decide) ?_
          exact h
      · replace h := h.2 c
        refine ch_iconst (v := 0) d_l_law_434 (by decide) ?_
        exact h
  · replace h := h.2 c_ m3 hm_
    refine ch_istore (i := 6) d_l_law_411 (Nat.le_of_ble_eq_true rfl) (ls' := [some (.inr (11, 0, 0)), some (.inr (0, 0, 0)), some (.inr (9, 0, 0)), some (.inr (10, 0, 1)), some (.inr (10, 0, 2)), some (.inl (.int x5)), some (.inl (.int 1)), o7, o8, o9]) rfl ?_
    refine ch_aload_n (i := 2) d_l_law_413 rfl rfl ?_
    refine ch_aload_n (i := 0) d_l_law_414 rfl rfl ?_
    refine ch_iload d_l_law_415 rfl ?_
    refine ch_iconst (v := 1) d_l_law_417 (by decide) ?_
    refine ch_iadd d_l_law_418 ?_
    refine ch_sld d_l_law_419 b1 ?_
    obtain ⟨T_25, h⟩ := h
    obtain ⟨Y_26, h⟩ := h
    have b32 := h.1
    replace h := h.2
    have b33 := h.1
    replace h := h.2
    have b34 := h.1
    replace h := h.2
    refine ch_callV (as := [.inl (.int ((ch_scr g).2.2 (Int32.toNatClampNeg (x5 + 1))))]) d_l_law_420 lk_l_141 mi_m_warrant me_m_warrant rfl rfl rfl (ch_hR hR (Nat.le_of_ble_eq_true rfl)) (Nat.le_of_ble_eq_true rfl) (ch_rc1 (k := k) (a := 1) (b := 0) hcs (Nat.le_of_ble_eq_true rfl)) (ch_mono (ch_Ki (fun r29 m30 q31 => ?_)) (s_m_warrant g (fun (r_ : Int32) (m_ : ch_M) => (∃ (B27 : ch_B), ((r_ww Y_26 ((ch_scr g).2.2 (Int32.toNatClampNeg (x5 + 1)))).1 = 0) ∧ (if 9 < Y_26 4 (Int32.toNatClampNeg ((ch_scr g).2.2 (Int32.toNatClampNeg (x5 + 1)))) then 9 else Y_26 4 (Int32.toNatClampNeg ((ch_scr g).2.2 (Int32.toNatClampNeg (x5 + 1))))) = r_ ∧ (m_done (ch_ob m3 9 0) B27 (y_wriB Y_26 ((ch_scr g).2.2 (Int32.toNatClampNeg (x5 + 1))))) ∧ m_ = ch_os m3 9 0 B27) ∨ (∃ (B28 : ch_B), (¬ (r_ww Y_26 ((ch_scr g).2.2 (Int32.toNatClampNeg (x5 + 1)))).1 = 0) ∧ 0 = r_ ∧ (m_rfd (ch_ob m3 9 0) B28 (r_ww Y_26 ((ch_scr g).2.2 (Int32.toNatClampNeg (x5 + 1)))).1 (r_ww Y_26 ((ch_scr g).2.2 (Int32.toNatClampNeg (x5 + 1)))).2) ∧ m_ = ch_os m3 9 0 B28)) (T_25) (Y_26) (((ch_scr g).2.2 (Int32.toNatClampNeg (x5 + 1)))) m3 ⟨b32, b33, b34, (fun c_ B27 f0_ => (Or.inl ⟨B27, c_, rfl, f0_, rfl⟩)), (fun c_ B28 f0_ => (Or.inr ⟨B28, c_, rfl, f0_, rfl⟩))⟩))
    rcases q31 with ⟨B27, c_, rfl, f0_, hm_⟩ | ⟨B28, c_, rfl, f0_, hm_⟩
    · replace h := h.1 c_ B27 f0_ m30 hm_
      refine ch_istore (i := 7) d_l_law_423 (Nat.le_of_ble_eq_true rfl) (ls' := [some (.inr (11, 0, 0)), some (.inr (0, 0, 0)), some (.inr (9, 0, 0)), some (.inr (10, 0, 1)), some (.inr (10, 0, 2)), some (.inl (.int x5)), some (.inl (.int 1)), some (.inl (.int (if 9 < Y_26 4 (Int32.toNatClampNeg ((ch_scr g).2.2 (Int32.toNatClampNeg (x5 + 1)))) then 9 else Y_26 4 (Int32.toNatClampNeg ((ch_scr g).2.2 (Int32.toNatClampNeg (x5 + 1))))))), o8, o9]) rfl ?_
      refine ch_aload_n (i := 2) d_l_law_425 rfl rfl ?_
      refine ch_callV (as := []) d_l_law_426 lk_l_129 mi_m_thrown me_m_thrown rfl rfl rfl (ch_hR hR (Nat.le_of_ble_eq_true rfl)) (Nat.le_of_ble_eq_true rfl) (ch_rc1 (k := k) (a := 1) (b := 0) hcs (Nat.le_of_ble_eq_true rfl)) (ch_mono (ch_Ki (fun r35 m36 q37 => ?_)) (s_m_thrown g (fun (r_ : Int32) (m_ : ch_M) => ((m30 (9, 0, 0) 19) = r_ ∧ m30 = m_))  m30 ⟨rfl, rfl⟩))
      obtain ⟨rfl, rfl⟩ := q37
      replace h := h
      refine ch_iload d_l_law_429 rfl ?_
      refine ch_icmp_eq (tgt := 436) d_l_law_431 (by decide) (fun c => ?_) (fun c => ?_)
      · replace h := h.1 c
        refine ch_iload d_l_law_436 rfl ?_
        refine ch_if_ne (tgt := 453) d_l_law_438 (by decide) (fun _ => ?_) (fun c => absurd c (by decide))
        refine ch_goto (tgt := 2096) d_l_law_453 (by decide) ?_
        exact h
      · replace h := h.2 c
        refine ch_iconst (v := 0) d_l_law_434 (by decide) ?_
        exact h
    · replace h := h.2 c_ B28 f0_ m30 hm_
      refine ch_istore (i := 7) d_l_law_423 (Nat.le_of_ble_eq_true rfl) (ls' := [some (.inr (11, 0, 0)), some (.inr (0, 0, 0)), some (.inr (9, 0, 0)), some (.inr (10, 0, 1)), some (.inr (10, 0, 2)), some (.inl (.int x5)), some (.inl (.int 1)), some (.inl (.int 0)), o8, o9]) rfl ?_
      refine ch_aload_n (i := 2) d_l_law_425 rfl rfl ?_
      refine ch_callV (as := []) d_l_law_426 lk_l_129 mi_m_thrown me_m_thrown rfl rfl rfl (ch_hR hR (Nat.le_of_ble_eq_true rfl)) (Nat.le_of_ble_eq_true rfl) (ch_rc1 (k := k) (a := 1) (b := 0) hcs (Nat.le_of_ble_eq_true rfl)) (ch_mono (ch_Ki (fun r38 m39 q40 => ?_)) (s_m_thrown g (fun (r_ : Int32) (m_ : ch_M) => ((m30 (9, 0, 0) 19) = r_ ∧ m30 = m_))  m30 ⟨rfl, rfl⟩))
      obtain ⟨rfl, rfl⟩ := q40
      replace h := h
      refine ch_iload d_l_law_429 rfl ?_
      refine ch_icmp_eq (tgt := 436) d_l_law_431 (by decide) (fun c => ?_) (fun c => ?_)
      · replace h := h.1 c
        refine ch_iload d_l_law_436 rfl ?_
        refine ch_if_ne (tgt := 453) d_l_law_438 (by decide) (fun _ => ?_) (fun c => absurd c (by decide))
        refine ch_goto (tgt := 2096) d_l_law_453 (by decide) ?_
        exact h
      · replace h := h.2 c
        refine ch_iconst (v := 0) d_l_law_434 (by decide) ?_
        exact h
set_option maxHeartbeats 1600000 in
theorem g_l_law_456 (g : ch_G) (R : Room) (E : ch_En) (k : Nat) (hR : ch_RR R 18) (hcs : k + 40 ≤ R.cells ∧ 6 * k + 240 ≤ R.slots) (x5 : Int32) (o6 : Option ch_V) (o7 : Option ch_V) (o8 : Option ch_V) (o9 : Option ch_V) (m : ch_M) (h : (vp_in (x5 + 1) (ch_scr g).2.1) ∧ (vp_in ((x_K m 115 ((ch_scr g).2.2 (Int32.toNatClampNeg (x5 + 1))) 0 0) (1, 0, 0) 8) 6) ∧ (vp_in ((x_K m 115 ((ch_scr g).2.2 (Int32.toNatClampNeg (x5 + 1))) 0 0) (5, 0, 0) 1) 13) ∧ (vp_in ((x_K m 115 ((ch_scr g).2.2 (Int32.toNatClampNeg (x5 + 1))) 0 0) (2, 0, 0) 1) 8) ∧ ((x_R (x_K m 115 ((ch_scr g).2.2 (Int32.toNatClampNeg (x5 + 1))) 0 0)).1 = 0 → y_carP (ch_ob (x_K m 115 ((ch_scr g).2.2 (Int32.toNatClampNeg (x5 + 1))) 0 0) 1 0) (ch_ob (x_K m 115 ((ch_scr g).2.2 (Int32.toNatClampNeg (x5 + 1))) 0 0) 4 0) ((x_K m 115 ((ch_scr g).2.2 (Int32.toNatClampNeg (x5 + 1))) 0 0) (5, 0, 0) 1)) ∧ ((((x_R (x_K m 115 ((ch_scr g).2.2 (Int32.toNatClampNeg (x5 + 1))) 0 0)).1 = 0) → (∀ m3 : ch_M, m3 = (ch_wr (ch_os (p_kM (x_K m 115 ((ch_scr g).2.2 (Int32.toNatClampNeg (x5 + 1))) 0 0) 0) 1 0 (x_C (x_K m 115 ((ch_scr g).2.2 (Int32.toNatClampNeg (x5 + 1))) 0 0)).2) (10, 0, 1) 0 ((x_C (x_K m 115 ((ch_scr g).2.2 (Int32.toNatClampNeg (x5 + 1))) 0 0)).1)) → (∃ T_9 : Nat, (∃ Y_10 : ch_B, (m_rel Y_10 (m3 (9, 0, 1))) ∧ (y_inv T_9 Y_10) ∧ (vp_in (m3 (9, 0, 0) 4) 9) ∧ ((((r_ws Y_10 ((ch_scr g).2.2 (Int32.toNatClampNeg (x5 + 1)))).1 = 0) → (∀ (B11 : ch_B), (m_done (ch_ob m3 9 0) B11 (y_strB Y_10 ((ch_scr g).2.2 (Int32.toNatClampNeg (x5 + 1))))) → (∀ m14 : ch_M, m14 = ch_os m3 9 0 B11 → ((((m14 (9, 0, 0) 19) = 0 → (((lg_cmp ((m14 (10, 0, 1) (0))).toInt64 ((Y_10 3 (Int32.toNatClampNeg ((ch_scr g).2.2 (Int32.toNatClampNeg (x5 + 1)))) - Y_10 5 (Int32.toNatClampNeg ((ch_scr g).2.2 (Int32.toNatClampNeg (x5 + 1)))))).toInt64) = 0 → ch_J g m_l_law R E 2096 [some (.inr (11, 0, 0)), some (.inr (0, 0, 0)), some (.inr (9, 0, 0)), some (.inr (10, 0, 1)), some (.inr (10, 0, 2)), some (.inl (.int x5)), some (.inl (.int 0)), some (.inl (.int (Y_10 3 (Int32.toNatClampNeg ((ch_scr g).2.2 (Int32.toNatClampNeg (x5 + 1)))) - Y_10 5 (Int32.toNatClampNeg ((ch_scr g).2.2 (Int32.toNatClampNeg (x5 + 1))))))), o8, o9] [] m14 (k + 1)) ∧ (¬ (lg_cmp ((m14 (10, 0, 1) (0))).toInt64 ((Y_10 3 (Int32.toNatClampNeg ((ch_scr g).2.2 (Int32.toNatClampNeg (x5 + 1)))) - Y_10 5 (Int32.toNatClampNeg ((ch_scr g).2.2 (Int32.toNatClampNeg (x5 + 1)))))).toInt64) = 0 → ch_J g m_l_law R E 508 [some (.inr (11, 0, 0)), some (.inr (0, 0, 0)), some (.inr (9, 0, 0)), some (.inr (10, 0, 1)), some (.inr (10, 0, 2)), some (.inl (.int x5)), some (.inl (.int 0)), some (.inl (.int (Y_10 3 (Int32.toNatClampNeg ((ch_scr g).2.2 (Int32.toNatClampNeg (x5 + 1)))) - Y_10 5 (Int32.toNatClampNeg ((ch_scr g).2.2 (Int32.toNatClampNeg (x5 + 1))))))), o8, o9] [.inl (.int 0)] m14 (k + 1)))) ∧ (¬ (m14 (9, 0, 0) 19) = 0 → ch_J g m_l_law R E 491 [some (.inr (11, 0, 0)), some (.inr (0, 0, 0)), some (.inr (9, 0, 0)), some (.inr (10, 0, 1)), some (.inr (10, 0, 2)), some (.inl (.int x5)), some (.inl (.int 0)), some (.inl (.int (Y_10 3 (Int32.toNatClampNeg ((ch_scr g).2.2 (Int32.toNatClampNeg (x5 + 1)))) - Y_10 5 (Int32.toNatClampNeg ((ch_scr g).2.2 (Int32.toNatClampNeg (x5 + 1))))))), o8, o9] [.inl (.int 0)] m14 (k + 1))))))) ∧ ((¬ (r_ws Y_10 ((ch_scr g).2.2 (Int32.toNatClampNeg (x5 + 1)))).1 = 0) → (∀ (B12 : ch_B), (m_rfd (ch_ob m3 9 0) B12 (r_ws Y_10 ((ch_scr g).2.2 (Int32.toNatClampNeg (x5 + 1)))).1 (r_ws Y_10 ((ch_scr g).2.2 (Int32.toNatClampNeg (x5 + 1)))).2) → (∀ m14 : ch_M, m14 = ch_os m3 9 0 B12 → ((((m14 (9, 0, 0) 19) = 0 → (((lg_cmp ((m14 (10, 0, 1) (0))).toInt64 (0).toInt64) = 0 → ch_J g m_l_law R E 2096 [some (.inr (11, 0, 0)), some (.inr (0, 0, 0)), some (.inr (9, 0, 0)), some (.inr (10, 0, 1)), some (.inr (10, 0, 2)), some (.inl (.int x5)), some (.inl (.int 0)), some (.inl (.int 0)), o8, o9] [] m14 (k + 1)) ∧ (¬ (lg_cmp ((m14 (10, 0, 1) (0))).toInt64 (0).toInt64) = 0 → ch_J g m_l_law R E 508 [some (.inr (11, 0, 0)), some (.inr (0, 0, 0)), some (.inr (9, 0, 0)), some (.inr (10, 0, 1)), some (.inr (10, 0, 2)), some (.inl (.int x5)), some (.inl (.int 0)), some (.inl (.int 0)), o8, o9] [.inl (.int 0)] m14 (k + 1)))) ∧ (¬ (m14 (9, 0, 0) 19) = 0 → ch_J g m_l_law R E 491 [some (.inr (11, 0, 0)), some (.inr (0, 0, 0)), some (.inr (9, 0, 0)), some (.inr (10, 0, 1)), some (.inr (10, 0, 2)), some (.inl (.int x5)), some (.inl (.int 0)), some (.inl (.int 0)), o8, o9] [.inl (.int 0)] m14 (k + 1)))))))))))) ∧ ((¬ (x_R (x_K m 115 ((ch_scr g).2.2 (Int32.toNatClampNeg (x5 + 1))) 0 0)).1 = 0) → (∀ m3 : ch_M, m3 = r_kp (x_K m 115 ((ch_scr g).2.2 (Int32.toNatClampNeg (x5 + 1))) 0 0) (x_R (x_K m 115 ((ch_scr g).2.2 (Int32.toNatClampNeg (x5 + 1))) 0 0)).1 (x_R (x_K m 115 ((ch_scr g).2.2 (Int32.toNatClampNeg (x5 + 1))) 0 0)).2 → (∃ T_25 : Nat, (∃ Y_26 : ch_B, (m_rel Y_26 (m3 (9, 0, 1))) ∧ (y_inv T_25 Y_26) ∧ (vp_in (m3 (9, 0, 0) 4) 9) ∧ ((((r_ws Y_26 ((ch_scr g).2.2 (Int32.toNatClampNeg (x5 + 1)))).1 = 0) → (∀ (B27 : ch_B), (m_done (ch_ob m3 9 0) B27 (y_strB Y_26 ((ch_scr g).2.2 (Int32.toNatClampNeg (x5 + 1))))) → (∀ m30 : ch_M, m30 = ch_os m3 9 0 B27 → ((((m30 (9, 0, 0) 19) = 1 → ch_J g m_l_law R E 2096 [some (.inr (11, 0, 0)), some (.inr (0, 0, 0)), some (.inr (9, 0, 0)), some (.inr (10, 0, 1)), some (.inr (10, 0, 2)), some (.inl (.int x5)), some (.inl (.int 1)), some (.inl (.int (Y_26 3 (Int32.toNatClampNeg ((ch_scr g).2.2 (Int32.toNatClampNeg (x5 + 1)))) - Y_26 5 (Int32.toNatClampNeg ((ch_scr g).2.2 (Int32.toNatClampNeg (x5 + 1))))))), o8, o9] [] m30 (k + 1)) ∧ (¬ (m30 (9, 0, 0) 19) = 1 → ch_J g m_l_law R E 491 [some (.inr (11, 0, 0)), some (.inr (0, 0, 0)), some (.inr (9, 0, 0)), some (.inr (10, 0, 1)), some (.inr (10, 0, 2)), some (.inl (.int x5)), some (.inl (.int 1)), some (.inl (.int (Y_26 3 (Int32.toNatClampNeg ((ch_scr g).2.2 (Int32.toNatClampNeg (x5 + 1)))) - Y_26 5 (Int32.toNatClampNeg ((ch_scr g).2.2 (Int32.toNatClampNeg (x5 + 1))))))), o8, o9] [.inl (.int 0)] m30 (k + 1))))))) ∧ ((¬ (r_ws Y_26 ((ch_scr g).2.2 (Int32.toNatClampNeg (x5 + 1)))).1 = 0) → (∀ (B28 : ch_B), (m_rfd (ch_ob m3 9 0) B28 (r_ws Y_26 ((ch_scr g).2.2 (Int32.toNatClampNeg (x5 + 1)))).1 (r_ws Y_26 ((ch_scr g).2.2 (Int32.toNatClampNeg (x5 + 1)))).2) → (∀ m30 : ch_M, m30 = ch_os m3 9 0 B28 → ((((m30 (9, 0, 0) 19) = 1 → ch_J g m_l_law R E 2096 [some (.inr (11, 0, 0)), some (.inr (0, 0, 0)), some (.inr (9, 0, 0)), some (.inr (10, 0, 1)), some (.inr (10, 0, 2)), some (.inl (.int x5)), some (.inl (.int 1)), some (.inl (.int 0)), o8, o9] [] m30 (k + 1)) ∧ (¬ (m30 (9, 0, 0) 19) = 1 → ch_J g m_l_law R E 491 [some (.inr (11, 0, 0)), some (.inr (0, 0, 0)), some (.inr (9, 0, 0)), some (.inr (10, 0, 1)), some (.inr (10, 0, 2)), some (.inl (.int x5)), some (.inl (.int 1)), some (.inl (.int 0)), o8, o9] [.inl (.int 0)] m30 (k + 1)))))))))))))) : ch_J g m_l_law R E 456 [some (.inr (11, 0, 0)), some (.inr (0, 0, 0)), some (.inr (9, 0, 0)), some (.inr (10, 0, 1)), some (.inr (10, 0, 2)), some (.inl (.int x5)), o6, o7, o8, o9] [] m k := by
  refine ch_aload_n (i := 1) d_l_law_456 rfl rfl ?_
  refine ch_aload_n (i := 0) d_l_law_457 rfl rfl ?_
  refine ch_iload d_l_law_458 rfl ?_
  refine ch_iconst (v := 1) d_l_law_460 (by decide) ?_
  refine ch_iadd d_l_law_461 ?_
  have b1 := h.1
  replace h := h.2
  refine ch_sld d_l_law_462 b1 ?_
  refine ch_aload_n (i := 3) d_l_law_463 rfl rfl ?_
  have b5 := h.1
  replace h := h.2
  have b6 := h.1
  replace h := h.2
  have b7 := h.1
  replace h := h.2
  have b8 := h.1
  replace h := h.2
  refine ch_callSX (as := [.inr (0, 0, 0), .inl (.int ((ch_scr g).2.2 (Int32.toNatClampNeg (x5 + 1)))), .inr (10, 0, 1)]) d_l_law_464 lk_l_142 ms_l_strike rfl rfl (ch_hR hR (Nat.le_of_ble_eq_true rfl)) (Nat.le_of_ble_eq_true rfl) (ch_rc0 (k := k) (b := 1) hcs (Nat.le_of_ble_eq_true rfl)) (ch_mono (ch_Ki (fun r2 m3 q4 => ?_)) (s_l_strike g (fun (r_ : Int32) (m_ : ch_M) => (((x_R (x_K m 115 ((ch_scr g).2.2 (Int32.toNatClampNeg (x5 + 1))) 0 0)).1 = 0) ∧ 0 = r_ ∧ m_ = (ch_wr (ch_os (p_kM (x_K m 115 ((ch_scr g).2.2 (Int32.toNatClampNeg (x5 + 1))) 0 0) 0) 1 0 (x_C (x_K m 115 ((ch_scr g).2.2 (Int32.toNatClampNeg (x5 + 1))) 0 0)).2) (10, 0, 1) 0 ((x_C (x_K m 115 ((ch_scr g).2.2 (Int32.toNatClampNeg (x5 + 1))) 0 0)).1))) ∨ ((¬ (x_R (x_K m 115 ((ch_scr g).2.2 (Int32.toNatClampNeg (x5 + 1))) 0 0)).1 = 0) ∧ 1 = r_ ∧ m_ = r_kp (x_K m 115 ((ch_scr g).2.2 (Int32.toNatClampNeg (x5 + 1))) 0 0) (x_R (x_K m 115 ((ch_scr g).2.2 (Int32.toNatClampNeg (x5 + 1))) 0 0)).1 (x_R (x_K m 115 ((ch_scr g).2.2 (Int32.toNatClampNeg (x5 + 1))) 0 0)).2)) (((ch_scr g).2.2 (Int32.toNatClampNeg (x5 + 1)))) m ⟨b5, b6, b7, b8, (fun c_ => (Or.inl ⟨c_, rfl, rfl⟩)), (fun c_ => (Or.inr ⟨c_, rfl, rfl⟩))⟩))
  rcases q4 with ⟨c_, rfl, hm_⟩ | ⟨c_, rfl, hm_⟩
  · replace h := h.1 c_ m3 hm_
    refine ch_istore (i := 6) d_l_law_467 (Nat.le_of_ble_eq_true rfl) (ls' := [some (.inr (11, 0, 0)), some (.inr (0, 0, 0)), some (.inr (9, 0, 0)), some (.inr (10, 0, 1)), some (.inr (10, 0, 2)), some (.inl (.int x5)), some (.inl (.int 0)), o7, o8, o9]) rfl ?_
    refine ch_aload_n (i := 2) d_l_law_469 rfl rfl ?_
    refine ch_aload_n (i := 0) d_l_law_470 rfl rfl ?_
    refine ch_iload d_l_law_471 rfl ?_
    refine ch_iconst (v := 1) d_l_law_473 (by decide) ?_
    refine ch_iadd d_l_law_474 ?_
    refine ch_sld d_l_law_475 b1 ?_
    obtain ⟨T_9, h⟩ := h
    obtain ⟨Y_10, h⟩ := h
    have b16 := h.1
    replace h := h.2
    have b17 := h.1
    replace h := h.2
    have b18 := h.1
    replace h := h.2
    refine ch_callV (as := [.inl (.int ((ch_scr g).2.2 (Int32.toNatClampNeg (x5 + 1))))]) d_l_law_476 lk_l_144 mi_m_strike me_m_strike rfl rfl rfl (ch_hR hR (Nat.le_of_ble_eq_true rfl)) (Nat.le_of_ble_eq_true rfl) (ch_rc1 (k := k) (a := 1) (b := 0) hcs (Nat.le_of_ble_eq_true rfl)) (ch_mono (ch_Ki (fun r13 m14 q15 => ?_)) (s_m_strike g (fun (r_ : Int32) (m_ : ch_M) => (∃ (B11 : ch_B), ((r_ws Y_10 ((ch_scr g).2.2 (Int32.toNatClampNeg (x5 + 1)))).1 = 0) ∧ (Y_10 3 (Int32.toNatClampNeg ((ch_scr g).2.2 (Int32.toNatClampNeg (x5 + 1)))) - Y_10 5 (Int32.toNatClampNeg ((ch_scr g).2.2 (Int32.toNatClampNeg (x5 + 1))))) = r_ ∧ (m_done (ch_ob m3 9 0) B11 (y_strB Y_10 ((ch_scr g).2.2 (Int32.toNatClampNeg (x5 + 1))))) ∧ m_ = ch_os m3 9 0 B11) ∨ (∃ (B12 : ch_B), (¬ (r_ws Y_10 ((ch_scr g).2.2 (Int32.toNatClampNeg (x5 + 1)))).1 = 0) ∧ 0 = r_ ∧ (m_rfd (ch_ob m3 9 0) B12 (r_ws Y_10 ((ch_scr g).2.2 (Int32.toNatClampNeg (x5 + 1)))).1 (r_ws Y_10 ((ch_scr g).2.2 (Int32.toNatClampNeg (x5 + 1)))).2) ∧ m_ = ch_os m3 9 0 B12)) (T_9) (Y_10) (((ch_scr g).2.2 (Int32.toNatClampNeg (x5 + 1)))) m3 ⟨b16, b17, b18, (fun c_ B11 f0_ => (Or.inl ⟨B11, c_, rfl, f0_, rfl⟩)), (fun c_ B12 f0_ => (Or.inr ⟨B12, c_, rfl, f0_, rfl⟩))⟩))
    rcases q15 with ⟨B11, c_, rfl, f0_, hm_⟩ | ⟨B12, c_, rfl, f0_, hm_⟩
    · replace h := h.1 c_ B11 f0_ m14 hm_
      refine ch_istore (i := 7) d_l_law_479 (Nat.le_of_ble_eq_true rfl) (ls' := [some (.inr (11, 0, 0)), some (.inr (0, 0, 0)), some (.inr (9, 0, 0)), some (.inr (10, 0, 1)), some (.inr (10, 0, 2)), some (.inl (.int x5)), some (.inl (.int 0)), some (.inl (.int (Y_10 3 (Int32.toNatClampNeg ((ch_scr g).2.2 (Int32.toNatClampNeg (x5 + 1)))) - Y_10 5 (Int32.toNatClampNeg ((ch_scr g).2.2 (Int32.toNatClampNeg (x5 + 1))))))), o8, o9]) rfl ?_
      refine ch_aload_n (i := 2) d_l_law_481 rfl rfl ?_
      refine ch_callV (as := []) d_l_law_482 lk_l_129 mi_m_thrown me_m_thrown rfl rfl rfl (ch_hR hR (Nat.le_of_ble_eq_true rfl)) (Nat.le_of_ble_eq_true rfl) (ch_rc1 (k := k) (a := 1) (b := 0) hcs (Nat.le_of_ble_eq_true rfl)) (ch_mono (ch_Ki (fun r19 m20 q21 => ?_)) (s_m_thrown g (fun (r_ : Int32) (m_ : ch_M) => ((m14 (9, 0, 0) 19) = r_ ∧ m14 = m_))  m14 ⟨rfl, rfl⟩))
      obtain ⟨rfl, rfl⟩ := q21
      replace h := h
      refine ch_iload d_l_law_485 rfl ?_
      refine ch_icmp_eq (tgt := 492) d_l_law_487 (by decide) (fun c => ?_) (fun c => ?_)
      · replace h := h.1 c
        refine ch_iload d_l_law_492 rfl ?_
        refine ch_if_ne (tgt := 509) d_l_law_494 (by decide) (fun c => absurd c (by decide)) (fun _ => ?_)
        refine ch_aload_n (i := 3) d_l_law_497 rfl rfl ?_
        refine ch_iconst (v := 0) d_l_law_498 (by decide) ?_
        refine ch_lald (n := 1) d_l_law_499 (by decide) rfl (vp_in_nI (n := 0) (by decide) (by decide)) ?_
        refine ch_iload d_l_law_500 rfl ?_
        refine ch_i2l d_l_law_502 ?_
        refine ch_lcmp d_l_law_503 ?_
        refine ch_if_eq (tgt := 509) d_l_law_504 (by decide) (fun c => ?_) (fun c => ?_)
        · replace h := h.1 c
          refine ch_goto (tgt := 2096) d_l_law_509 (by decide) ?_
          exact h
        · replace h := h.2 c
          refine ch_iconst (v := 0) d_l_law_507 (by decide) ?_
          exact h
      · replace h := h.2 c
        refine ch_iconst (v := 0) d_l_law_490 (by decide) ?_
        exact h
    · replace h := h.2 c_ B12 f0_ m14 hm_
      refine ch_istore (i := 7) d_l_law_479 (Nat.le_of_ble_eq_true rfl) (ls' := [some (.inr (11, 0, 0)), some (.inr (0, 0, 0)), some (.inr (9, 0, 0)), some (.inr (10, 0, 1)), some (.inr (10, 0, 2)), some (.inl (.int x5)), some (.inl (.int 0)), some (.inl (.int 0)), o8, o9]) rfl ?_
      refine ch_aload_n (i := 2) d_l_law_481 rfl rfl ?_
      refine ch_callV (as := []) d_l_law_482 lk_l_129 mi_m_thrown me_m_thrown rfl rfl rfl (ch_hR hR (Nat.le_of_ble_eq_true rfl)) (Nat.le_of_ble_eq_true rfl) (ch_rc1 (k := k) (a := 1) (b := 0) hcs (Nat.le_of_ble_eq_true rfl)) (ch_mono (ch_Ki (fun r22 m23 q24 => ?_)) (s_m_thrown g (fun (r_ : Int32) (m_ : ch_M) => ((m14 (9, 0, 0) 19) = r_ ∧ m14 = m_))  m14 ⟨rfl, rfl⟩))
      obtain ⟨rfl, rfl⟩ := q24
      replace h := h
      refine ch_iload d_l_law_485 rfl ?_
      refine ch_icmp_eq (tgt := 492) d_l_law_487 (by decide) (fun c => ?_) (fun c => ?_)
      · replace h := h.1 c
        refine ch_iload d_l_law_492 rfl ?_
        refine ch_if_ne (tgt := 509) d_l_law_494 (by decide) (fun c => absurd c (by decide)) (fun _ => ?_)
        refine ch_aload_n (i := 3) d_l_law_497 rfl rfl ?_
        refine ch_iconst (v := 0) d_l_law_498 (by decide) ?_
        refine ch_lald (n := 1) d_l_law_499 (by decide) rfl (vp_in_nI (n := 0) (by decide) (by decide)) ?_
        refine ch_iload d_l_law_500 rfl ?_
        refine ch_i2l d_l_law_502 ?_
        refine ch_lcmp d_l_law_503 ?_
        refine ch_if_eq (tgt := 509) d_l_law_504 (by decide) (fun c => ?_) (fun c => ?_)
        · replace h := h.1 c
          refine ch_goto (tgt := 2096) d_l_law_509 (by decide) ?_
          exact h
        · replace h := h.2 c
          refine ch_iconst (v := 0) d_l_law_507 (by decide) ?_
          exact h
      · replace h := h.2 c
        refine ch_iconst (v := 0) d_l_law_490 (by decide) ?_
        exact h
  · replace h := h.2 c_ m3 hm_
    refine ch_istore (i := 6) d_l_law_467 (Nat.le_of_ble_eq_true rfl) (ls' := [some (.inr (11, 0, 0)), some (.inr (0, 0, 0)), some (.inr (9, 0, 0)), some (.inr (10, 0, 1)), some (.inr (10, 0, 2)), some (.inl (.int x5)), some (.inl (.int 1)), o7, o8, o9]) rfl ?_
    refine ch_aload_n (i := 2) d_l_law_469 rfl rfl ?_
    refine ch_aload_n (i := 0) d_l_law_470 rfl rfl ?_
    refine ch_iload d_l_law_471 rfl ?_
    refine ch_iconst (v := 1) d_l_law_473 (by decide) ?_
    refine ch_iadd d_l_law_474 ?_
    refine ch_sld d_l_law_475 b1 ?_
    obtain ⟨T_25, h⟩ := h
    obtain ⟨Y_26, h⟩ := h
    have b32 := h.1
    replace h := h.2
    have b33 := h.1
    replace h := h.2
    have b34 := h.1
    replace h := h.2
    refine ch_callV (as := [.inl (.int ((ch_scr g).2.2 (Int32.toNatClampNeg (x5 + 1))))]) d_l_law_476 lk_l_144 mi_m_strike me_m_strike rfl rfl rfl (ch_hR hR (Nat.le_of_ble_eq_true rfl)) (Nat.le_of_ble_eq_true rfl) (ch_rc1 (k := k) (a := 1) (b := 0) hcs (Nat.le_of_ble_eq_true rfl)) (ch_mono (ch_Ki (fun r29 m30 q31 => ?_)) (s_m_strike g (fun (r_ : Int32) (m_ : ch_M) => (∃ (B27 : ch_B), ((r_ws Y_26 ((ch_scr g).2.2 (Int32.toNatClampNeg (x5 + 1)))).1 = 0) ∧ (Y_26 3 (Int32.toNatClampNeg ((ch_scr g).2.2 (Int32.toNatClampNeg (x5 + 1)))) - Y_26 5 (Int32.toNatClampNeg ((ch_scr g).2.2 (Int32.toNatClampNeg (x5 + 1))))) = r_ ∧ (m_done (ch_ob m3 9 0) B27 (y_strB Y_26 ((ch_scr g).2.2 (Int32.toNatClampNeg (x5 + 1))))) ∧ m_ = ch_os m3 9 0 B27) ∨ (∃ (B28 : ch_B), (¬ (r_ws Y_26 ((ch_scr g).2.2 (Int32.toNatClampNeg (x5 + 1)))).1 = 0) ∧ 0 = r_ ∧ (m_rfd (ch_ob m3 9 0) B28 (r_ws Y_26 ((ch_scr g).2.2 (Int32.toNatClampNeg (x5 + 1)))).1 (r_ws Y_26 ((ch_scr g).2.2 (Int32.toNatClampNeg (x5 + 1)))).2) ∧ m_ = ch_os m3 9 0 B28)) (T_25) (Y_26) (((ch_scr g).2.2 (Int32.toNatClampNeg (x5 + 1)))) m3 ⟨b32, b33, b34, (fun c_ B27 f0_ => (Or.inl ⟨B27, c_, rfl, f0_, rfl⟩)), (fun c_ B28 f0_ => (Or.inr ⟨B28, c_, rfl, f0_, rfl⟩))⟩))
    rcases q31 with ⟨B27, c_, rfl, f0_, hm_⟩ | ⟨B28, c_, rfl, f0_, hm_⟩
    · replace h := h.1 c_ B27 f0_ m30 hm_
      refine ch_istore (i := 7) d_l_law_479 (Nat.le_of_ble_eq_true rfl) (ls' := [some (.inr (11, 0, 0)), some (.inr (0, 0, 0)), some (.inr (9, 0, 0)), some (.inr (10, 0, 1)), some (.inr (10, 0, 2)), some (.inl (.int x5)), some (.inl (.int 1)), some (.inl (.int (Y_26 3 (Int32.toNatClampNeg ((ch_scr g).2.2 (Int32.toNatClampNeg (x5 + 1)))) - Y_26 5 (Int32.toNatClampNeg ((ch_scr g).2.2 (Int32.toNatClampNeg (x5 + 1))))))), o8, o9]) rfl ?_
      refine ch_aload_n (i := 2) d_l_law_481 rfl rfl ?_
      refine ch_callV (as := []) d_l_law_482 lk_l_129 mi_m_thrown me_m_thrown rfl rfl rfl (ch_hR hR (Nat.le_of_ble_eq_true rfl)) (Nat.le_of_ble_eq_true rfl) (ch_rc1 (k := k) (a := 1) (b := 0) hcs (Nat.le_of_ble_eq_true rfl)) (ch_mono (ch_Ki (fun r35 m36 q37 => ?_)) (s_m_thrown g (fun (r_ : Int32) (m_ : ch_M) => ((m30 (9, 0, 0) 19) = r_ ∧ m30 = m_))  m30 ⟨rfl, rfl⟩))
      obtain ⟨rfl, rfl⟩ := q37
      replace h := h
      refine ch_iload d_l_law_485 rfl ?_
      refine ch_icmp_eq (tgt := 492) d_l_law_487 (by decide) (fun c => ?_) (fun c => ?_)
      · replace h := h.1 c
        refine ch_iload d_l_law_492 rfl ?_
        refine ch_if_ne (tgt := 509) d_l_law_494 (by decide) (fun _ => ?_) (fun c => absurd c (by decide))
        refine ch_goto (tgt := 2096) d_l_law_509 (by decide) ?_
        exact h
      · replace h := h.2 c
        refine ch_iconst (v := 0) d_l_law_490 (by decide) ?_
        exact h
    · replace h := h.2 c_ B28 f0_ m30 hm_
      refine ch_istore (i := 7) d_l_law_479 (Nat.le_of_ble_eq_true rfl) (ls' := [some (.inr (11, 0, 0)), some (.inr (0, 0, 0)), some (.inr (9, 0, 0)), some (.inr (10, 0, 1)), some (.inr (10, 0, 2)), some (.inl (.int x5)), some (.inl (.int 1)), some (.inl (.int 0)), o8, o9]) rfl ?_
      refine ch_aload_n (i := 2) d_l_law_481 rfl rfl ?_
      refine ch_callV (as := []) d_l_law_482 lk_l_129 mi_m_thrown me_m_thrown rfl rfl rfl (ch_hR hR (Nat.le_of_ble_eq_true rfl)) (Nat.le_of_ble_eq_true rfl) (ch_rc1 (k := k) (a := 1) (b := 0) hcs (Nat.le_of_ble_eq_true rfl)) (ch_mono (ch_Ki (fun r38 m39 q40 => ?_)) (s_m_thrown g (fun (r_ : Int32) (m_ : ch_M) => ((m30 (9, 0, 0) 19) = r_ ∧ m30 = m_))  m30 ⟨rfl, rfl⟩))
      obtain ⟨rfl, rfl⟩ := q40
      replace h := h
      refine ch_iload d_l_law_485 rfl ?_
      refine ch_icmp_eq (tgt := 492) d_l_law_487 (by decide) (fun c => ?_) (fun c => ?_)
      · replace h := h.1 c
        refine ch_iload d_l_law_492 rfl ?_
        refine ch_if_ne (tgt := 509) d_l_law_494 (by decide) (fun _ => ?_) (fun c => absurd c (by decide))
        refine ch_goto (tgt := 2096) d_l_law_509 (by decide) ?_
        exact h
      · replace h := h.2 c
        refine ch_iconst (v := 0) d_l_law_490 (by decide) ?_
        exact h
set_option maxHeartbeats 1600000 in
theorem g_l_law_512 (g : ch_G) (R : Room) (E : ch_En) (k : Nat) (hR : ch_RR R 18) (hcs : k + 40 ≤ R.cells ∧ 6 * k + 240 ≤ R.slots) (x5 : Int32) (o6 : Option ch_V) (o7 : Option ch_V) (o8 : Option ch_V) (o9 : Option ch_V) (m : ch_M) (h : (vp_in (x5 + 1) (ch_scr g).2.1) ∧ (vp_in ((x_K m 114 0 0 ((ch_scr g).2.2 (Int32.toNatClampNeg (x5 + 1)))) (1, 0, 0) 8) 6) ∧ (vp_in ((x_K m 114 0 0 ((ch_scr g).2.2 (Int32.toNatClampNeg (x5 + 1)))) (5, 0, 0) 1) 13) ∧ (vp_in ((x_K m 114 0 0 ((ch_scr g).2.2 (Int32.toNatClampNeg (x5 + 1)))) (2, 0, 0) 1) 8) ∧ ((x_R (x_K m 114 0 0 ((ch_scr g).2.2 (Int32.toNatClampNeg (x5 + 1))))).1 = 0 → y_carP (ch_ob (x_K m 114 0 0 ((ch_scr g).2.2 (Int32.toNatClampNeg (x5 + 1)))) 1 0) (ch_ob (x_K m 114 0 0 ((ch_scr g).2.2 (Int32.toNatClampNeg (x5 + 1)))) 4 0) ((x_K m 114 0 0 ((ch_scr g).2.2 (Int32.toNatClampNeg (x5 + 1)))) (5, 0, 0) 1)) ∧ ((((x_R (x_K m 114 0 0 ((ch_scr g).2.2 (Int32.toNatClampNeg (x5 + 1))))).1 = 0) → (∀ m3 : ch_M, m3 = (ch_wr (ch_os (p_kM (x_K m 114 0 0 ((ch_scr g).2.2 (Int32.toNatClampNeg (x5 + 1)))) 0) 1 0 (x_C (x_K m 114 0 0 ((ch_scr g).2.2 (Int32.toNatClampNeg (x5 + 1))))).2) (10, 0, 1) 0 ((x_C (x_K m 114 0 0 ((ch_scr g).2.2 (Int32.toNatClampNeg (x5 + 1))))).1)) → (∃ T_9 : Nat, (∃ Y_10 : ch_B, (m_rel Y_10 (m3 (9, 0, 1))) ∧ (y_inv T_9 Y_10) ∧ (vp_in (m3 (9, 0, 0) 4) 9) ∧ ((((r_wr Y_10 ((ch_scr g).2.2 (Int32.toNatClampNeg (x5 + 1)))).1 = 0) → (∀ (B11 : ch_B), (m_done (ch_ob m3 9 0) B11 (y_washB Y_10 ((ch_scr g).2.2 (Int32.toNatClampNeg (x5 + 1))))) → (∀ m14 : ch_M, m14 = ch_os m3 9 0 B11 → ((((m14 (9, 0, 0) 19) = 0 → (((lg_cmp ((m14 (10, 0, 1) (0))).toInt64 ((y_washR Y_10 ((ch_scr g).2.2 (Int32.toNatClampNeg (x5 + 1))))).toInt64) = 0 → ch_J g m_l_law R E 2096 [some (.inr (11, 0, 0)), some (.inr (0, 0, 0)), some (.inr (9, 0, 0)), some (.inr (10, 0, 1)), some (.inr (10, 0, 2)), some (.inl (.int x5)), some (.inl (.int 0)), some (.inl (.int (y_washR Y_10 ((ch_scr g).2.2 (Int32.toNatClampNeg (x5 + 1)))))), o8, o9] [] m14 (k + 1)) ∧ (¬ (lg_cmp ((m14 (10, 0, 1) (0))).toInt64 ((y_washR Y_10 ((ch_scr g).2.2 (Int32.toNatClampNeg (x5 + 1))))).toInt64) = 0 → ch_J g m_l_law R E 564 [some (.inr (11, 0, 0)), some (.inr (0, 0, 0)), some (.inr (9, 0, 0)), some (.inr (10, 0, 1)), some (.inr (10, 0, 2)), some (.inl (.int x5)), some (.inl (.int 0)), some (.inl (.int (y_washR Y_10 ((ch_scr g).2.2 (Int32.toNatClampNeg (x5 + 1)))))), o8, o9] [.inl (.int 0)] m14 (k + 1)))) ∧ (¬ (m14 (9, 0, 0) 19) = 0 → ch_J g m_l_law R E 547 [some (.inr (11, 0, 0)), some (.inr (0, 0, 0)), some (.inr (9, 0, 0)), some (.inr (10, 0, 1)), some (.inr (10, 0, 2)), some (.inl (.int x5)), some (.inl (.int 0)), some (.inl (.int (y_washR Y_10 ((ch_scr g).2.2 (Int32.toNatClampNeg (x5 + 1)))))), o8, o9] [.inl (.int 0)] m14 (k + 1))))))) ∧ ((¬ (r_wr Y_10 ((ch_scr g).2.2 (Int32.toNatClampNeg (x5 + 1)))).1 = 0) → (∀ (B12 : ch_B), (m_rfd (ch_ob m3 9 0) B12 (r_wr Y_10 ((ch_scr g).2.2 (Int32.toNatClampNeg (x5 + 1)))).1 (r_wr Y_10 ((ch_scr g).2.2 (Int32.toNatClampNeg (x5 + 1)))).2) → (∀ m14 : ch_M, m14 = ch_os m3 9 0 B12 → ((((m14 (9, 0, 0) 19) = 0 → (((lg_cmp ((m14 (10, 0, 1) (0))).toInt64 (0).toInt64) = 0 → ch_J g m_l_law R E 2096 [some (.inr (11, 0, 0)), some (.inr (0, 0, 0)), some (.inr (9, 0, 0)), some (.inr (10, 0, 1)), some (.inr (10, 0, 2)), some (.inl (.int x5)), some (.inl (.int 0)), some (.inl (.int 0)), o8, o9] [] m14 (k + 1)) ∧ (¬ (lg_cmp ((m14 (10, 0, 1) (0))).toInt64 (0).toInt64) = 0 → ch_J g m_l_law R E 564 [some (.inr (11, 0, 0)), some (.inr (0, 0, 0)), some (.inr (9, 0, 0)), some (.inr (10, 0, 1)), some (.inr (10, 0, 2)), some (.inl (.int x5)), some (.inl (.int 0)), some (.inl (.int 0)), o8, o9] [.inl (.int 0)] m14 (k + 1)))) ∧ (¬ (m14 (9, 0, 0) 19) = 0 → ch_J g m_l_law R E 547 [some (.inr (11, 0, 0)), some (.inr (0, 0, 0)), some (.inr (9, 0, 0)), some (.inr (10, 0, 1)), some (.inr (10, 0, 2)), some (.inl (.int x5)), some (.inl (.int 0)), some (.inl (.int 0)), o8, o9] [.inl (.int 0)] m14 (k + 1)))))))))))) ∧ ((¬ (x_R (x_K m 114 0 0 ((ch_scr g).2.2 (Int32.toNatClampNeg (x5 + 1))))).1 = 0) → (∀ m3 : ch_M, m3 = r_kp (x_K m 114 0 0 ((ch_scr g).2.2 (Int32.toNatClampNeg (x5 + 1)))) (x_R (x_K m 114 0 0 ((ch_scr g).2.2 (Int32.toNatClampNeg (x5 + 1))))).1 (x_R (x_K m 114 0 0 ((ch_scr g).2.2 (Int32.toNatClampNeg (x5 + 1))))).2 → (∃ T_25 : Nat, (∃ Y_26 : ch_B, (m_rel Y_26 (m3 (9, 0, 1))) ∧ (y_inv T_25 Y_26) ∧ (vp_in (m3 (9, 0, 0) 4) 9) ∧ ((((r_wr Y_26 ((ch_scr g).2.2 (Int32.toNatClampNeg (x5 + 1)))).1 = 0) → (∀ (B27 : ch_B), (m_done (ch_ob m3 9 0) B27 (y_washB Y_26 ((ch_scr g).2.2 (Int32.toNatClampNeg (x5 + 1))))) → (∀ m30 : ch_M, m30 = ch_os m3 9 0 B27 → ((((m30 (9, 0, 0) 19) = 1 → ch_J g m_l_law R E 2096 [some (.inr (11, 0, 0)), some (.inr (0, 0, 0)), some (.inr (9, 0, 0)), some (.inr (10, 0, 1)), some (.inr (10, 0, 2)), some (.inl (.int x5)), some (.inl (.int 1)), some (.inl (.int (y_washR Y_26 ((ch_scr g).2.2 (Int32.toNatClampNeg (x5 + 1)))))), o8, o9] [] m30 (k + 1)) ∧ (¬ (m30 (9, 0, 0) 19) = 1 → ch_J g m_l_law R E 547 [some (.inr (11, 0, 0)), some (.inr (0, 0, 0)), some (.inr (9, 0, 0)), some (.inr (10, 0, 1)), some (.inr (10, 0, 2)), some (.inl (.int x5)), some (.inl (.int 1)), some (.inl (.int (y_washR Y_26 ((ch_scr g).2.2 (Int32.toNatClampNeg (x5 + 1)))))), o8, o9] [.inl (.int 0)] m30 (k + 1))))))) ∧ ((¬ (r_wr Y_26 ((ch_scr g).2.2 (Int32.toNatClampNeg (x5 + 1)))).1 = 0) → (∀ (B28 : ch_B), (m_rfd (ch_ob m3 9 0) B28 (r_wr Y_26 ((ch_scr g).2.2 (Int32.toNatClampNeg (x5 + 1)))).1 (r_wr Y_26 ((ch_scr g).2.2 (Int32.toNatClampNeg (x5 + 1)))).2) → (∀ m30 : ch_M, m30 = ch_os m3 9 0 B28 → ((((m30 (9, 0, 0) 19) = 1 → ch_J g m_l_law R E 2096 [some (.inr (11, 0, 0)), some (.inr (0, 0, 0)), some (.inr (9, 0, 0)), some (.inr (10, 0, 1)), some (.inr (10, 0, 2)), some (.inl (.int x5)), some (.inl (.int 1)), some (.inl (.int 0)), o8, o9] [] m30 (k + 1)) ∧ (¬ (m30 (9, 0, 0) 19) = 1 → ch_J g m_l_law R E 547 [some (.inr (11, 0, 0)), some (.inr (0, 0, 0)), some (.inr (9, 0, 0)), some (.inr (10, 0, 1)), some (.inr (10, 0, 2)), some (.inl (.int x5)), some (.inl (.int 1)), some (.inl (.int 0)), o8, o9] [.inl (.int 0)] m30 (k + 1)))))))))))))) : ch_J g m_l_law R E 512 [some (.inr (11, 0, 0)), some (.inr (0, 0, 0)), some (.inr (9, 0, 0)), some (.inr (10, 0, 1)), some (.inr (10, 0, 2)), some (.inl (.int x5)), o6, o7, o8, o9] [] m k := by
  refine ch_aload_n (i := 1) d_l_law_512 rfl rfl ?_
  refine ch_aload_n (i := 0) d_l_law_513 rfl rfl ?_
  refine ch_iload d_l_law_514 rfl ?_
  refine ch_iconst (v := 1) d_l_law_516 (by decide) ?_
  refine ch_iadd d_l_law_517 ?_
  have b1 := h.1
  replace h := h.2
  refine ch_sld d_l_law_518 b1 ?_
  refine ch_aload_n (i := 3) d_l_law_519 rfl rfl ?_
  have b5 := h.1
  replace h := h.2
  have b6 := h.1
  replace h := h.2
  have b7 := h.1
  replace h := h.2
  have b8 := h.1
  replace h := h.2
  refine ch_callSX (as := [.inr (0, 0, 0), .inl (.int ((ch_scr g).2.2 (Int32.toNatClampNeg (x5 + 1)))), .inr (10, 0, 1)]) d_l_law_520 lk_l_145 ms_l_rain rfl rfl (ch_hR hR (Nat.le_of_ble_eq_true rfl)) (Nat.le_of_ble_eq_true rfl) (ch_rc0 (k := k) (b := 1) hcs (Nat.le_of_ble_eq_true rfl)) (ch_mono (ch_Ki (fun r2 m3 q4 => ?_)) (s_l_rain g (fun (r_ : Int32) (m_ : ch_M) => (((x_R (x_K m 114 0 0 ((ch_scr g).2.2 (Int32.toNatClampNeg (x5 + 1))))).1 = 0) ∧ 0 = r_ ∧ m_ = (ch_wr (ch_os (p_kM (x_K m 114 0 0 ((ch_scr g).2.2 (Int32.toNatClampNeg (x5 + 1)))) 0) 1 0 (x_C (x_K m 114 0 0 ((ch_scr g).2.2 (Int32.toNatClampNeg (x5 + 1))))).2) (10, 0, 1) 0 ((x_C (x_K m 114 0 0 ((ch_scr g).2.2 (Int32.toNatClampNeg (x5 + 1))))).1))) ∨ ((¬ (x_R (x_K m 114 0 0 ((ch_scr g).2.2 (Int32.toNatClampNeg (x5 + 1))))).1 = 0) ∧ 1 = r_ ∧ m_ = r_kp (x_K m 114 0 0 ((ch_scr g).2.2 (Int32.toNatClampNeg (x5 + 1)))) (x_R (x_K m 114 0 0 ((ch_scr g).2.2 (Int32.toNatClampNeg (x5 + 1))))).1 (x_R (x_K m 114 0 0 ((ch_scr g).2.2 (Int32.toNatClampNeg (x5 + 1))))).2)) (((ch_scr g).2.2 (Int32.toNatClampNeg (x5 + 1)))) m ⟨b5, b6, b7, b8, (fun c_ => (Or.inl ⟨c_, rfl, rfl⟩)), (fun c_ => (Or.inr ⟨c_, rfl, rfl⟩))⟩))
  rcases q4 with ⟨c_, rfl, hm_⟩ | ⟨c_, rfl, hm_⟩
  · replace h := h.1 c_ m3 hm_
    refine ch_istore (i := 6) d_l_law_523 (Nat.le_of_ble_eq_true rfl) (ls' := [some (.inr (11, 0, 0)), some (.inr (0, 0, 0)), some (.inr (9, 0, 0)), some (.inr (10, 0, 1)), some (.inr (10, 0, 2)), some (.inl (.int x5)), some (.inl (.int 0)), o7, o8, o9]) rfl ?_
    refine ch_aload_n (i := 2) d_l_law_525 rfl rfl ?_
    refine ch_aload_n (i := 0) d_l_law_526 rfl rfl ?_
    refine ch_iload d_l_law_527 rfl ?_
    refine ch_iconst (v := 1) d_l_law_529 (by decide) ?_
    refine ch_iadd d_l_law_530 ?_
    refine ch_sld d_l_law_531 b1 ?_
    obtain ⟨T_9, h⟩ := h
    obtain ⟨Y_10, h⟩ := h
    have b16 := h.1
    replace h := h.2
    have b17 := h.1
    replace h := h.2
    have b18 := h.1
    replace h := h.2
    refine ch_callV (as := [.inl (.int ((ch_scr g).2.2 (Int32.toNatClampNeg (x5 + 1))))]) d_l_law_532 lk_l_147 mi_m_rain me_m_rain rfl rfl rfl (ch_hR hR (Nat.le_of_ble_eq_true rfl)) (Nat.le_of_ble_eq_true rfl) (ch_rc1 (k := k) (a := 1) (b := 0) hcs (Nat.le_of_ble_eq_true rfl)) (ch_mono (ch_Ki (fun r13 m14 q15 => ?_)) (s_m_rain g (fun (r_ : Int32) (m_ : ch_M) => (∃ (B11 : ch_B), ((r_wr Y_10 ((ch_scr g).2.2 (Int32.toNatClampNeg (x5 + 1)))).1 = 0) ∧ (y_washR Y_10 ((ch_scr g).2.2 (Int32.toNatClampNeg (x5 + 1)))) = r_ ∧ (m_done (ch_ob m3 9 0) B11 (y_washB Y_10 ((ch_scr g).2.2 (Int32.toNatClampNeg (x5 + 1))))) ∧ m_ = ch_os m3 9 0 B11) ∨ (∃ (B12 : ch_B), (¬ (r_wr Y_10 ((ch_scr g).2.2 (Int32.toNatClampNeg (x5 + 1)))).1 = 0) ∧ 0 = r_ ∧ (m_rfd (ch_ob m3 9 0) B12 (r_wr Y_10 ((ch_scr g).2.2 (Int32.toNatClampNeg (x5 + 1)))).1 (r_wr Y_10 ((ch_scr g).2.2 (Int32.toNatClampNeg (x5 + 1)))).2) ∧ m_ = ch_os m3 9 0 B12)) (T_9) (Y_10) (((ch_scr g).2.2 (Int32.toNatClampNeg (x5 + 1)))) m3 ⟨b16, b17, b18, (fun c_ B11 f0_ => (Or.inl ⟨B11, c_, rfl, f0_, rfl⟩)), (fun c_ B12 f0_ => (Or.inr ⟨B12, c_, rfl, f0_, rfl⟩))⟩))
    rcases q15 with ⟨B11, c_, rfl, f0_, hm_⟩ | ⟨B12, c_, rfl, f0_, hm_⟩
    · replace h := h.1 c_ B11 f0_ m14 hm_
      refine ch_istore (i := 7) d_l_law_535 (Nat.le_of_ble_eq_true rfl) (ls' := [some (.inr (11, 0, 0)), some (.inr (0, 0, 0)), some (.inr (9, 0, 0)), some (.inr (10, 0, 1)), some (.inr (10, 0, 2)), some (.inl (.int x5)), some (.inl (.int 0)), some (.inl (.int (y_washR Y_10 ((ch_scr g).2.2 (Int32.toNatClampNeg (x5 + 1)))))), o8, o9]) rfl ?_
      refine ch_aload_n (i := 2) d_l_law_537 rfl rfl ?_
      refine ch_callV (as := []) d_l_law_538 lk_l_129 mi_m_thrown me_m_thrown rfl rfl rfl (ch_hR hR (Nat.le_of_ble_eq_true rfl)) (Nat.le_of_ble_eq_true rfl) (ch_rc1 (k := k) (a := 1) (b := 0) hcs (Nat.le_of_ble_eq_true rfl)) (ch_mono (ch_Ki (fun r19 m20 q21 => ?_)) (s_m_thrown g (fun (r_ : Int32) (m_ : ch_M) => ((m14 (9, 0, 0) 19) = r_ ∧ m14 = m_))  m14 ⟨rfl, rfl⟩))
      obtain ⟨rfl, rfl⟩ := q21
      replace h := h
      refine ch_iload d_l_law_541 rfl ?_
      refine ch_icmp_eq (tgt := 548) d_l_law_543 (by decide) (fun c => ?_) (fun c => ?_)
      · replace h := h.1 c
        refine ch_iload d_l_law_548 rfl ?_
        refine ch_if_ne (tgt := 565) d_l_law_550 (by decide) (fun c => absurd c (by decide)) (fun _ => ?_)
        refine ch_aload_n (i := 3) d_l_law_553 rfl rfl ?_
        refine ch_iconst (v := 0) d_l_law_554 (by decide) ?_
        refine ch_lald (n := 1) d_l_law_555 (by decide) rfl (vp_in_nI (n := 0) (by decide) (by decide)) ?_
        refine ch_iload d_l_law_556 rfl ?_
        refine ch_i2l d_l_law_558 ?_
        refine ch_lcmp d_l_law_559 ?_
        refine ch_if_eq (tgt := 565) d_l_law_560 (by decide) (fun c => ?_) (fun c => ?_)
        · replace h := h.1 c
          refine ch_goto (tgt := 2096) d_l_law_565 (by decide) ?_
          exact h
        · replace h := h.2 c
          refine ch_iconst (v := 0) d_l_law_563 (by decide) ?_
          exact h
      · replace h := h.2 c
        refine ch_iconst (v := 0) d_l_law_546 (by decide) ?_
        exact h
    · replace h := h.2 c_ B12 f0_ m14 hm_
      refine ch_istore (i := 7) d_l_law_535 (Nat.le_of_ble_eq_true rfl) (ls' := [some (.inr (11, 0, 0)), some (.inr (0, 0, 0)), some (.inr (9, 0, 0)), some (.inr (10, 0, 1)), some (.inr (10, 0, 2)), some (.inl (.int x5)), some (.inl (.int 0)), some (.inl (.int 0)), o8, o9]) rfl ?_
      refine ch_aload_n (i := 2) d_l_law_537 rfl rfl ?_
      refine ch_callV (as := []) d_l_law_538 lk_l_129 mi_m_thrown me_m_thrown rfl rfl rfl (ch_hR hR (Nat.le_of_ble_eq_true rfl)) (Nat.le_of_ble_eq_true rfl) (ch_rc1 (k := k) (a := 1) (b := 0) hcs (Nat.le_of_ble_eq_true rfl)) (ch_mono (ch_Ki (fun r22 m23 q24 => ?_)) (s_m_thrown g (fun (r_ : Int32) (m_ : ch_M) => ((m14 (9, 0, 0) 19) = r_ ∧ m14 = m_))  m14 ⟨rfl, rfl⟩))
      obtain ⟨rfl, rfl⟩ := q24
      replace h := h
      refine ch_iload d_l_law_541 rfl ?_
      refine ch_icmp_eq (tgt := 548) d_l_law_543 (by decide) (fun c => ?_) (fun c => ?_)
      · replace h := h.1 c
        refine ch_iload d_l_law_548 rfl ?_
        refine ch_if_ne (tgt := 565) d_l_law_550 (by decide) (fun c => absurd c (by decide)) (fun _ => ?_)
        refine ch_aload_n (i := 3) d_l_law_553 rfl rfl ?_
        refine ch_iconst (v := 0) d_l_law_554 (by decide) ?_
        refine ch_lald (n := 1) d_l_law_555 (by decide) rfl (vp_in_nI (n := 0) (by decide) (by decide)) ?_
        refine ch_iload d_l_law_556 rfl ?_
        refine ch_i2l d_l_law_558 ?_
        refine ch_lcmp d_l_law_559 ?_
        refine ch_if_eq (tgt := 565) d_l_law_560 (by decide) (fun c => ?_) (fun c => ?_)
        · replace h := h.1 c
          refine ch_goto (tgt := 2096) d_l_law_565 (by decide) ?_
          exact h
        · replace h := h.2 c
          refine ch_iconst (v := 0) d_l_law_563 (by decide) ?_
          exact h
      · replace h := h.2 c
        refine ch_iconst (v := 0) d_l_law_546 (by decide) ?_
        exact h
  · replace h := h.2 c_ m3 hm_
    refine ch_istore (i := 6) d_l_law_523 (Nat.le_of_ble_eq_true rfl) (ls' := [some (.inr (11, 0, 0)), some (.inr (0, 0, 0)), some (.inr (9, 0, 0)), some (.inr (10, 0, 1)), some (.inr (10, 0, 2)), some (.inl (.int x5)), some (.inl (.int 1)), o7, o8, o9]) rfl ?_
    refine ch_aload_n (i := 2) d_l_law_525 rfl rfl ?_
    refine ch_aload_n (i := 0) d_l_law_526 rfl rfl ?_
    refine ch_iload d_l_law_527 rfl ?_
    refine ch_iconst (v := 1) d_l_law_529 (by decide) ?_
    refine ch_iadd d_l_law_530 ?_
    refine ch_sld d_l_law_531 b1 ?_
    obtain ⟨T_25, h⟩ := h
    obtain ⟨Y_26, h⟩ := h
    have b32 := h.1
    replace h := h.2
    have b33 := h.1
    replace h := h.2
    have b34 := h.1
    replace h := h.2
    refine ch_callV (as := [.inl (.int ((ch_scr g).2.2 (Int32.toNatClampNeg (x5 + 1))))]) d_l_law_532 lk_l_147 mi_m_rain me_m_rain rfl rfl rfl (ch_hR hR (Nat.le_of_ble_eq_true rfl)) (Nat.le_of_ble_eq_true rfl) (ch_rc1 (k := k) (a := 1) (b := 0) hcs (Nat.le_of_ble_eq_true rfl)) (ch_mono (ch_Ki (fun r29 m30 q31 => ?_)) (s_m_rain g (fun (r_ : Int32) (m_ : ch_M) => (∃ (B27 : ch_B), ((r_wr Y_26 ((ch_scr g).2.2 (Int32.toNatClampNeg (x5 + 1)))).1 = 0) ∧ (y_washR Y_26 ((ch_scr g).2.2 (Int32.toNatClampNeg (x5 + 1)))) = r_ ∧ (m_done (ch_ob m3 9 0) B27 (y_washB Y_26 ((ch_scr g).2.2 (Int32.toNatClampNeg (x5 + 1))))) ∧ m_ = ch_os m3 9 0 B27) ∨ (∃ (B28 : ch_B), (¬ (r_wr Y_26 ((ch_scr g).2.2 (Int32.toNatClampNeg (x5 + 1)))).1 = 0) ∧ 0 = r_ ∧ (m_rfd (ch_ob m3 9 0) B28 (r_wr Y_26 ((ch_scr g).2.2 (Int32.toNatClampNeg (x5 + 1)))).1 (r_wr Y_26 ((ch_scr g).2.2 (Int32.toNatClampNeg (x5 + 1)))).2) ∧ m_ = ch_os m3 9 0 B28)) (T_25) (Y_26) (((ch_scr g).2.2 (Int32.toNatClampNeg (x5 + 1)))) m3 ⟨b32, b33, b34, (fun c_ B27 f0_ => (Or.inl ⟨B27, c_, rfl, f0_, rfl⟩)), (fun c_ B28 f0_ => (Or.inr ⟨B28, c_, rfl, f0_, rfl⟩))⟩))
    rcases q31 with ⟨B27, c_, rfl, f0_, hm_⟩ | ⟨B28, c_, rfl, f0_, hm_⟩
    · replace h := h.1 c_ B27 f0_ m30 hm_
      refine ch_istore (i := 7) d_l_law_535 (Nat.le_of_ble_eq_true rfl) (ls' := [some (.inr (11, 0, 0)), some (.inr (0, 0, 0)), some (.inr (9, 0, 0)), some (.inr (10, 0, 1)), some (.inr (10, 0, 2)), some (.inl (.int x5)), some (.inl (.int 1)), some (.inl (.int (y_washR Y_26 ((ch_scr g).2.2 (Int32.toNatClampNeg (x5 + 1)))))), o8, o9]) rfl ?_
      refine ch_aload_n (i := 2) d_l_law_537 rfl rfl ?_
      refine ch_callV (as := []) d_l_law_538 lk_l_129 mi_m_thrown me_m_thrown rfl rfl rfl (ch_hR hR (Nat.le_of_ble_eq_true rfl)) (Nat.le_of_ble_eq_true rfl) (ch_rc1 (k := k) (a := 1) (b := 0) hcs (Nat.le_of_ble_eq_true rfl)) (ch_mono (ch_Ki (fun r35 m36 q37 => ?_)) (s_m_thrown g (fun (r_ : Int32) (m_ : ch_M) => ((m30 (9, 0, 0) 19) = r_ ∧ m30 = m_))  m30 ⟨rfl, rfl⟩))
      obtain ⟨rfl, rfl⟩ := q37
      replace h := h
      refine ch_iload d_l_law_541 rfl ?_
      refine ch_icmp_eq (tgt := 548) d_l_law_543 (by decide) (fun c => ?_) (fun c => ?_)
      · replace h := h.1 c
        refine ch_iload d_l_law_548 rfl ?_
        refine ch_if_ne (tgt := 565) d_l_law_550 (by decide) (fun _ => ?_) (fun c => absurd c (by decide))
        refine ch_goto (tgt := 2096) d_l_law_565 (by decide) ?_
        exact h
      · replace h := h.2 c
        refine ch_iconst (v := 0) d_l_law_546 (by decide) ?_
        exact h
    · replace h := h.2 c_ B28 f0_ m30 hm_
      refine ch_istore (i := 7) d_l_law_535 (Nat.le_of_ble_eq_true rfl) (ls' := [some (.inr (11, 0, 0)), some (.inr (0, 0, 0)), some (.inr (9, 0, 0)), some (.inr (10, 0, 1)), some (.inr (10, 0, 2)), some (.inl (.int x5)), some (.inl (.int 1)), some (.inl (.int 0)), o8, o9]) rfl ?_
      refine ch_aload_n (i := 2) d_l_law_537 rfl rfl ?_
      refine ch_callV (as := []) d_l_law_538 lk_l_129 mi_m_thrown me_m_thrown rfl rfl rfl (ch_hR hR (Nat.le_of_ble_eq_true rfl)) (Nat.le_of_ble_eq_true rfl) (ch_rc1 (k := k) (a := 1) (b := 0) hcs (Nat.le_of_ble_eq_true rfl)) (ch_mono (ch_Ki (fun r38 m39 q40 => ?_)) (s_m_thrown g (fun (r_ : Int32) (m_ : ch_M) => ((m30 (9, 0, 0) 19) = r_ ∧ m30 = m_))  m30 ⟨rfl, rfl⟩))
      obtain ⟨rfl, rfl⟩ := q40
      replace h := h
      refine ch_iload d_l_law_541 rfl ?_
      refine ch_icmp_eq (tgt := 548) d_l_law_543 (by decide) (fun c => ?_) (fun c => ?_)
      · replace h := h.1 c
        refine ch_iload d_l_law_548 rfl ?_
        refine ch_if_ne (tgt := 565) d_l_law_550 (by decide) (fun _ => ?_) (fun c => absurd c (by decide))
        refine ch_goto (tgt := 2096) d_l_law_565 (by decide) ?_
        exact h
      · replace h := h.2 c
        refine ch_iconst (v := 0) d_l_law_546 (by decide) ?_
        exact h
set_option maxHeartbeats 1600000 in
theorem g_l_law_568 (g : ch_G) (R : Room) (E : ch_En) (k : Nat) (hR : ch_RR R 18) (hcs : k + 40 ≤ R.cells ∧ 6 * k + 240 ≤ R.slots) (x5 : Int32) (o6 : Option ch_V) (o7 : Option ch_V) (o8 : Option ch_V) (o9 : Option ch_V) (m : ch_M) (h : (vp_in ((x_K m 116 0 0 0) (1, 0, 0) 8) 6) ∧ (vp_in ((x_K m 116 0 0 0) (5, 0, 0) 1) 13) ∧ (vp_in ((x_K m 116 0 0 0) (2, 0, 0) 1) 8) ∧ ((x_R (x_K m 116 0 0 0)).1 = 0 → y_carP (ch_ob (x_K m 116 0 0 0) 1 0) (ch_ob (x_K m 116 0 0 0) 4 0) ((x_K m 116 0 0 0) (5, 0, 0) 1)) ∧ ((((x_R (x_K m 116 0 0 0)).1 = 0) → (∀ m2 : ch_M, m2 = (ch_wr (ch_os (p_kM (x_K m 116 0 0 0) 0) 1 0 (x_C (x_K m 116 0 0 0)).2) (10, 0, 1) 0 ((x_C (x_K m 116 0 0 0)).1)) → (∃ T_8 : Nat, (∃ Y_9 : ch_B, (m_rel Y_9 (m2 (9, 0, 1))) ∧ (y_inv T_8 Y_9) ∧ (vp_in (m2 (9, 0, 0) 4) 9) ∧ ((((r_wt Y_9).1 = 0) → (∀ (B10 : ch_B), (m_done (ch_ob m2 9 0) B10 (y_termB Y_9)) → (∀ m13 : ch_M, m13 = ch_os m2 9 0 B10 → ((((m13 (9, 0, 0) 19) = 0 → (((lg_cmp ((m13 (10, 0, 1) (0))).toInt64 ((y_termR Y_9)).toInt64) = 0 → ch_J g m_l_law R E 2096 [some (.inr (11, 0, 0)), some (.inr (0, 0, 0)), some (.inr (9, 0, 0)), some (.inr (10, 0, 1)), some (.inr (10, 0, 2)), some (.inl (.int x5)), some (.inl (.int 0)), some (.inl (.int (y_termR Y_9))), o8, o9] [] m13 (k + 1)) ∧ (¬ (lg_cmp ((m13 (10, 0, 1) (0))).toInt64 ((y_termR Y_9)).toInt64) = 0 → ch_J g m_l_law R E 608 [some (.inr (11, 0, 0)), some (.inr (0, 0, 0)), some (.inr (9, 0, 0)), some (.inr (10, 0, 1)), some (.inr (10, 0, 2)), some (.inl (.int x5)), some (.inl (.int 0)), some (.inl (.int (y_termR Y_9))), o8, o9] [.inl (.int 0)] m13 (k + 1)))) ∧ (¬ (m13 (9, 0, 0) 19) = 0 → ch_J g m_l_law R E 591 [some (.inr (11, 0, 0)), some (.inr (0, 0, 0)), some (.inr (9, 0, 0)), some (.inr (10, 0, 1)), some (.inr (10, 0, 2)), some (.inl (.int x5)), some (.inl (.int 0)), some (.inl (.int (y_termR Y_9))), o8, o9] [.inl (.int 0)] m13 (k + 1))))))) ∧ ((¬ (r_wt Y_9).1 = 0) → (∀ (B11 : ch_B), (m_rfd (ch_ob m2 9 0) B11 (r_wt Y_9).1 (r_wt Y_9).2) → (∀ m13 : ch_M, m13 = ch_os m2 9 0 B11 → ((((m13 (9, 0, 0) 19) = 0 → (((lg_cmp ((m13 (10, 0, 1) (0))).toInt64 (0).toInt64) = 0 → ch_J g m_l_law R E 2096 [some (.inr (11, 0, 0)), some (.inr (0, 0, 0)), some (.inr (9, 0, 0)), some (.inr (10, 0, 1)), some (.inr (10, 0, 2)), some (.inl (.int x5)), some (.inl (.int 0)), some (.inl (.int 0)), o8, o9] [] m13 (k + 1)) ∧ (¬ (lg_cmp ((m13 (10, 0, 1) (0))).toInt64 (0).toInt64) = 0 → ch_J g m_l_law R E 608 [some (.inr (11, 0, 0)), some (.inr (0, 0, 0)), some (.inr (9, 0, 0)), some (.inr (10, 0, 1)), some (.inr (10, 0, 2)), some (.inl (.int x5)), some (.inl (.int 0)), some (.inl (.int 0)), o8, o9] [.inl (.int 0)] m13 (k + 1)))) ∧ (¬ (m13 (9, 0, 0) 19) = 0 → ch_J g m_l_law R E 591 [some (.inr (11, 0, 0)), some (.inr (0, 0, 0)), some (.inr (9, 0, 0)), some (.inr (10, 0, 1)), some (.inr (10, 0, 2)), some (.inl (.int x5)), some (.inl (.int 0)), some (.inl (.int 0)), o8, o9] [.inl (.int 0)] m13 (k + 1)))))))))))) ∧ ((¬ (x_R (x_K m 116 0 0 0)).1 = 0) → (∀ m2 : ch_M, m2 = r_kp (x_K m 116 0 0 0) (x_R (x_K m 116 0 0 0)).1 (x_R (x_K m 116 0 0 0)).2 → (∃ T_24 : Nat, (∃ Y_25 : ch_B, (m_rel Y_25 (m2 (9, 0, 1))) ∧ (y_inv T_24 Y_25) ∧ (vp_in (m2 (9, 0, 0) 4) 9) ∧ ((((r_wt Y_25).1 = 0) → (∀ (B26 : ch_B), (m_done (ch_ob m2 9 0) B26 (y_termB Y_25)) → (∀ m29 : ch_M, m29 = ch_os m2 9 0 B26 → ((((m29 (9, 0, 0) 19) = 1 → ch_J g m_l_law R E 2096 [some (.inr (11, 0, 0)), some (.inr (0, 0, 0)), some (.inr (9, 0, 0)), some (.inr (10, 0, 1)), some (.inr (10, 0, 2)), some (.inl (.int x5)), some (.inl (.int 1)), some (.inl (.int (y_termR Y_25))), o8, o9] [] m29 (k + 1)) ∧ (¬ (m29 (9, 0, 0) 19) = 1 → ch_J g m_l_law R E 591 [some (.inr (11, 0, 0)), some (.inr (0, 0, 0)), some (.inr (9, 0, 0)), some (.inr (10, 0, 1)), some (.inr (10, 0, 2)), some (.inl (.int x5)), some (.inl (.int 1)), some (.inl (.int (y_termR Y_25))), o8, o9] [.inl (.int 0)] m29 (k + 1))))))) ∧ ((¬ (r_wt Y_25).1 = 0) → (∀ (B27 : ch_B), (m_rfd (ch_ob m2 9 0) B27 (r_wt Y_25).1 (r_wt Y_25).2) → (∀ m29 : ch_M, m29 = ch_os m2 9 0 B27 → ((((m29 (9, 0, 0) 19) = 1 → ch_J g m_l_law R E 2096 [some (.inr (11, 0, 0)), some (.inr (0, 0, 0)), some (.inr (9, 0, 0)), some (.inr (10, 0, 1)), some (.inr (10, 0, 2)), some (.inl (.int x5)), some (.inl (.int 1)), some (.inl (.int 0)), o8, o9] [] m29 (k + 1)) ∧ (¬ (m29 (9, 0, 0) 19) = 1 → ch_J g m_l_law R E 591 [some (.inr (11, 0, 0)), some (.inr (0, 0, 0)), some (.inr (9, 0, 0)), some (.inr (10, 0, 1)), some (.inr (10, 0, 2)), some (.inl (.int x5)), some (.inl (.int 1)), some (.inl (.int 0)), o8, o9] [.inl (.int 0)] m29 (k + 1)))))))))))))) : ch_J g m_l_law R E 568 [some (.inr (11, 0, 0)), some (.inr (0, 0, 0)), some (.inr (9, 0, 0)), some (.inr (10, 0, 1)), some (.inr (10, 0, 2)), some (.inl (.int x5)), o6, o7, o8, o9] [] m k := by
  refine ch_aload_n (i := 1) d_l_law_568 rfl rfl ?_
  refine ch_aload_n (i := 3) d_l_law_569 rfl rfl ?_
  have b4 := h.1
  replace h := h.2
  have b5 := h.1
  replace h := h.2
  have b6 := h.1
  replace h := h.2
  have b7 := h.1
  replace h := h.2
  refine ch_callSX (as := [.inr (0, 0, 0), .inr (10, 0, 1)]) d_l_law_570 lk_l_148 ms_l_term rfl rfl (ch_hR hR (Nat.le_of_ble_eq_true rfl)) (Nat.le_of_ble_eq_true rfl) (ch_rc0 (k := k) (b := 1) hcs (Nat.le_of_ble_eq_true rfl)) (ch_mono (ch_Ki (fun r1 m2 q3 => ?_)) (s_l_term g (fun (r_ : Int32) (m_ : ch_M) => (((x_R (x_K m 116 0 0 0)).1 = 0) ∧ 0 = r_ ∧ m_ = (ch_wr (ch_os (p_kM (x_K m 116 0 0 0) 0) 1 0 (x_C (x_K m 116 0 0 0)).2) (10, 0, 1) 0 ((x_C (x_K m 116 0 0 0)).1))) ∨ ((¬ (x_R (x_K m 116 0 0 0)).1 = 0) ∧ 1 = r_ ∧ m_ = r_kp (x_K m 116 0 0 0) (x_R (x_K m 116 0 0 0)).1 (x_R (x_K m 116 0 0 0)).2))  m ⟨b4, b5, b6, b7, (fun c_ => (Or.inl ⟨c_, rfl, rfl⟩)), (fun c_ => (Or.inr ⟨c_, rfl, rfl⟩))⟩))
  rcases q3 with ⟨c_, rfl, hm_⟩ | ⟨c_, rfl, hm_⟩
  · replace h := h.1 c_ m2 hm_
    refine ch_istore (i := 6) d_l_law_573 (Nat.le_of_ble_eq_true rfl) (ls' := [some (.inr (11, 0, 0)), some (.inr (0, 0, 0)), some (.inr (9, 0, 0)), some (.inr (10, 0, 1)), some (.inr (10, 0, 2)), some (.inl (.int x5)), some (.inl (.int 0)), o7, o8, o9]) rfl ?_
    refine ch_aload_n (i := 2) d_l_law_575 rfl rfl ?_
    obtain ⟨T_8, h⟩ := h
    obtain ⟨Y_9, h⟩ := h
    have b15 := h.1
    replace h := h.2
    have b16 := h.1
    replace h := h.2
    have b17 := h.1
    replace h := h.2
    refine ch_callV (as := []) d_l_law_576 lk_l_151 mi_m_term me_m_term rfl rfl rfl (ch_hR hR (Nat.le_of_ble_eq_true rfl)) (Nat.le_of_ble_eq_true rfl) (ch_rc1 (k := k) (a := 1) (b := 0) hcs (Nat.le_of_ble_eq_true rfl)) (ch_mono (ch_Ki (fun r12 m13 q14 => ?_)) (s_m_term g (fun (r_ : Int32) (m_ : ch_M) => (∃ (B10 : ch_B), ((r_wt Y_9).1 = 0) ∧ (y_termR Y_9) = r_ ∧ (m_done (ch_ob m2 9 0) B10 (y_termB Y_9)) ∧ m_ = ch_os m2 9 0 B10) ∨ (∃ (B11 : ch_B), (¬ (r_wt Y_9).1 = 0) ∧ 0 = r_ ∧ (m_rfd (ch_ob m2 9 0) B11 (r_wt Y_9).1 (r_wt Y_9).2) ∧ m_ = ch_os m2 9 0 B11)) (T_8) (Y_9) m2 ⟨b15, b16, b17, (fun c_ B10 f0_ => (Or.inl ⟨B10, c_, rfl, f0_, rfl⟩)), (fun c_ B11 f0_ => (Or.inr ⟨B11, c_, rfl, f0_, rfl⟩))⟩))
    rcases q14 with ⟨B10, c_, rfl, f0_, hm_⟩ | ⟨B11, c_, rfl, f0_, hm_⟩
    · replace h := h.1 c_ B10 f0_ m13 hm_
      refine ch_istore (i := 7) d_l_law_579 (Nat.le_of_ble_eq_true rfl) (ls' := [some (.inr (11, 0, 0)), some (.inr (0, 0, 0)), some (.inr (9, 0, 0)), some (.inr (10, 0, 1)), some (.inr (10, 0, 2)), some (.inl (.int x5)), some (.inl (.int 0)), some (.inl (.int (y_termR Y_9))), o8, o9]) rfl ?_
      refine ch_aload_n (i := 2) d_l_law_581 rfl rfl ?_
      refine ch_callV (as := []) d_l_law_582 lk_l_129 mi_m_thrown me_m_thrown rfl rfl rfl (ch_hR hR (Nat.le_of_ble_eq_true rfl)) (Nat.le_of_ble_eq_true rfl) (ch_rc1 (k := k) (a := 1) (b := 0) hcs (Nat.le_of_ble_eq_true rfl)) (ch_mono (ch_Ki (fun r18 m19 q20 => ?_)) (s_m_thrown g (fun (r_ : Int32) (m_ : ch_M) => ((m13 (9, 0, 0) 19) = r_ ∧ m13 = m_))  m13 ⟨rfl, rfl⟩))
      obtain ⟨rfl, rfl⟩ := q20
      replace h := h
      refine ch_iload d_l_law_585 rfl ?_
      refine ch_icmp_eq (tgt := 592) d_l_law_587 (by decide) (fun c => ?_) (fun c => ?_)
      · replace h := h.1 c
        refine ch_iload d_l_law_592 rfl ?_
        refine ch_if_ne (tgt := 609) d_l_law_594 (by decide) (fun c => absurd c (by decide)) (fun _ => ?_)
        refine ch_aload_n (i := 3) d_l_law_597 rfl rfl ?_
        refine ch_iconst (v := 0) d_l_law_598 (by decide) ?_
        refine ch_lald (n := 1) d_l_law_599 (by decide) rfl (vp_in_nI (n := 0) (by decide) (by decide)) ?_
        refine ch_iload d_l_law_600 rfl ?_
        refine ch_i2l d_l_law_602 ?_
        refine ch_lcmp d_l_law_603 ?_
        refine ch_if_eq (tgt := 609) d_l_law_604 (by decide) (fun c => ?_) (fun c => ?_)
        · replace h := h.1 c
          refine ch_goto (tgt := 2096) d_l_law_609 (by decide) ?_
          exact h
        · replace h := h.2 c
          refine ch_iconst (v := 0) d_l_law_607 (by decide) ?_
          exact h
      · replace h := h.2 c
        refine ch_iconst (v := 0) d_l_law_590 (by decide) ?_
        exact h
    · replace h := h.2 c_ B11 f0_ m13 hm_
      refine ch_istore (i := 7) d_l_law_579 (Nat.le_of_ble_eq_true rfl) (ls' := [some (.inr (11, 0, 0)), some (.inr (0, 0, 0)), some (.inr (9, 0, 0)), some (.inr (10, 0, 1)), some (.inr (10, 0, 2)), some (.inl (.int x5)), some (.inl (.int 0)), some (.inl (.int 0)), o8, o9]) rfl ?_
      refine ch_aload_n (i := 2) d_l_law_581 rfl rfl ?_
      refine ch_callV (as := []) d_l_law_582 lk_l_129 mi_m_thrown me_m_thrown rfl rfl rfl (ch_hR hR (Nat.le_of_ble_eq_true rfl)) (Nat.le_of_ble_eq_true rfl) (ch_rc1 (k := k) (a := 1) (b := 0) hcs (Nat.le_of_ble_eq_true rfl)) (ch_mono (ch_Ki (fun r21 m22 q23 => ?_)) (s_m_thrown g (fun (r_ : Int32) (m_ : ch_M) => ((m13 (9, 0, 0) 19) = r_ ∧ m13 = m_))  m13 ⟨rfl, rfl⟩))
      obtain ⟨rfl, rfl⟩ := q23
      replace h := h
      refine ch_iload d_l_law_585 rfl ?_
      refine ch_icmp_eq (tgt := 592) d_l_law_587 (by decide) (fun c => ?_) (fun c => ?_)
      · replace h := h.1 c
        refine ch_iload d_l_law_592 rfl ?_
        refine ch_if_ne (tgt := 609) d_l_law_594 (by decide) (fun c => absurd c (by decide)) (fun _ => ?_)
        refine ch_aload_n (i := 3) d_l_law_597 rfl rfl ?_
        refine ch_iconst (v := 0) d_l_law_598 (by decide) ?_
        refine ch_lald (n := 1) d_l_law_599 (by decide) rfl (vp_in_nI (n := 0) (by decide) (by decide)) ?_
        refine ch_iload d_l_law_600 rfl ?_
        refine ch_i2l d_l_law_602 ?_
        refine ch_lcmp d_l_law_603 ?_
        refine ch_if_eq (tgt := 609) d_l_law_604 (by decide) (fun c => ?_) (fun c => ?_)
        · replace h := h.1 c
          refine ch_goto (tgt := 2096) d_l_law_609 (by decide) ?_
          exact h
        · replace h := h.2 c
          refine ch_iconst (v := 0) d_l_law_607 (by decide) ?_
          exact h
      · replace h := h.2 c
        refine ch_iconst (v := 0) d_l_law_590 (by decide) ?_
        exact h
  · replace h := h.2 c_ m2 hm_
    refine ch_istore (i := 6) d_l_law_573 (Nat.le_of_ble_eq_true rfl) (ls' := [some (.inr (11, 0, 0)), some (.inr (0, 0, 0)), some (.inr (9, 0, 0)), some (.inr (10, 0, 1)), some (.inr (10, 0, 2)), some (.inl (.int x5)), some (.inl (.int 1)), o7, o8, o9]) rfl ?_
    refine ch_aload_n (i := 2) d_l_law_575 rfl rfl ?_
    obtain ⟨T_24, h⟩ := h
    obtain ⟨Y_25, h⟩ := h
    have b31 := h.1
    replace h := h.2
    have b32 := h.1
    replace h := h.2
    have b33 := h.1
    replace h := h.2
    refine ch_callV (as := []) d_l_law_576 lk_l_151 mi_m_term me_m_term rfl rfl rfl (ch_hR hR (Nat.le_of_ble_eq_true rfl)) (Nat.le_of_ble_eq_true rfl) (ch_rc1 (k := k) (a := 1) (b := 0) hcs (Nat.le_of_ble_eq_true rfl)) (ch_mono (ch_Ki (fun r28 m29 q30 => ?_)) (s_m_term g (fun (r_ : Int32) (m_ : ch_M) => (∃ (B26 : ch_B), ((r_wt Y_25).1 = 0) ∧ (y_termR Y_25) = r_ ∧ (m_done (ch_ob m2 9 0) B26 (y_termB Y_25)) ∧ m_ = ch_os m2 9 0 B26) ∨ (∃ (B27 : ch_B), (¬ (r_wt Y_25).1 = 0) ∧ 0 = r_ ∧ (m_rfd (ch_ob m2 9 0) B27 (r_wt Y_25).1 (r_wt Y_25).2) ∧ m_ = ch_os m2 9 0 B27)) (T_24) (Y_25) m2 ⟨b31, b32, b33, (fun c_ B26 f0_ => (Or.inl ⟨B26, c_, rfl, f0_, rfl⟩)), (fun c_ B27 f0_ => (Or.inr ⟨B27, c_, rfl, f0_, rfl⟩))⟩))
    rcases q30 with ⟨B26, c_, rfl, f0_, hm_⟩ | ⟨B27, c_, rfl, f0_, hm_⟩
    · replace h := h.1 c_ B26 f0_ m29 hm_
      refine ch_istore (i := 7) d_l_law_579 (Nat.le_of_ble_eq_true rfl) (ls' := [some (.inr (11, 0, 0)), some (.inr (0, 0, 0)), some (.inr (9, 0, 0)), some (.inr (10, 0, 1)), some (.inr (10, 0, 2)), some (.inl (.int x5)), some (.inl (.int 1)), some (.inl (.int (y_termR Y_25))), o8, o9]) rfl ?_
      refine ch_aload_n (i := 2) d_l_law_581 rfl rfl ?_
      refine ch_callV (as := []) d_l_law_582 lk_l_129 mi_m_thrown me_m_thrown rfl rfl rfl (ch_hR hR (Nat.le_of_ble_eq_true rfl)) (Nat.le_of_ble_eq_true rfl) (ch_rc1 (k := k) (a := 1) (b := 0) hcs (Nat.le_of_ble_eq_true rfl)) (ch_mono (ch_Ki (fun r34 m35 q36 => ?_)) (s_m_thrown g (fun (r_ : Int32) (m_ : ch_M) => ((m29 (9, 0, 0) 19) = r_ ∧ m29 = m_))  m29 ⟨rfl, rfl⟩))
      obtain ⟨rfl, rfl⟩ := q36
      replace h := h
      refine ch_iload d_l_law_585 rfl ?_
      refine ch_icmp_eq (tgt := 592) d_l_law_587 (by decide) (fun c => ?_) (fun c => ?_)
      · replace h := h.1 c
        refine ch_iload d_l_law_592 rfl ?_
        refine ch_if_ne (tgt := 609) d_l_law_594 (by decide) (fun _ => ?_) (fun c => absurd c (by decide))
        refine ch_goto (tgt := 2096) d_l_law_609 (by decide) ?_
        exact h
      · replace h := h.2 c
        refine ch_iconst (v := 0) d_l_law_590 (by decide) ?_
        exact h
    · replace h := h.2 c_ B27 f0_ m29 hm_
      refine ch_istore (i := 7) d_l_law_579 (Nat.le_of_ble_eq_true rfl) (ls' := [some (.inr (11, 0, 0)), some (.inr (0, 0, 0)), some (.inr (9, 0, 0)), some (.inr (10, 0, 1)), some (.inr (10, 0, 2)), some (.inl (.int x5)), some (.inl (.int 1)), some (.inl (.int 0)), o8, o9]) rfl ?_
      refine ch_aload_n (i := 2) d_l_law_581 rfl rfl ?_
      refine ch_callV (as := []) d_l_law_582 lk_l_129 mi_m_thrown me_m_thrown rfl rfl rfl (ch_hR hR (Nat.le_of_ble_eq_true rfl)) (Nat.le_of_ble_eq_true rfl) (ch_rc1 (k := k) (a := 1) (b := 0) hcs (Nat.le_of_ble_eq_true rfl)) (ch_mono (ch_Ki (fun r37 m38 q39 => ?_)) (s_m_thrown g (fun (r_ : Int32) (m_ : ch_M) => ((m29 (9, 0, 0) 19) = r_ ∧ m29 = m_))  m29 ⟨rfl, rfl⟩))
      obtain ⟨rfl, rfl⟩ := q39
      replace h := h
      refine ch_iload d_l_law_585 rfl ?_
      refine ch_icmp_eq (tgt := 592) d_l_law_587 (by decide) (fun c => ?_) (fun c => ?_)
      · replace h := h.1 c
        refine ch_iload d_l_law_592 rfl ?_
        refine ch_if_ne (tgt := 609) d_l_law_594 (by decide) (fun _ => ?_) (fun c => absurd c (by decide))
        refine ch_goto (tgt := 2096) d_l_law_609 (by decide) ?_
        exact h
      · replace h := h.2 c
        refine ch_iconst (v := 0) d_l_law_590 (by decide) ?_
        exact h
set_option maxHeartbeats 1600000 in
theorem g_l_law_612 (g : ch_G) (R : Room) (E : ch_En) (k : Nat) (hR : ch_RR R 18) (hcs : k + 40 ≤ R.cells ∧ 6 * k + 240 ≤ R.slots) (x5 : Int32) (o6 : Option ch_V) (o7 : Option ch_V) (o8 : Option ch_V) (o9 : Option ch_V) (m : ch_M) (h : (vp_in (x5 + 1) (ch_scr g).2.1) ∧ (vp_in (x5 + 2) (ch_scr g).2.1) ∧ (vp_in (x5 + 3) (ch_scr g).2.1) ∧ (vp_in ((x_K m 103 ((ch_scr g).2.2 (Int32.toNatClampNeg (x5 + 1))) ((ch_scr g).2.2 (Int32.toNatClampNeg (x5 + 2))) ((ch_scr g).2.2 (Int32.toNatClampNeg (x5 + 3)))) (1, 0, 0) 8) 6) ∧ (vp_in ((x_K m 103 ((ch_scr g).2.2 (Int32.toNatClampNeg (x5 + 1))) ((ch_scr g).2.2 (Int32.toNatClampNeg (x5 + 2))) ((ch_scr g).2.2 (Int32.toNatClampNeg (x5 + 3)))) (5, 0, 0) 1) 13) ∧ (vp_in ((x_K m 103 ((ch_scr g).2.2 (Int32.toNatClampNeg (x5 + 1))) ((ch_scr g).2.2 (Int32.toNatClampNeg (x5 + 2))) ((ch_scr g).2.2 (Int32.toNatClampNeg (x5 + 3)))) (2, 0, 0) 1) 8) ∧ ((x_R (x_K m 103 ((ch_scr g).2.2 (Int32.toNatClampNeg (x5 + 1))) ((ch_scr g).2.2 (Int32.toNatClampNeg (x5 + 2))) ((ch_scr g).2.2 (Int32.toNatClampNeg (x5 + 3))))).1 = 0 → y_carP (ch_ob (x_K m 103 ((ch_scr g).2.2 (Int32.toNatClampNeg (x5 + 1))) ((ch_scr g).2.2 (Int32.toNatClampNeg (x5 + 2))) ((ch_scr g).2.2 (Int32.toNatClampNeg (x5 + 3)))) 1 0) (ch_ob (x_K m 103 ((ch_scr g).2.2 (Int32.toNatClampNeg (x5 + 1))) ((ch_scr g).2.2 (Int32.toNatClampNeg (x5 + 2))) ((ch_scr g).2.2 (Int32.toNatClampNeg (x5 + 3)))) 4 0) ((x_K m 103 ((ch_scr g).2.2 (Int32.toNatClampNeg (x5 + 1))) ((ch_scr g).2.2 (Int32.toNatClampNeg (x5 + 2))) ((ch_scr g).2.2 (Int32.toNatClampNeg (x5 + 3)))) (5, 0, 0) 1)) ∧ ((((x_R (x_K m 103 ((ch_scr g).2.2 (Int32.toNatClampNeg (x5 + 1))) ((ch_scr g).2.2 (Int32.toNatClampNeg (x5 + 2))) ((ch_scr g).2.2 (Int32.toNatClampNeg (x5 + 3))))).1 = 0) → (∀ m5 : ch_M, m5 = (ch_wr (ch_os (p_kM (x_K m 103 ((ch_scr g).2.2 (Int32.toNatClampNeg (x5 + 1))) ((ch_scr g).2.2 (Int32.toNatClampNeg (x5 + 2))) ((ch_scr g).2.2 (Int32.toNatClampNeg (x5 + 3)))) 0) 1 0 (x_C (x_K m 103 ((ch_scr g).2.2 (Int32.toNatClampNeg (x5 + 1))) ((ch_scr g).2.2 (Int32.toNatClampNeg (x5 + 2))) ((ch_scr g).2.2 (Int32.toNatClampNeg (x5 + 3))))).2) (10, 0, 1) 0 ((x_C (x_K m 103 ((ch_scr g).2.2 (Int32.toNatClampNeg (x5 + 1))) ((ch_scr g).2.2 (Int32.toNatClampNeg (x5 + 2))) ((ch_scr g).2.2 (Int32.toNatClampNeg (x5 + 3))))).1)) → (∃ T_11 : Nat, (∃ Y_12 : ch_B, (m_rel Y_12 (m5 (9, 0, 1))) ∧ (y_inv T_11 Y_12) ∧ (vp_in (m5 (9, 0, 0) 4) 9) ∧ ((((r_wg Y_12 ((ch_scr g).2.2 (Int32.toNatClampNeg (x5 + 1))) ((ch_scr g).2.2 (Int32.toNatClampNeg (x5 + 2))) ((ch_scr g).2.2 (Int32.toNatClampNeg (x5 + 3)))).1 = 0) → (∀ (B13 : ch_B), (m_done (ch_ob m5 9 0) B13 (y_givB Y_12 ((ch_scr g).2.2 (Int32.toNatClampNeg (x5 + 1))) ((ch_scr g).2.2 (Int32.toNatClampNeg (x5 + 2))) ((ch_scr g).2.2 (Int32.toNatClampNeg (x5 + 3))))) → (∀ m16 : ch_M, m16 = ch_os m5 9 0 B13 → ((((m16 (9, 0, 0) 19) = 0 → (((lg_cmp ((m16 (10, 0, 1) (0))).toInt64 ((y_givB Y_12 ((ch_scr g).2.2 (Int32.toNatClampNeg (x5 + 1))) ((ch_scr g).2.2 (Int32.toNatClampNeg (x5 + 2))) ((ch_scr g).2.2 (Int32.toNatClampNeg (x5 + 3))) 3 (Int32.toNatClampNeg ((ch_scr g).2.2 (Int32.toNatClampNeg (x5 + 1)))))).toInt64) = 0 → ch_J g m_l_law R E 2096 [some (.inr (11, 0, 0)), some (.inr (0, 0, 0)), some (.inr (9, 0, 0)), some (.inr (10, 0, 1)), some (.inr (10, 0, 2)), some (.inl (.int x5)), some (.inl (.int 0)), some (.inl (.int (y_givB Y_12 ((ch_scr g).2.2 (Int32.toNatClampNeg (x5 + 1))) ((ch_scr g).2.2 (Int32.toNatClampNeg (x5 + 2))) ((ch_scr g).2.2 (Int32.toNatClampNeg (x5 + 3))) 3 (Int32.toNatClampNeg ((ch_scr g).2.2 (Int32.toNatClampNeg (x5 + 1))))))), o8, o9] [] m16 (k + 1)) ∧ (¬ (lg_cmp ((m16 (10, 0, 1) (0))).toInt64 ((y_givB Y_12 ((ch_scr g).2.2 (Int32.toNatClampNeg (x5 + 1))) ((ch_scr g).2.2 (Int32.toNatClampNeg (x5 + 2))) ((ch_scr g).2.2 (Int32.toNatClampNeg (x5 + 3))) 3 (Int32.toNatClampNeg ((ch_scr g).2.2 (Int32.toNatClampNeg (x5 + 1)))))).toInt64) = 0 → ch_J g m_l_law R E 688 [some (.inr (11, 0, 0)), some (.inr (0, 0, 0)), some (.inr (9, 0, 0)), some (.inr (10, 0, 1)), some (.inr (10, 0, 2)), some (.inl (.int x5)), some (.inl (.int 0)), some (.inl (.int (y_givB Y_12 ((ch_scr g).2.2 (Int32.toNatClampNeg (x5 + 1))) ((ch_scr g).2.2 (Int32.toNatClampNeg (x5 + 2))) ((ch_scr g).2.2 (Int32.toNatClampNeg (x5 + 3))) 3 (Int32.toNatClampNeg ((ch_scr g).2.2 (Int32.toNatClampNeg (x5 + 1))))))), o8, o9] [.inl (.int 0)] m16 (k + 1)))) ∧ (¬ (m16 (9, 0, 0) 19) = 0 → ch_J g m_l_law R E 671 [some (.inr (11, 0, 0)), some (.inr (0, 0, 0)), some (.inr (9, 0, 0)), some (.inr (10, 0, 1)), some (.inr (10, 0, 2)), some (.inl (.int x5)), some (.inl (.int 0)), some (.inl (.int (y_givB Y_12 ((ch_scr g).2.2 (Int32.toNatClampNeg (x5 + 1))) ((ch_scr g).2.2 (Int32.toNatClampNeg (x5 + 2))) ((ch_scr g).2.2 (Int32.toNatClampNeg (x5 + 3))) 3 (Int32.toNatClampNeg ((ch_scr g).2.2 (Int32.toNatClampNeg (x5 + 1))))))), o8, o9] [.inl (.int 0)] m16 (k + 1))))))) ∧ ((¬ (r_wg Y_12 ((ch_scr g).2.2 (Int32.toNatClampNeg (x5 + 1))) ((ch_scr g).2.2 (Int32.toNatClampNeg (x5 + 2))) ((ch_scr g).2.2 (Int32.toNatClampNeg (x5 + 3)))).1 = 0) → (∀ (B14 : ch_B), (m_rfd (ch_ob m5 9 0) B14 (r_wg Y_12 ((ch_scr g).2.2 (Int32.toNatClampNeg (x5 + 1))) ((ch_scr g).2.2 (Int32.toNatClampNeg (x5 + 2))) ((ch_scr g).2.2 (Int32.toNatClampNeg (x5 + 3)))).1 (r_wg Y_12 ((ch_scr g).2.2 (Int32.toNatClampNeg (x5 + 1))) ((ch_scr g).2.2 (Int32.toNatClampNeg (x5 + 2))) ((ch_scr g).2.2 (Int32.toNatClampNeg (x5 + 3)))).2) → (∀ m16 : ch_M, m16 = ch_os m5 9 0 B14 → ((((m16 (9, 0, 0) 19) = 0 → (((lg_cmp ((m16 (10, 0, 1) (0))).toInt64 (0).toInt64) = 0 → ch_J g m_l_law R E 2096 [some (.inr (11, 0, 0)), some (.inr (0, 0, 0)), some (.inr (9, 0, 0)), some (.inr (10, 0, 1)), some (.inr (10, 0, 2)), some (.inl (.int x5)), some (.inl (.int 0)), some (.inl (.int 0)), o8, o9] [] m16 (k + 1)) ∧ (¬ (lg_cmp ((m16 (10, 0, 1) (0))).toInt64 (0).toInt64) = 0 → ch_J g m_l_law R E 688 [some (.inr (11, 0, 0)), some (.inr (0, 0, 0)), some (.inr (9, 0, 0)), some (.inr (10, 0, 1)), some (.inr (10, 0, 2)), some (.inl (.int x5)), some (.inl (.int 0)), some (.inl (.int 0)), o8, o9] [.inl (.int 0)] m16 (k + 1)))) ∧ (¬ (m16 (9, 0, 0) 19) = 0 → ch_J g m_l_law R E 671 [some (.inr (11, 0, 0)), some (.inr (0, 0, 0)), some (.inr (9, 0, 0)), some (.inr (10, 0, 1)), some (.inr (10, 0, 2)), some (.inl (.int x5)), some (.inl (.int 0)), some (.inl (.int 0)), o8, o9] [.inl (.int 0)] m16 (k + 1)))))))))))) ∧ ((¬ (x_R (x_K m 103 ((ch_scr g).2.2 (Int32.toNatClampNeg (x5 + 1))) ((ch_scr g).2.2 (Int32.toNatClampNeg (x5 + 2))) ((ch_scr g).2.2 (Int32.toNatClampNeg (x5 + 3))))).1 = 0) → (∀ m5 : ch_M, m5 = r_kp (x_K m 103 ((ch_scr g).2.2 (Int32.toNatClampNeg (x5 + 1))) ((ch_scr g).2.2 (Int32.toNatClampNeg (x5 + 2))) ((ch_scr g).2.2 (Int32.toNatClampNeg (x5 + 3)))) (x_R (x_K m 103 ((ch_scr g).2.2 (Int32.toNatClampNeg (x5 + 1))) ((ch_scr g).2.2 (Int32.toNatClampNeg (x5 + 2))) ((ch_scr g).2.2 (Int32.toNatClampNeg (x5 + 3))))).1 (x_R (x_K m 103 ((ch_scr g).2.2 (Int32.toNatClampNeg (x5 + 1))) ((ch_scr g).2.2 (Int32.toNatClampNeg (x5 + 2))) ((ch_scr g).2.2 (Int32.toNatClampNeg (x5 + 3))))).2 → (∃ T_27 : Nat, (∃ Y_28 : ch_B, (m_rel Y_28 (m5 (9, 0, 1))) ∧ (y_inv T_27 Y_28) ∧ (vp_in (m5 (9, 0, 0) 4) 9) ∧ ((((r_wg Y_28 ((ch_scr g).2.2 (Int32.toNatClampNeg (x5 + 1))) ((ch_scr g).2.2 (Int32.toNatClampNeg (x5 + 2))) ((ch_scr g).2.2 (Int32.toNatClampNeg (x5 + 3)))).1 = 0) → (∀ (B29 : ch_B), (m_done (ch_ob m5 9 0) B29 (y_givB Y_28 ((ch_scr g).2.2 (Int32.toNatClampNeg (x5 + 1))) ((ch_scr g).2.2 (Int32.toNatClampNeg (x5 + 2))) ((ch_scr g).2.2 (Int32.toNatClampNeg (x5 + 3))))) → (∀ m32 : ch_M, m32 = ch_os m5 9 0 B29 → ((((m32 (9, 0, 0) 19) = 1 → ch_J g m_l_law R E 2096 [some (.inr (11, 0, 0)), some (.inr (0, 0, 0)), some (.inr (9, 0, 0)), some (.inr (10, 0, 1)), some (.inr (10, 0, 2)), some (.inl (.int x5)), some (.inl (.int 1)), some (.inl (.int (y_givB Y_28 ((ch_scr g).2.2 (Int32.toNatClampNeg (x5 + 1))) ((ch_scr g).2.2 (Int32.toNatClampNeg (x5 + 2))) ((ch_scr g).2.2 (Int32.toNatClampNeg (x5 + 3))) 3 (Int32.toNatClampNeg ((ch_scr g).2.2 (Int32.toNatClampNeg (x5 + 1))))))), o8, o9] [] m32 (k + 1)) ∧ (¬ (m32 (9, 0, 0) 19) = 1 → ch_J g m_l_law R E 671 [some (.inr (11, 0, 0)), some (.inr (0, 0, 0)), some (.inr (9, 0, 0)), some (.inr (10, 0, 1)), some (.inr (10, 0, 2)), some (.inl (.int x5)), some (.inl (.int 1)), some (.inl (.int (y_givB Y_28 ((ch_scr g).2.2 (Int32.toNatClampNeg (x5 + 1))) ((ch_scr g).2.2 (Int32.toNatClampNeg (x5 + 2))) ((ch_scr g).2.2 (Int32.toNatClampNeg (x5 + 3))) 3 (Int32.toNatClampNeg ((ch_scr g).2.2 (Int32.toNatClampNeg (x5 + 1))))))), o8, o9] [.inl (.int 0)] m32 (k + 1))))))) ∧ ((¬ (r_wg Y_28 ((ch_scr g).2.2 (Int32.toNatClampNeg (x5 + 1))) ((ch_scr g).2.2 (Int32.toNatClampNeg (x5 + 2))) ((ch_scr g).2.2 (Int32.toNatClampNeg (x5 + 3)))).1 = 0) → (∀ (B30 : ch_B), (m_rfd (ch_ob m5 9 0) B30 (r_wg Y_28 ((ch_scr g).2.2 (Int32.toNatClampNeg (x5 + 1))) ((ch_scr g).2.2 (Int32.toNatClampNeg (x5 + 2))) ((ch_scr g).2.2 (Int32.toNatClampNeg (x5 + 3)))).1 (r_wg Y_28 ((ch_scr g).2.2 (Int32.toNatClampNeg (x5 + 1))) ((ch_scr g).2.2 (Int32.toNatClampNeg (x5 + 2))) ((ch_scr g).2.2 (Int32.toNatClampNeg (x5 + 3)))).2) → (∀ m32 : ch_M, m32 = ch_os m5 9 0 B30 → ((((m32 (9, 0, 0) 19) = 1 → ch_J g m_l_law R E 2096 [some (.inr (11, 0, 0)), some (.inr (0, 0, 0)), some (.inr (9, 0, 0)), some (.inr (10, 0, 1)), some (.inr (10, 0, 2)), some (.inl (.int x5)), some (.inl (.int 1)), some (.inl (.int 0)), o8, o9] [] m32 (k + 1)) ∧ (¬ (m32 (9, 0, 0) 19) = 1 → ch_J g m_l_law R E 671 [some (.inr (11, 0, 0)), some (.inr (0, 0, 0)), some (.inr (9, 0, 0)), some (.inr (10, 0, 1)), some (.inr (10, 0, 2)), some (.inl (.int x5)), some (.inl (.int 1)), some (.inl (.int 0)), o8, o9] [.inl (.int 0)] m32 (k + 1)))))))))))))) : ch_J g m_l_law R E 612 [some (.inr (11, 0, 0)), some (.inr (0, 0, 0)), some (.inr (9, 0, 0)), some (.inr (10, 0, 1)), some (.inr (10, 0, 2)), some (.inl (.int x5)), o6, o7, o8, o9] [] m k := by
  refine ch_aload_n (i := 1) d_l_law_612 rfl rfl ?_
  refine ch_aload_n (i := 0) d_l_law_613 rfl rfl ?_
  refine ch_iload d_l_law_614 rfl ?_
  refine ch_iconst (v := 1) d_l_law_616 (by decide) ?_
  refine ch_iadd d_l_law_617 ?_
  have b1 := h.1
  replace h := h.2
  refine ch_sld d_l_law_618 b1 ?_
  refine ch_aload_n (i := 0) d_l_law_619 rfl rfl ?_
  refine ch_iload d_l_law_620 rfl ?_
  refine ch_iconst (v := 2) d_l_law_622 (by decide) ?_
  refine ch_iadd d_l_law_623 ?_
  have b2 := h.1
  replace h := h.2
  refine ch_sld d_l_law_624 b2 ?_
  refine ch_aload_n (i := 0) d_l_law_625 rfl rfl ?_
  refine ch_iload d_l_law_626 rfl ?_
  refine ch_iconst (v := 3) d_l_law_628 (by decide) ?_
  refine ch_iadd d_l_law_629 ?_
  have b3 := h.1
  replace h := h.2
  refine ch_sld d_l_law_630 b3 ?_
  refine ch_aload_n (i := 3) d_l_law_631 rfl rfl ?_
  have b7 := h.1
  replace h := h.2
  have b8 := h.1
  replace h := h.2
  have b9 := h.1
  replace h := h.2
  have b10 := h.1
  replace h := h.2
  refine ch_callSX (as := [.inr (0, 0, 0), .inl (.int ((ch_scr g).2.2 (Int32.toNatClampNeg (x5 + 1)))), .inl (.int ((ch_scr g).2.2 (Int32.toNatClampNeg (x5 + 2)))), .inl (.int ((ch_scr g).2.2 (Int32.toNatClampNeg (x5 + 3)))), .inr (10, 0, 1)]) d_l_law_632 lk_l_152 ms_l_give rfl rfl (ch_hR hR (Nat.le_of_ble_eq_true rfl)) (Nat.le_of_ble_eq_true rfl) (ch_rc0 (k := k) (b := 1) hcs (Nat.le_of_ble_eq_true rfl)) (ch_mono (ch_Ki (fun r4 m5 q6 => ?_)) (s_l_give g (fun (r_ : Int32) (m_ : ch_M) => (((x_R (x_K m 103 ((ch_scr g).2.2 (Int32.toNatClampNeg (x5 + 1))) ((ch_scr g).2.2 (Int32.toNatClampNeg (x5 + 2))) ((ch_scr g).2.2 (Int32.toNatClampNeg (x5 + 3))))).1 = 0) ∧ 0 = r_ ∧ m_ = (ch_wr (ch_os (p_kM (x_K m 103 ((ch_scr g).2.2 (Int32.toNatClampNeg (x5 + 1))) ((ch_scr g).2.2 (Int32.toNatClampNeg (x5 + 2))) ((ch_scr g).2.2 (Int32.toNatClampNeg (x5 + 3)))) 0) 1 0 (x_C (x_K m 103 ((ch_scr g).2.2 (Int32.toNatClampNeg (x5 + 1))) ((ch_scr g).2.2 (Int32.toNatClampNeg (x5 + 2))) ((ch_scr g).2.2 (Int32.toNatClampNeg (x5 + 3))))).2) (10, 0, 1) 0 ((x_C (x_K m 103 ((ch_scr g).2.2 (Int32.toNatClampNeg (x5 + 1))) ((ch_scr g).2.2 (Int32.toNatClampNeg (x5 + 2))) ((ch_scr g).2.2 (Int32.toNatClampNeg (x5 + 3))))).1))) ∨ ((¬ (x_R (x_K m 103 ((ch_scr g).2.2 (Int32.toNatClampNeg (x5 + 1))) ((ch_scr g).2.2 (Int32.toNatClampNeg (x5 + 2))) ((ch_scr g).2.2 (Int32.toNatClampNeg (x5 + 3))))).1 = 0) ∧ 1 = r_ ∧ m_ = r_kp (x_K m 103 ((ch_scr g).2.2 (Int32.toNatClampNeg (x5 + 1))) ((ch_scr g).2.2 (Int32.toNatClampNeg (x5 + 2))) ((ch_scr g).2.2 (Int32.toNatClampNeg (x5 + 3)))) (x_R (x_K m 103 ((ch_scr g).2.2 (Int32.toNatClampNeg (x5 + 1))) ((ch_scr g).2.2 (Int32.toNatClampNeg (x5 + 2))) ((ch_scr g).2.2 (Int32.toNatClampNeg (x5 + 3))))).1 (x_R (x_K m 103 ((ch_scr g).2.2 (Int32.toNatClampNeg (x5 + 1))) ((ch_scr g).2.2 (Int32.toNatClampNeg (x5 + 2))) ((ch_scr g).2.2 (Int32.toNatClampNeg (x5 + 3))))).2)) (((ch_scr g).2.2 (Int32.toNatClampNeg (x5 + 1)))) (((ch_scr g).2.2 (Int32.toNatClampNeg (x5 + 2)))) (((ch_scr g).2.2 (Int32.toNatClampNeg (x5 + 3)))) m ⟨b7, b8, b9, b10, (fun c_ => (Or.inl ⟨c_, rfl, rfl⟩)), (fun c_ => (Or.inr ⟨c_, rfl, rfl⟩))⟩))
  rcases q6 with ⟨c_, rfl, hm_⟩ | ⟨c_, rfl, hm_⟩
  · replace h := h.1 c_ m5 hm_
    refine ch_istore (i := 6) d_l_law_635 (Nat.le_of_ble_eq_true rfl) (ls' := [some (.inr (11, 0, 0)), some (.inr (0, 0, 0)), some (.inr (9, 0, 0)), some (.inr (10, 0, 1)), some (.inr (10, 0, 2)), some (.inl (.int x5)), some (.inl (.int 0)), o7, o8, o9]) rfl ?_
    refine ch_aload_n (i := 2) d_l_law_637 rfl rfl ?_
    refine ch_aload_n (i := 0) d_l_law_638 rfl rfl ?_
    refine ch_iload d_l_law_639 rfl ?_
    refine ch_iconst (v := 1) d_l_law_641 (by decide) ?_
    refine ch_iadd d_l_law_642 ?_
    refine ch_sld d_l_law_643 b1 ?_
    refine ch_aload_n (i := 0) d_l_law_644 rfl rfl ?_
    refine ch_iload d_l_law_645 rfl ?_
    refine ch_iconst (v := 2) d_l_law_647 (by decide) ?_
    refine ch_iadd d_l_law_648 ?_
    refine ch_sld d_l_law_649 b2 ?_
    refine ch_aload_n (i := 0) d_l_law_650 rfl rfl ?_
    refine ch_iload d_l_law_651 rfl ?_
    refine ch_iconst (v := 3) d_l_law_653 (by decide) ?_
    refine ch_iadd d_l_law_654 ?_
    refine ch_sld d_l_law_655 b3 ?_
    obtain ⟨T_11, h⟩ := h
    obtain ⟨Y_12, h⟩ := h
    have b18 := h.1
    replace h := h.2
    have b19 := h.1
    replace h := h.2
    have b20 := h.1
    replace h := h.2
    refine ch_callV (as := [.inl (.int ((ch_scr g).2.2 (Int32.toNatClampNeg (x5 + 1)))), .inl (.int ((ch_scr g).2.2 (Int32.toNatClampNeg (x5 + 2)))), .inl (.int ((ch_scr g).2.2 (Int32.toNatClampNeg (x5 + 3))))]) d_l_law_656 lk_l_155 mi_m_give me_m_give rfl rfl rfl (ch_hR hR (Nat.le_of_ble_eq_true rfl)) (Nat.le_of_ble_eq_true rfl) (ch_rc1 (k := k) (a := 1) (b := 0) hcs (Nat.le_of_ble_eq_true rfl)) (ch_mono (ch_Ki (fun r15 m16 q17 => ?_)) (s_m_give g (fun (r_ : Int32) (m_ : ch_M) => (∃ (B13 : ch_B), ((r_wg Y_12 ((ch_scr g).2.2 (Int32.toNatClampNeg (x5 + 1))) ((ch_scr g).2.2 (Int32.toNatClampNeg (x5 + 2))) ((ch_scr g).2.2 (Int32.toNatClampNeg (x5 + 3)))).1 = 0) ∧ (y_givB Y_12 ((ch_scr g).2.2 (Int32.toNatClampNeg (x5 + 1))) ((ch_scr g).2.2 (Int32.toNatClampNeg (x5 + 2))) ((ch_scr g).2.2 (Int32.toNatClampNeg (x5 + 3))) 3 (Int32.toNatClampNeg ((ch_scr g).2.2 (Int32.toNatClampNeg (x5 + 1))))) = r_ ∧ (m_done (ch_ob m5 9 0) B13 (y_givB Y_12 ((ch_scr g).2.2 (Int32.toNatClampNeg (x5 + 1))) ((ch_scr g).2.2 (Int32.toNatClampNeg (x5 + 2))) ((ch_scr g).2.2 (Int32.toNatClampNeg (x5 + 3))))) ∧ m_ = ch_os m5 9 0 B13) ∨ (∃ (B14 : ch_B), (¬ (r_wg Y_12 ((ch_scr g).2.2 (Int32.toNatClampNeg (x5 + 1))) ((ch_scr g).2.2 (Int32.toNatClampNeg (x5 + 2))) ((ch_scr g).2.2 (Int32.toNatClampNeg (x5 + 3)))).1 = 0) ∧ 0 = r_ ∧ (m_rfd (ch_ob m5 9 0) B14 (r_wg Y_12 ((ch_scr g).2.2 (Int32.toNatClampNeg (x5 + 1))) ((ch_scr g).2.2 (Int32.toNatClampNeg (x5 + 2))) ((ch_scr g).2.2 (Int32.toNatClampNeg (x5 + 3)))).1 (r_wg Y_12 ((ch_scr g).2.2 (Int32.toNatClampNeg (x5 + 1))) ((ch_scr g).2.2 (Int32.toNatClampNeg (x5 + 2))) ((ch_scr g).2.2 (Int32.toNatClampNeg (x5 + 3)))).2) ∧ m_ = ch_os m5 9 0 B14)) (T_11) (Y_12) (((ch_scr g).2.2 (Int32.toNatClampNeg (x5 + 1)))) (((ch_scr g).2.2 (Int32.toNatClampNeg (x5 + 2)))) (((ch_scr g).2.2 (Int32.toNatClampNeg (x5 + 3)))) m5 ⟨b18, b19, b20, (fun c_ B13 f0_ => (Or.inl ⟨B13, c_, rfl, f0_, rfl⟩)), (fun c_ B14 f0_ => (Or.inr ⟨B14, c_, rfl, f0_, rfl⟩))⟩))
    rcases q17 with ⟨B13, c_, rfl, f0_, hm_⟩ | ⟨B14, c_, rfl, f0_, hm_⟩
    · replace h := h.1 c_ B13 f0_ m16 hm_
      refine ch_istore (i := 7) d_l_law_659 (Nat.le_of_ble_eq_true rfl) (ls' := [some (.inr (11, 0, 0)), some (.inr (0, 0, 0)), some (.inr (9, 0, 0)), some (.inr (10, 0, 1)), some (.inr (10, 0, 2)), some (.inl (.int x5)), some (.inl (.int 0)), some (.inl (.int (y_givB Y_12 ((ch_scr g).2.2 (Int32.toNatClampNeg (x5 + 1))) ((ch_scr g).2.2 (Int32.toNatClampNeg (x5 + 2))) ((ch_scr g).2.2 (Int32.toNatClampNeg (x5 + 3))) 3 (Int32.toNatClampNeg ((ch_scr g).2.2 (Int32.toNatClampNeg (x5 + 1))))))), o8, o9]) rfl ?_
      refine ch_aload_n (i := 2) d_l_law_661 rfl rfl ?_
      refine ch_callV (as := []) d_l_law_662 lk_l_129 mi_m_thrown me_m_thrown rfl rfl rfl (ch_hR hR (Nat.le_of_ble_eq_true rfl)) (Nat.le_of_ble_eq_true rfl) (ch_rc1 (k := k) (a := 1) (b := 0) hcs (Nat.le_of_ble_eq_true rfl)) (ch_mono (ch_Ki (fun r21 m22 q23 => ?_)) (s_m_thrown g (fun (r_ : Int32) (m_ : ch_M) => ((m16 (9, 0, 0) 19) = r_ ∧ m16 = m_))  m16 ⟨rfl, rfl⟩))
      obtain ⟨rfl, rfl⟩ := q23
      replace h := h
      refine ch_iload d_l_law_665 rfl ?_
      refine ch_icmp_eq (tgt := 672) d_l_law_667 (by decide) (fun c => ?_) (fun c => ?_)
      · replace h := h.1 c
        refine ch_iload d_l_law_672 rfl ?_
        refine ch_if_ne (tgt := 689) d_l_law_674 (by decide) (fun c => absurd c (by decide)) (fun _ => ?_)
        refine ch_aload_n (i := 3) d_l_law_677 rfl rfl ?_
        refine ch_iconst (v := 0) d_l_law_678 (by decide) ?_
        refine ch_lald (n := 1) d_l_law_679 (by decide) rfl (vp_in_nI (n := 0) (by decide) (by decide)) ?_
        refine ch_iload d_l_law_680 rfl ?_
        refine ch_i2l d_l_law_682 ?_
        refine ch_lcmp d_l_law_683 ?_
        refine ch_if_eq (tgt := 689) d_l_law_684 (by decide) (fun c => ?_) (fun c => ?_)
        · replace h := h.1 c
          refine ch_goto (tgt := 2096) d_l_law_689 (by decide) ?_
          exact h
        · replace h := h.2 c
          refine ch_iconst (v := 0) d_l_law_687 (by decide) ?_
          exact h
      · replace h := h.2 c
        refine ch_iconst (v := 0) d_l_law_670 (by decide) ?_
        exact h
    · replace h := h.2 c_ B14 f0_ m16 hm_
      refine ch_istore (i := 7) d_l_law_659 (Nat.le_of_ble_eq_true rfl) (ls' := [some (.inr (11, 0, 0)), some (.inr (0, 0, 0)), some (.inr (9, 0, 0)), some (.inr (10, 0, 1)), some (.inr (10, 0, 2)), some (.inl (.int x5)), some (.inl (.int 0)), some (.inl (.int 0)), o8, o9]) rfl ?_
      refine ch_aload_n (i := 2) d_l_law_661 rfl rfl ?_
      refine ch_callV (as := []) d_l_law_662 lk_l_129 mi_m_thrown me_m_thrown rfl rfl rfl (ch_hR hR (Nat.le_of_ble_eq_true rfl)) (Nat.le_of_ble_eq_true rfl) (ch_rc1 (k := k) (a := 1) (b := 0) hcs (Nat.le_of_ble_eq_true rfl)) (ch_mono (ch_Ki (fun r24 m25 q26 => ?_)) (s_m_thrown g (fun (r_ : Int32) (m_ : ch_M) => ((m16 (9, 0, 0) 19) = r_ ∧ m16 = m_))  m16 ⟨rfl, rfl⟩))
      obtain ⟨rfl, rfl⟩ := q26
      replace h := h
      refine ch_iload d_l_law_665 rfl ?_
      refine ch_icmp_eq (tgt := 672) d_l_law_667 (by decide) (fun c => ?_) (fun c => ?_)
      · replace h := h.1 c
        refine ch_iload d_l_law_672 rfl ?_
        refine ch_if_ne (tgt := 689) d_l_law_674 (by decide) (fun c => absurd c (by decide)) (fun _ => ?_)
        refine ch_aload_n (i := 3) d_l_law_677 rfl rfl ?_
        refine ch_iconst (v := 0) d_l_law_678 (by decide) ?_
        refine ch_lald (n := 1) d_l_law_679 (by decide) rfl (vp_in_nI (n := 0) (by decide) (by decide)) ?_
        refine ch_iload d_l_law_680 rfl ?_
        refine ch_i2l d_l_law_682 ?_
        refine ch_lcmp d_l_law_683 ?_
        refine ch_if_eq (tgt := 689) d_l_law_684 (by decide) (fun c => ?_) (fun c => ?_)
        · replace h := h.1 c
          refine ch_goto (tgt := 2096) d_l_law_689 (by decide) ?_
          exact h
        · replace h := h.2 c
          refine ch_iconst (v := 0) d_l_law_687 (by decide) ?_
          exact h
      · replace h := h.2 c
        refine ch_iconst (v := 0) d_l_law_670 (by decide) ?_
        exact h
  · replace h := h.2 c_ m5 hm_
    refine ch_istore (i := 6) d_l_law_635 (Nat.le_of_ble_eq_true rfl) (ls' := [some (.inr (11, 0, 0)), some (.inr (0, 0, 0)), some (.inr (9, 0, 0)), some (.inr (10, 0, 1)), some (.inr (10, 0, 2)), some (.inl (.int x5)), some (.inl (.int 1)), o7, o8, o9]) rfl ?_
    refine ch_aload_n (i := 2) d_l_law_637 rfl rfl ?_
    refine ch_aload_n (i := 0) d_l_law_638 rfl rfl ?_
    refine ch_iload d_l_law_639 rfl ?_
    refine ch_iconst (v := 1) d_l_law_641 (by decide) ?_
    refine ch_iadd d_l_law_642 ?_
    refine ch_sld d_l_law_643 b1 ?_
    refine ch_aload_n (i := 0) d_l_law_644 rfl rfl ?_
    refine ch_iload d_l_law_645 rfl ?_
    refine ch_iconst (v := 2) d_l_law_647 (by decide) ?_
    refine ch_iadd d_l_law_648 ?_
    refine ch_sld d_l_law_649 b2 ?_
    refine ch_aload_n (i := 0) d_l_law_650 rfl rfl ?_
    refine ch_iload d_l_law_651 rfl ?_
    refine ch_iconst (v := 3) d_l_law_653 (by decide) ?_
    refine ch_iadd d_l_law_654 ?_
    refine ch_sld d_l_law_655 b3 ?_
    obtain ⟨T_27, h⟩ := h
    obtain ⟨Y_28, h⟩ := h
    have b34 := h.1
    replace h := h.2
    have b35 := h.1
    replace h := h.2
    have b36 := h.1
    replace h := h.2
    refine ch_callV (as := [.inl (.int ((ch_scr g).2.2 (Int32.toNatClampNeg (x5 + 1)))), .inl (.int ((ch_scr g).2.2 (Int32.toNatClampNeg (x5 + 2)))), .inl (.int ((ch_scr g).2.2 (Int32.toNatClampNeg (x5 + 3))))]) d_l_law_656 lk_l_155 mi_m_give me_m_give rfl rfl rfl (ch_hR hR (Nat.le_of_ble_eq_true rfl)) (Nat.le_of_ble_eq_true rfl) (ch_rc1 (k := k) (a := 1) (b := 0) hcs (Nat.le_of_ble_eq_true rfl)) (ch_mono (ch_Ki (fun r31 m32 q33 => ?_)) (s_m_give g (fun (r_ : Int32) (m_ : ch_M) => (∃ (B29 : ch_B), ((r_wg Y_28 ((ch_scr g).2.2 (Int32.toNatClampNeg (x5 + 1))) ((ch_scr g).2.2 (Int32.toNatClampNeg (x5 + 2))) ((ch_scr g).2.2 (Int32.toNatClampNeg (x5 + 3)))).1 = 0) ∧ (y_givB Y_28 ((ch_scr g).2.2 (Int32.toNatClampNeg (x5 + 1))) ((ch_scr g).2.2 (Int32.toNatClampNeg (x5 + 2))) ((ch_scr g).2.2 (Int32.toNatClampNeg (x5 + 3))) 3 (Int32.toNatClampNeg ((ch_scr g).2.2 (Int32.toNatClampNeg (x5 + 1))))) = r_ ∧ (m_done (ch_ob m5 9 0) B29 (y_givB Y_28 ((ch_scr g).2.2 (Int32.toNatClampNeg (x5 + 1))) ((ch_scr g).2.2 (Int32.toNatClampNeg (x5 + 2))) ((ch_scr g).2.2 (Int32.toNatClampNeg (x5 + 3))))) ∧ m_ = ch_os m5 9 0 B29) ∨ (∃ (B30 : ch_B), (¬ (r_wg Y_28 ((ch_scr g).2.2 (Int32.toNatClampNeg (x5 + 1))) ((ch_scr g).2.2 (Int32.toNatClampNeg (x5 + 2))) ((ch_scr g).2.2 (Int32.toNatClampNeg (x5 + 3)))).1 = 0) ∧ 0 = r_ ∧ (m_rfd (ch_ob m5 9 0) B30 (r_wg Y_28 ((ch_scr g).2.2 (Int32.toNatClampNeg (x5 + 1))) ((ch_scr g).2.2 (Int32.toNatClampNeg (x5 + 2))) ((ch_scr g).2.2 (Int32.toNatClampNeg (x5 + 3)))).1 (r_wg Y_28 ((ch_scr g).2.2 (Int32.toNatClampNeg (x5 + 1))) ((ch_scr g).2.2 (Int32.toNatClampNeg (x5 + 2))) ((ch_scr g).2.2 (Int32.toNatClampNeg (x5 + 3)))).2) ∧ m_ = ch_os m5 9 0 B30)) (T_27) (Y_28) (((ch_scr g).2.2 (Int32.toNatClampNeg (x5 + 1)))) (((ch_scr g).2.2 (Int32.toNatClampNeg (x5 + 2)))) (((ch_scr g).2.2 (Int32.toNatClampNeg (x5 + 3)))) m5 ⟨b34, b35, b36, (fun c_ B29 f0_ => (Or.inl ⟨B29, c_, rfl, f0_, rfl⟩)), (fun c_ B30 f0_ => (Or.inr ⟨B30, c_, rfl, f0_, rfl⟩))⟩))
    rcases q33 with ⟨B29, c_, rfl, f0_, hm_⟩ | ⟨B30, c_, rfl, f0_, hm_⟩
    · replace h := h.1 c_ B29 f0_ m32 hm_
      refine ch_istore (i := 7) d_l_law_659 (Nat.le_of_ble_eq_true rfl) (ls' := [some (.inr (11, 0, 0)), some (.inr (0, 0, 0)), some (.inr (9, 0, 0)), some (.inr (10, 0, 1)), some (.inr (10, 0, 2)), some (.inl (.int x5)), some (.inl (.int 1)), some (.inl (.int (y_givB Y_28 ((ch_scr g).2.2 (Int32.toNatClampNeg (x5 + 1))) ((ch_scr g).2.2 (Int32.toNatClampNeg (x5 + 2))) ((ch_scr g).2.2 (Int32.toNatClampNeg (x5 + 3))) 3 (Int32.toNatClampNeg ((ch_scr g).2.2 (Int32.toNatClampNeg (x5 + 1))))))), o8, o9]) rfl ?_
      refine ch_aload_n (i := 2) d_l_law_661 rfl rfl ?_
      refine ch_callV (as := []) d_l_law_662 lk_l_129 mi_m_thrown me_m_thrown rfl rfl rfl (ch_hR hR (Nat.le_of_ble_eq_true rfl)) (Nat.le_of_ble_eq_true rfl) (ch_rc1 (k := k) (a := 1) (b := 0) hcs (Nat.le_of_ble_eq_true rfl)) (ch_mono (ch_Ki (fun r37 m38 q39 => ?_)) (s_m_thrown g (fun (r_ : Int32) (m_ : ch_M) => ((m32 (9, 0, 0) 19) = r_ ∧ m32 = m_))  m32 ⟨rfl, rfl⟩))
      obtain ⟨rfl, rfl⟩ := q39
      replace h := h
      refine ch_iload d_l_law_665 rfl ?_
      refine ch_icmp_eq (tgt := 672) d_l_law_667 (by decide) (fun c => ?_) (fun c => ?_)
      · replace h := h.1 c
        refine ch_iload d_l_law_672 rfl ?_
        refine ch_if_ne (tgt := 689) d_l_law_674 (by decide) (fun _ => ?_) (fun c => absurd c (by decide))
        refine ch_goto (tgt := 2096) d_l_law_689 (by decide) ?_
        exact h
      · replace h := h.2 c
        refine ch_iconst (v := 0) d_l_law_670 (by decide) ?_
        exact h
    · replace h := h.2 c_ B30 f0_ m32 hm_
      refine ch_istore (i := 7) d_l_law_659 (Nat.le_of_ble_eq_true rfl) (ls' := [some (.inr (11, 0, 0)), some (.inr (0, 0, 0)), some (.inr (9, 0, 0)), some (.inr (10, 0, 1)), some (.inr (10, 0, 2)), some (.inl (.int x5)), some (.inl (.int 1)), some (.inl (.int 0)), o8, o9]) rfl ?_
      refine ch_aload_n (i := 2) d_l_law_661 rfl rfl ?_
      refine ch_callV (as := []) d_l_law_662 lk_l_129 mi_m_thrown me_m_thrown rfl rfl rfl (ch_hR hR (Nat.le_of_ble_eq_true rfl)) (Nat.le_of_ble_eq_true rfl) (ch_rc1 (k := k) (a := 1) (b := 0) hcs (Nat.le_of_ble_eq_true rfl)) (ch_mono (ch_Ki (fun r40 m41 q42 => ?_)) (s_m_thrown g (fun (r_ : Int32) (m_ : ch_M) => ((m32 (9, 0, 0) 19) = r_ ∧ m32 = m_))  m32 ⟨rfl, rfl⟩))
      obtain ⟨rfl, rfl⟩ := q42
      replace h := h
      refine ch_iload d_l_law_665 rfl ?_
      refine ch_icmp_eq (tgt := 672) d_l_law_667 (by decide) (fun c => ?_) (fun c => ?_)
      · replace h := h.1 c
        refine ch_iload d_l_law_672 rfl ?_
        refine ch_if_ne (tgt := 689) d_l_law_674 (by decide) (fun _ => ?_) (fun c => absurd c (by decide))
        refine ch_goto (tgt := 2096) d_l_law_689 (by decide) ?_
        exact h
      · replace h := h.2 c
        refine ch_iconst (v := 0) d_l_law_670 (by decide) ?_
        exact h
set_option maxHeartbeats 1600000 in
theorem g_l_law_692 (g : ch_G) (R : Room) (E : ch_En) (k : Nat) (hR : ch_RR R 18) (hcs : k + 40 ≤ R.cells ∧ 6 * k + 240 ≤ R.slots) (x5 : Int32) (o6 : Option ch_V) (o7 : Option ch_V) (o8 : Option ch_V) (o9 : Option ch_V) (m : ch_M) (h : (vp_in (x5 + 1) (ch_scr g).2.1) ∧ (vp_in (x5 + 2) (ch_scr g).2.1) ∧ ((((ch_scr g).2.2 (Int32.toNatClampNeg (x5 + 2))) = 0 → (((0 ≤ ((ch_scr g).2.2 (Int32.toNatClampNeg (x5 + 1))) ∧ ((ch_scr g).2.2 (Int32.toNatClampNeg (x5 + 1))) < 12) → (∀ m4 : ch_M, m4 = (ch_wr m (10, 0, 1) 0 (if 0 = 0 then m (1, 0, 1) (Int32.toNatClampNeg ((ch_scr g).2.2 (Int32.toNatClampNeg (x5 + 1)))) else m (1, 0, 2) (Int32.toNatClampNeg ((ch_scr g).2.2 (Int32.toNatClampNeg (x5 + 1)))))) → ((((ch_scr g).2.2 (Int32.toNatClampNeg (x5 + 2))) = 0 → (∃ Y_6 : ch_B, (m_rel Y_6 (m4 (9, 0, 1))) ∧ (((0 ≤ ((ch_scr g).2.2 (Int32.toNatClampNeg (x5 + 1))) ∧ ((ch_scr g).2.2 (Int32.toNatClampNeg (x5 + 1))) ≤ 11) → (∀ m8 : ch_M, m8 = ch_wr m4 (9, 0, 0) 19 0 → ((((m8 (9, 0, 0) 19) = 0 → (((lg_cmp ((m8 (10, 0, 1) (0))).toInt64 ((if 0 = 0 then Y_6 1 (Int32.toNatClampNeg ((ch_scr g).2.2 (Int32.toNatClampNeg (x5 + 1)))) else Y_6 2 (Int32.toNatClampNeg ((ch_scr g).2.2 (Int32.toNatClampNeg (x5 + 1)))))).toInt64) = 0 → ch_J g m_l_law R E 2096 [some (.inr (11, 0, 0)), some (.inr (0, 0, 0)), some (.inr (9, 0, 0)), some (.inr (10, 0, 1)), some (.inr (10, 0, 2)), some (.inl (.int x5)), some (.inl (.int 0)), some (.inl (.int (if 0 = 0 then Y_6 1 (Int32.toNatClampNeg ((ch_scr g).2.2 (Int32.toNatClampNeg (x5 + 1)))) else Y_6 2 (Int32.toNatClampNeg ((ch_scr g).2.2 (Int32.toNatClampNeg (x5 + 1))))))), o8, o9] [] m8 (k + 1)) ∧ (¬ (lg_cmp ((m8 (10, 0, 1) (0))).toInt64 ((if 0 = 0 then Y_6 1 (Int32.toNatClampNeg ((ch_scr g).2.2 (Int32.toNatClampNeg (x5 + 1)))) else Y_6 2 (Int32.toNatClampNeg ((ch_scr g).2.2 (Int32.toNatClampNeg (x5 + 1)))))).toInt64) = 0 → ch_J g m_l_law R E 772 [some (.inr (11, 0, 0)), some (.inr (0, 0, 0)), some (.inr (9, 0, 0)), some (.inr (10, 0, 1)), some (.inr (10, 0, 2)), some (.inl (.int x5)), some (.inl (.int 0)), some (.inl (.int (if 0 = 0 then Y_6 1 (Int32.toNatClampNeg ((ch_scr g).2.2 (Int32.toNatClampNeg (x5 + 1)))) else Y_6 2 (Int32.toNatClampNeg ((ch_scr g).2.2 (Int32.toNatClampNeg (x5 + 1))))))), o8, o9] [.inl (.int 0)] m8 (k + 1)))) ∧ (¬ (m8 (9, 0, 0) 19) = 0 → ch_J g m_l_law R E 755 [some (.inr (11, 0, 0)), some (.inr (0, 0, 0)), some (.inr (9, 0, 0)), some (.inr (10, 0, 1)), some (.inr (10, 0, 2)), some (.inl (.int x5)), some (.inl (.int 0)), some (.inl (.int (if 0 = 0 then Y_6 1 (Int32.toNatClampNeg ((ch_scr g).2.2 (Int32.toNatClampNeg (x5 + 1)))) else Y_6 2 (Int32.toNatClampNeg ((ch_scr g).2.2 (Int32.toNatClampNeg (x5 + 1))))))), o8, o9] [.inl (.int 0)] m8 (k + 1)))))) ∧ ((¬ (0 ≤ ((ch_scr g).2.2 (Int32.toNatClampNeg (x5 + 1))) ∧ ((ch_scr g).2.2 (Int32.toNatClampNeg (x5 + 1))) ≤ 11)) → (∀ m8 : ch_M, m8 = ch_wr m4 (9, 0, 0) 19 1 → ((((m8 (9, 0, 0) 19) = 0 → (((lg_cmp ((m8 (10, 0, 1) (0))).toInt64 (0).toInt64) = 0 → ch_J g m_l_law R E 2096 [some (.inr (11, 0, 0)), some (.inr (0, 0, 0)), some (.inr (9, 0, 0)), some (.inr (10, 0, 1)), some (.inr (10, 0, 2)), some (.inl (.int x5)), some (.inl (.int 0)), some (.inl (.int 0)), o8, o9] [] m8 (k + 1)) ∧ (¬ (lg_cmp ((m8 (10, 0, 1) (0))).toInt64 (0).toInt64) = 0 → ch_J g m_l_law R E 772 [some (.inr (11, 0, 0)), some (.inr (0, 0, 0)), some (.inr (9, 0, 0)), some (.inr (10, 0, 1)), some (.inr (10, 0, 2)), some (.inl (.int x5)), some (.inl (.int 0)), some (.inl (.int 0)), o8, o9] [.inl (.int 0)] m8 (k + 1)))) ∧ (¬ (m8 (9, 0, 0) 19) = 0 → ch_J g m_l_law R E 755 [some (.inr (11, 0, 0)), some (.inr (0, 0, 0)), some (.inr (9, 0, 0)), some (.inr (10, 0, 1)), some (.inr (10, 0, 2)), some (.inl (.int x5)), some (.inl (.int 0)), some (.inl (.int 0)), o8, o9] [.inl (.int 0)] m8 (k + 1))))))))) ∧ (¬ ((ch_scr g).2.2 (Int32.toNatClampNeg (x5 + 2))) = 0 → (∃ Y_17 : ch_B, (m_rel Y_17 (m4 (9, 0, 1))) ∧ (((0 ≤ ((ch_scr g).2.2 (Int32.toNatClampNeg (x5 + 1))) ∧ ((ch_scr g).2.2 (Int32.toNatClampNeg (x5 + 1))) ≤ 11) → (∀ m19 : ch_M, m19 = ch_wr m4 (9, 0, 0) 19 0 → ((((m19 (9, 0, 0) 19) = 0 → (((lg_cmp ((m19 (10, 0, 1) (0))).toInt64 ((if 1 = 0 then Y_17 1 (Int32.toNatClampNeg ((ch_scr g).2.2 (Int32.toNatClampNeg (x5 + 1)))) else Y_17 2 (Int32.toNatClampNeg ((ch_scr g).2.2 (Int32.toNatClampNeg (x5 + 1)))))).toInt64) = 0 → ch_J g m_l_law R E 2096 [some (.inr (11, 0, 0)), some (.inr (0, 0, 0)), some (.inr (9, 0, 0)), some (.inr (10, 0, 1)), some (.inr (10, 0, 2)), some (.inl (.int x5)), some (.inl (.int 0)), some (.inl (.int (if 1 = 0 then Y_17 1 (Int32.toNatClampNeg ((ch_scr g).2.2 (Int32.toNatClampNeg (x5 + 1)))) else Y_17 2 (Int32.toNatClampNeg ((ch_scr g).2.2 (Int32.toNatClampNeg (x5 + 1))))))), o8, o9] [] m19 (k + 1)) ∧ (¬ (lg_cmp ((m19 (10, 0, 1) (0))).toInt64 ((if 1 = 0 then Y_17 1 (Int32.toNatClampNeg ((ch_scr g).2.2 (Int32.toNatClampNeg (x5 + 1)))) else Y_17 2 (Int32.toNatClampNeg ((ch_scr g).2.2 (Int32.toNatClampNeg (x5 + 1)))))).toInt64) = 0 → ch_J g m_l_law R E 772 [some (.inr (11, 0, 0)), some (.inr (0, 0, 0)), some (.inr (9, 0, 0)), some (.inr (10, 0, 1)), some (.inr (10, 0, 2)), some (.inl (.int x5)), some (.inl (.int 0)), some (.inl (.int (if 1 = 0 then Y_17 1 (Int32.toNatClampNeg ((ch_scr g).2.2 (Int32.toNatClampNeg (x5 + 1)))) else Y_17 2 (Int32.toNatClampNeg ((ch_scr g).2.2 (Int32.toNatClampNeg (x5 + 1))))))), o8, o9] [.inl (.int 0)] m19 (k + 1)))) ∧ (¬ (m19 (9, 0, 0) 19) = 0 → ch_J g m_l_law R E 755 [some (.inr (11, 0, 0)), some (.inr (0, 0, 0)), some (.inr (9, 0, 0)), some (.inr (10, 0, 1)), some (.inr (10, 0, 2)), some (.inl (.int x5)), some (.inl (.int 0)), some (.inl (.int (if 1 = 0 then Y_17 1 (Int32.toNatClampNeg ((ch_scr g).2.2 (Int32.toNatClampNeg (x5 + 1)))) else Y_17 2 (Int32.toNatClampNeg ((ch_scr g).2.2 (Int32.toNatClampNeg (x5 + 1))))))), o8, o9] [.inl (.int 0)] m19 (k + 1)))))) ∧ ((¬ (0 ≤ ((ch_scr g).2.2 (Int32.toNatClampNeg (x5 + 1))) ∧ ((ch_scr g).2.2 (Int32.toNatClampNeg (x5 + 1))) ≤ 11)) → (∀ m19 : ch_M, m19 = ch_wr m4 (9, 0, 0) 19 1 → ((((m19 (9, 0, 0) 19) = 0 → (((lg_cmp ((m19 (10, 0, 1) (0))).toInt64 (0).toInt64) = 0 → ch_J g m_l_law R E 2096 [some (.inr (11, 0, 0)), some (.inr (0, 0, 0)), some (.inr (9, 0, 0)), some (.inr (10, 0, 1)), some (.inr (10, 0, 2)), some (.inl (.int x5)), some (.inl (.int 0)), some (.inl (.int 0)), o8, o9] [] m19 (k + 1)) ∧ (¬ (lg_cmp ((m19 (10, 0, 1) (0))).toInt64 (0).toInt64) = 0 → ch_J g m_l_law R E 772 [some (.inr (11, 0, 0)), some (.inr (0, 0, 0)), some (.inr (9, 0, 0)), some (.inr (10, 0, 1)), some (.inr (10, 0, 2)), some (.inl (.int x5)), some (.inl (.int 0)), some (.inl (.int 0)), o8, o9] [.inl (.int 0)] m19 (k + 1)))) ∧ (¬ (m19 (9, 0, 0) 19) = 0 → ch_J g m_l_law R E 755 [some (.inr (11, 0, 0)), some (.inr (0, 0, 0)), some (.inr (9, 0, 0)), some (.inr (10, 0, 1)), some (.inr (10, 0, 2)), some (.inl (.int x5)), some (.inl (.int 0)), some (.inl (.int 0)), o8, o9] [.inl (.int 0)] m19 (k + 1)))))))))))) ∧ ((¬ (0 ≤ ((ch_scr g).2.2 (Int32.toNatClampNeg (x5 + 1))) ∧ ((ch_scr g).2.2 (Int32.toNatClampNeg (x5 + 1))) < 12)) → ((((ch_scr g).2.2 (Int32.toNatClampNeg (x5 + 2))) = 0 → (∃ Y_28 : ch_B, (m_rel Y_28 (m (9, 0, 1))) ∧ (((0 ≤ ((ch_scr g).2.2 (Int32.toNatClampNeg (x5 + 1))) ∧ ((ch_scr g).2.2 (Int32.toNatClampNeg (x5 + 1))) ≤ 11) → (∀ m30 : ch_M, m30 = ch_wr m (9, 0, 0) 19 0 → ((((m30 (9, 0, 0) 19) = 1 → ch_J g m_l_law R E 2096 [some (.inr (11, 0, 0)), some (.inr (0, 0, 0)), some (.inr (9, 0, 0)), some (.inr (10, 0, 1)), some (.inr (10, 0, 2)), some (.inl (.int x5)), some (.inl (.int 1)), some (.inl (.int (if 0 = 0 then Y_28 1 (Int32.toNatClampNeg ((ch_scr g).2.2 (Int32.toNatClampNeg (x5 + 1)))) else Y_28 2 (Int32.toNatClampNeg ((ch_scr g).2.2 (Int32.toNatClampNeg (x5 + 1))))))), o8, o9] [] m30 (k + 1)) ∧ (¬ (m30 (9, 0, 0) 19) = 1 → ch_J g m_l_law R E 755 [some (.inr (11, 0, 0)), some (.inr (0, 0, 0)), some (.inr (9, 0, 0)), some (.inr (10, 0, 1)), some (.inr (10, 0, 2)), some (.inl (.int x5)), some (.inl (.int 1)), some (.inl (.int (if 0 = 0 then Y_28 1 (Int32.toNatClampNeg ((ch_scr g).2.2 (Int32.toNatClampNeg (x5 + 1)))) else Y_28 2 (Int32.toNatClampNeg ((ch_scr g).2.2 (Int32.toNatClampNeg (x5 + 1))))))), o8, o9] [.inl (.int 0)] m30 (k + 1)))))) ∧ ((¬ (0 ≤ ((ch_scr g).2.2 (Int32.toNatClampNeg (x5 + 1))) ∧ ((ch_scr g).2.2 (Int32.toNatClampNeg (x5 + 1))) ≤ 11)) → (∀ m30 : ch_M, m30 = ch_wr m (9, 0, 0) 19 1 → ((((m30 (9, 0, 0) 19) = 1 → ch_J g m_l_law R E 2096 [some (.inr (11, 0, 0)), some (.inr (0, 0, 0)), some (.inr (9, 0, 0)), some (.inr (10, 0, 1)), some (.inr (10, 0, 2)), some (.inl (.int x5)), some (.inl (.int 1)), some (.inl (.int 0)), o8, o9] [] m30 (k + 1)) ∧ (¬ (m30 (9, 0, 0) 19) = 1 → ch_J g m_l_law R E 755 [some (.inr (11, 0, 0)), some (.inr (0, 0, 0)), some (.inr (9, 0, 0)), some (.inr (10, 0, 1)), some (.inr (10, 0, 2)), some (.inl (.int x5)), some (.inl (.int 1)), some (.inl (.int 0)), o8, o9] [.inl (.int 0)] m30 (k + 1))))))))) ∧ (¬ ((ch_scr g).2.2 (Int32.toNatClampNeg (x5 + 2))) = 0 → (∃ Y_39 : ch_B, (m_rel Y_39 (m (9, 0, 1))) ∧ (((0 ≤ ((ch_scr g).2.2 (Int32.toNatClampNeg (x5 + 1))) ∧ ((ch_scr g).2.2 (Int32.toNatClampNeg (x5 + 1))) ≤ 11) → (∀ m41 : ch_M, m41 = ch_wr m (9, 0, 0) 19 0 → ((((m41 (9, 0, 0) 19) = 1 → ch_J g m_l_law R E 2096 [some (.inr (11, 0, 0)), some (.inr (0, 0, 0)), some (.inr (9, 0, 0)), some (.inr (10, 0, 1)), some (.inr (10, 0, 2)), some (.inl (.int x5)), some (.inl (.int 1)), some (.inl (.int (if 1 = 0 then Y_39 1 (Int32.toNatClampNeg ((ch_scr g).2.2 (Int32.toNatClampNeg (x5 + 1)))) else Y_39 2 (Int32.toNatClampNeg ((ch_scr g).2.2 (Int32.toNatClampNeg (x5 + 1))))))), o8, o9] [] m41 (k + 1)) ∧ (¬ (m41 (9, 0, 0) 19) = 1 → ch_J g m_l_law R E 755 [some (.inr (11, 0, 0)), some (.inr (0, 0, 0)), some (.inr (9, 0, 0)), some (.inr (10, 0, 1)), some (.inr (10, 0, 2)), some (.inl (.int x5)), some (.inl (.int 1)), some (.inl (.int (if 1 = 0 then Y_39 1 (Int32.toNatClampNeg ((ch_scr g).2.2 (Int32.toNatClampNeg (x5 + 1)))) else Y_39 2 (Int32.toNatClampNeg ((ch_scr g).2.2 (Int32.toNatClampNeg (x5 + 1))))))), o8, o9] [.inl (.int 0)] m41 (k + 1)))))) ∧ ((¬ (0 ≤ ((ch_scr g).2.2 (Int32.toNatClampNeg (x5 + 1))) ∧ ((ch_scr g).2.2 (Int32.toNatClampNeg (x5 + 1))) ≤ 11)) → (∀ m41 : ch_M, m41 = ch_wr m (9, 0, 0) 19 1 → ((((m41 (9, 0, 0) 19) = 1 → ch_J g m_l_law R E 2096 [some (.inr (11, 0, 0)), some (.inr (0, 0, 0)), some (.inr (9, 0, 0)), some (.inr (10, 0, 1)), some (.inr (10, 0, 2)), some (.inl (.int x5)), some (.inl (.int 1)), some (.inl (.int 0)), o8, o9] [] m41 (k + 1)) ∧ (¬ (m41 (9, 0, 0) 19) = 1 → ch_J g m_l_law R E 755 [some (.inr (11, 0, 0)), some (.inr (0, 0, 0)), some (.inr (9, 0, 0)), some (.inr (10, 0, 1)), some (.inr (10, 0, 2)), some (.inl (.int x5)), some (.inl (.int 1)), some (.inl (.int 0)), o8, o9] [.inl (.int 0)] m41 (k + 1))))))))))))) ∧ (¬ ((ch_scr g).2.2 (Int32.toNatClampNeg (x5 + 2))) = 0 → (((0 ≤ ((ch_scr g).2.2 (Int32.toNatClampNeg (x5 + 1))) ∧ ((ch_scr g).2.2 (Int32.toNatClampNeg (x5 + 1))) < 12) → (∀ m51 : ch_M, m51 = (ch_wr m (10, 0, 1) 0 (if 1 = 0 then m (1, 0, 1) (Int32.toNatClampNeg ((ch_scr g).2.2 (Int32.toNatClampNeg (x5 + 1)))) else m (1, 0, 2) (Int32.toNatClampNeg ((ch_scr g).2.2 (Int32.toNatClampNeg (x5 + 1)))))) → ((((ch_scr g).2.2 (Int32.toNatClampNeg (x5 + 2))) = 0 → (∃ Y_53 : ch_B, (m_rel Y_53 (m51 (9, 0, 1))) ∧ (((0 ≤ ((ch_scr g).2.2 (Int32.toNatClampNeg (x5 + 1))) ∧ ((ch_scr g).2.2 (Int32.toNatClampNeg (x5 + 1))) ≤ 11) → (∀ m55 : ch_M, m55 = ch_wr m51 (9, 0, 0) 19 0 → ((((m55 (9, 0, 0) 19) = 0 → (((lg_cmp ((m55 (10, 0, 1) (0))).toInt64 ((if 0 = 0 then Y_53 1 (Int32.toNatClampNeg ((ch_scr g).2.2 (Int32.toNatClampNeg (x5 + 1)))) else Y_53 2 (Int32.toNatClampNeg ((ch_scr g).2.2 (Int32.toNatClampNeg (x5 + 1)))))).toInt64) = 0 → ch_J g m_l_law R E 2096 [some (.inr (11, 0, 0)), some (.inr (0, 0, 0)), some (.inr (9, 0, 0)), some (.inr (10, 0, 1)), some (.inr (10, 0, 2)), some (.inl (.int x5)), some (.inl (.int 0)), some (.inl (.int (if 0 = 0 then Y_53 1 (Int32.toNatClampNeg ((ch_scr g).2.2 (Int32.toNatClampNeg (x5 + 1)))) else Y_53 2 (Int32.toNatClampNeg ((ch_scr g).2.2 (Int32.toNatClampNeg (x5 + 1))))))), o8, o9] [] m55 (k + 1)) ∧ (¬ (lg_cmp ((m55 (10, 0, 1) (0))).toInt64 ((if 0 = 0 then Y_53 1 (Int32.toNatClampNeg ((ch_scr g).2.2 (Int32.toNatClampNeg (x5 + 1)))) else Y_53 2 (Int32.toNatClampNeg ((ch_scr g).2.2 (Int32.toNatClampNeg (x5 + 1)))))).toInt64) = 0 → ch_J g m_l_law R E 772 [some (.inr (11, 0, 0)), some (.inr (0, 0, 0)), some (.inr (9, 0, 0)), some (.inr (10, 0, 1)), some (.inr (10, 0, 2)), some (.inl (.int x5)), some (.inl (.int 0)), some (.inl (.int (if 0 = 0 then Y_53 1 (Int32.toNatClampNeg ((ch_scr g).2.2 (Int32.toNatClampNeg (x5 + 1)))) else Y_53 2 (Int32.toNatClampNeg ((ch_scr g).2.2 (Int32.toNatClampNeg (x5 + 1))))))), o8, o9] [.inl (.int 0)] m55 (k + 1)))) ∧ (¬ (m55 (9, 0, 0) 19) = 0 → ch_J g m_l_law R E 755 [some (.inr (11, 0, 0)), some (.inr (0, 0, 0)), some (.inr (9, 0, 0)), some (.inr (10, 0, 1)), some (.inr (10, 0, 2)), some (.inl (.int x5)), some (.inl (.int 0)), some (.inl (.int (if 0 = 0 then Y_53 1 (Int32.toNatClampNeg ((ch_scr g).2.2 (Int32.toNatClampNeg (x5 + 1)))) else Y_53 2 (Int32.toNatClampNeg ((ch_scr g).2.2 (Int32.toNatClampNeg (x5 + 1))))))), o8, o9] [.inl (.int 0)] m55 (k + 1)))))) ∧ ((¬ (0 ≤ ((ch_scr g).2.2 (Int32.toNatClampNeg (x5 + 1))) ∧ ((ch_scr g).2.2 (Int32.toNatClampNeg (x5 + 1))) ≤ 11)) → (∀ m55 : ch_M, m55 = ch_wr m51 (9, 0, 0) 19 1 → ((((m55 (9, 0, 0) 19) = 0 → (((lg_cmp ((m55 (10, 0, 1) (0))).toInt64 (0).toInt64) = 0 → ch_J g m_l_law R E 2096 [some (.inr (11, 0, 0)), some (.inr (0, 0, 0)), some (.inr (9, 0, 0)), some (.inr (10, 0, 1)), some (.inr (10, 0, 2)), some (.inl (.int x5)), some (.inl (.int 0)), some (.inl (.int 0)), o8, o9] [] m55 (k + 1)) ∧ (¬ (lg_cmp ((m55 (10, 0, 1) (0))).toInt64 (0).toInt64) = 0 → ch_J g m_l_law R E 772 [some (.inr (11, 0, 0)), some (.inr (0, 0, 0)), some (.inr (9, 0, 0)), some (.inr (10, 0, 1)), some (.inr (10, 0, 2)), some (.inl (.int x5)), some (.inl (.int 0)), some (.inl (.int 0)), o8, o9] [.inl (.int 0)] m55 (k + 1)))) ∧ (¬ (m55 (9, 0, 0) 19) = 0 → ch_J g m_l_law R E 755 [some (.inr (11, 0, 0)), some (.inr (0, 0, 0)), some (.inr (9, 0, 0)), some (.inr (10, 0, 1)), some (.inr (10, 0, 2)), some (.inl (.int x5)), some (.inl (.int 0)), some (.inl (.int 0)), o8, o9] [.inl (.int 0)] m55 (k + 1))))))))) ∧ (¬ ((ch_scr g).2.2 (Int32.toNatClampNeg (x5 + 2))) = 0 → (∃ Y_64 : ch_B, (m_rel Y_64 (m51 (9, 0, 1))) ∧ (((0 ≤ ((ch_scr g).2.2 (Int32.toNatClampNeg (x5 + 1))) ∧ ((ch_scr g).2.2 (Int32.toNatClampNeg (x5 + 1))) ≤ 11) → (∀ m66 : ch_M, m66 = ch_wr m51 (9, 0, 0) 19 0 → ((((m66 (9, 0, 0) 19) = 0 → (((lg_cmp ((m66 (10, 0, 1) (0))).toInt64 ((if 1 = 0 then Y_64 1 (Int32.toNatClampNeg ((ch_scr g).2.2 (Int32.toNatClampNeg (x5 + 1)))) else Y_64 2 (Int32.toNatClampNeg ((ch_scr g).2.2 (Int32.toNatClampNeg (x5 + 1)))))).toInt64) = 0 → ch_J g m_l_law R E 2096 [some (.inr (11, 0, 0)), some (.inr (0, 0, 0)), some (.inr (9, 0, 0)), some (.inr (10, 0, 1)), some (.inr (10, 0, 2)), some (.inl (.int x5)), some (.inl (.int 0)), some (.inl (.int (if 1 = 0 then Y_64 1 (Int32.toNatClampNeg ((ch_scr g).2.2 (Int32.toNatClampNeg (x5 + 1)))) else Y_64 2 (Int32.toNatClampNeg ((ch_scr g).2.2 (Int32.toNatClampNeg (x5 + 1))))))), o8, o9] [] m66 (k + 1)) ∧ (¬ (lg_cmp ((m66 (10, 0, 1) (0))).toInt64 ((if 1 = 0 then Y_64 1 (Int32.toNatClampNeg ((ch_scr g).2.2 (Int32.toNatClampNeg (x5 + 1)))) else Y_64 2 (Int32.toNatClampNeg ((ch_scr g).2.2 (Int32.toNatClampNeg (x5 + 1)))))).toInt64) = 0 → ch_J g m_l_law R E 772 [some (.inr (11, 0, 0)), some (.inr (0, 0, 0)), some (.inr (9, 0, 0)), some (.inr (10, 0, 1)), some (.inr (10, 0, 2)), some (.inl (.int x5)), some (.inl (.int 0)), some (.inl (.int (if 1 = 0 then Y_64 1 (Int32.toNatClampNeg ((ch_scr g).2.2 (Int32.toNatClampNeg (x5 + 1)))) else Y_64 2 (Int32.toNatClampNeg ((ch_scr g).2.2 (Int32.toNatClampNeg (x5 + 1))))))), o8, o9] [.inl (.int 0)] m66 (k + 1)))) ∧ (¬ (m66 (9, 0, 0) 19) = 0 → ch_J g m_l_law R E 755 [some (.inr (11, 0, 0)), some (.inr (0, 0, 0)), some (.inr (9, 0, 0)), some (.inr (10, 0, 1)), some (.inr (10, 0, 2)), some (.inl (.int x5)), some (.inl (.int 0)), some (.inl (.int (if 1 = 0 then Y_64 1 (Int32.toNatClampNeg ((ch_scr g).2.2 (Int32.toNatClampNeg (x5 + 1)))) else Y_64 2 (Int32.toNatClampNeg ((ch_scr g).2.2 (Int32.toNatClampNeg (x5 + 1))))))), o8, o9] [.inl (.int 0)] m66 (k + 1)))))) ∧ ((¬ (0 ≤ ((ch_scr g).2.2 (Int32.toNatClampNeg (x5 + 1))) ∧ ((ch_scr g).2.2 (Int32.toNatClampNeg (x5 + 1))) ≤ 11)) → (∀ m66 : ch_M, m66 = ch_wr m51 (9, 0, 0) 19 1 → ((((m66 (9, 0, 0) 19) = 0 → (((lg_cmp ((m66 (10, 0, 1) (0))).toInt64 (0).toInt64) = 0 → ch_J g m_l_law R E 2096 [some (.inr (11, 0, 0)), some (.inr (0, 0, 0)), some (.inr (9, 0, 0)), some (.inr (10, 0, 1)), some (.inr (10, 0, 2)), some (.inl (.int x5)), some (.inl (.int 0)), some (.inl (.int 0)), o8, o9] [] m66 (k + 1)) ∧ (¬ (lg_cmp ((m66 (10, 0, 1) (0))).toInt64 (0).toInt64) = 0 → ch_J g m_l_law R E 772 [some (.inr (11, 0, 0)), some (.inr (0, 0, 0)), some (.inr (9, 0, 0)), some (.inr (10, 0, 1)), some (.inr (10, 0, 2)), some (.inl (.int x5)), some (.inl (.int 0)), some (.inl (.int 0)), o8, o9] [.inl (.int 0)] m66 (k + 1)))) ∧ (¬ (m66 (9, 0, 0) 19) = 0 → ch_J g m_l_law R E 755 [some (.inr (11, 0, 0)), some (.inr (0, 0, 0)), some (.inr (9, 0, 0)), some (.inr (10, 0, 1)), some (.inr (10, 0, 2)), some (.inl (.int x5)), some (.inl (.int 0)), some (.inl (.int 0)), o8, o9] [.inl (.int 0)] m66 (k + 1)))))))))))) ∧ ((¬ (0 ≤ ((ch_scr g).2.2 (Int32.toNatClampNeg (x5 + 1))) ∧ ((ch_scr g).2.2 (Int32.toNatClampNeg (x5 + 1))) < 12)) → ((((ch_scr g).2.2 (Int32.toNatClampNeg (x5 + 2))) = 0 → (∃ Y_75 : ch_B, (m_rel Y_75 (m (9, 0, 1))) ∧ (((0 ≤ ((ch_scr g).2.2 (Int32.toNatClampNeg (x5 + 1))) ∧ ((ch_scr g).2.2 (Int32.toNatClampNeg (x5 + 1))) ≤ 11) → (∀ m77 : ch_M, m77 = ch_wr m (9, 0, 0) 19 0 → ((((m77 (9, 0, 0) 19) = 1 → ch_J g m_l_law R E 2096 [some (.inr (11, 0, 0)), some (.inr (0, 0, 0)), some (.inr (9, 0, 0)), some (.inr (10, 0, 1)), some (.inr (10, 0, 2)), some (.inl (.int x5)), some (.inl (.int 1)), some (.inl (.int (if 0 = 0 then Y_75 1 (Int32.toNatClampNeg ((ch_scr g).2.2 (Int32.toNatClampNeg (x5 + 1)))) else Y_75 2 (Int32.toNatClampNeg ((ch_scr g).2.2 (Int32.toNatClampNeg (x5 + 1))))))), o8, o9] [] m77 (k + 1)) ∧ (¬ (m77 (9, 0, 0) 19) = 1 → ch_J g m_l_law R E 755 [some (.inr (11, 0, 0)), some (.inr (0, 0, 0)), some (.inr (9, 0, 0)), some (.inr (10, 0, 1)), some (.inr (10, 0, 2)), some (.inl (.int x5)), some (.inl (.int 1)), some (.inl (.int (if 0 = 0 then Y_75 1 (Int32.toNatClampNeg ((ch_scr g).2.2 (Int32.toNatClampNeg (x5 + 1)))) else Y_75 2 (Int32.toNatClampNeg ((ch_scr g).2.2 (Int32.toNatClampNeg (x5 + 1))))))), o8, o9] [.inl (.int 0)] m77 (k + 1)))))) ∧ ((¬ (0 ≤ ((ch_scr g).2.2 (Int32.toNatClampNeg (x5 + 1))) ∧ ((ch_scr g).2.2 (Int32.toNatClampNeg (x5 + 1))) ≤ 11)) → (∀ m77 : ch_M, m77 = ch_wr m (9, 0, 0) 19 1 → ((((m77 (9, 0, 0) 19) = 1 → ch_J g m_l_law R E 2096 [some (.inr (11, 0, 0)), some (.inr (0, 0, 0)), some (.inr (9, 0, 0)), some (.inr (10, 0, 1)), some (.inr (10, 0, 2)), some (.inl (.int x5)), some (.inl (.int 1)), some (.inl (.int 0)), o8, o9] [] m77 (k + 1)) ∧ (¬ (m77 (9, 0, 0) 19) = 1 → ch_J g m_l_law R E 755 [some (.inr (11, 0, 0)), some (.inr (0, 0, 0)), some (.inr (9, 0, 0)), some (.inr (10, 0, 1)), some (.inr (10, 0, 2)), some (.inl (.int x5)), some (.inl (.int 1)), some (.inl (.int 0)), o8, o9] [.inl (.int 0)] m77 (k + 1))))))))) ∧ (¬ ((ch_scr g).2.2 (Int32.toNatClampNeg (x5 + 2))) = 0 → (∃ Y_86 : ch_B, (m_rel Y_86 (m (9, 0, 1))) ∧ (((0 ≤ ((ch_scr g).2.2 (Int32.toNatClampNeg (x5 + 1))) ∧ ((ch_scr g).2.2 (Int32.toNatClampNeg (x5 + 1))) ≤ 11) → (∀ m88 : ch_M, m88 = ch_wr m (9, 0, 0) 19 0 → ((((m88 (9, 0, 0) 19) = 1 → ch_J g m_l_law R E 2096 [some (.inr (11, 0, 0)), some (.inr (0, 0, 0)), some (.inr (9, 0, 0)), some (.inr (10, 0, 1)), some (.inr (10, 0, 2)), some (.inl (.int x5)), some (.inl (.int 1)), some (.inl (.int (if 1 = 0 then Y_86 1 (Int32.toNatClampNeg ((ch_scr g).2.2 (Int32.toNatClampNeg (x5 + 1)))) else Y_86 2 (Int32.toNatClampNeg ((ch_scr g).2.2 (Int32.toNatClampNeg (x5 + 1))))))), o8, o9] [] m88 (k + 1)) ∧ (¬ (m88 (9, 0, 0) 19) = 1 → ch_J g m_l_law R E 755 [some (.inr (11, 0, 0)), some (.inr (0, 0, 0)), some (.inr (9, 0, 0)), some (.inr (10, 0, 1)), some (.inr (10, 0, 2)), some (.inl (.int x5)), some (.inl (.int 1)), some (.inl (.int (if 1 = 0 then Y_86 1 (Int32.toNatClampNeg ((ch_scr g).2.2 (Int32.toNatClampNeg (x5 + 1)))) else Y_86 2 (Int32.toNatClampNeg ((ch_scr g).2.2 (Int32.toNatClampNeg (x5 + 1))))))), o8, o9] [.inl (.int 0)] m88 (k + 1)))))) ∧ ((¬ (0 ≤ ((ch_scr g).2.2 (Int32.toNatClampNeg (x5 + 1))) ∧ ((ch_scr g).2.2 (Int32.toNatClampNeg (x5 + 1))) ≤ 11)) → (∀ m88 : ch_M, m88 = ch_wr m (9, 0, 0) 19 1 → ((((m88 (9, 0, 0) 19) = 1 → ch_J g m_l_law R E 2096 [some (.inr (11, 0, 0)), some (.inr (0, 0, 0)), some (.inr (9, 0, 0)), some (.inr (10, 0, 1)), some (.inr (10, 0, 2)), some (.inl (.int x5)), some (.inl (.int 1)), some (.inl (.int 0)), o8, o9] [] m88 (k + 1)) ∧ (¬ (m88 (9, 0, 0) 19) = 1 → ch_J g m_l_law R E 755 [some (.inr (11, 0, 0)), some (.inr (0, 0, 0)), some (.inr (9, 0, 0)), some (.inr (10, 0, 1)), some (.inr (10, 0, 2)), some (.inl (.int x5)), some (.inl (.int 1)), some (.inl (.int 0)), o8, o9] [.inl (.int 0)] m88 (k + 1))))))))))))))) : ch_J g m_l_law R E 692 [some (.inr (11, 0, 0)), some (.inr (0, 0, 0)), some (.inr (9, 0, 0)), some (.inr (10, 0, 1)), some (.inr (10, 0, 2)), some (.inl (.int x5)), o6, o7, o8, o9] [] m k := by
  refine ch_aload_n (i := 1) d_l_law_692 rfl rfl ?_
  refine ch_aload_n (i := 0) d_l_law_693 rfl rfl ?_
  refine ch_iload d_l_law_694 rfl ?_
  refine ch_iconst (v := 1) d_l_law_696 (by decide) ?_
  refine ch_iadd d_l_law_697 ?_
  have b1 := h.1
  replace h := h.2
  refine ch_sld d_l_law_698 b1 ?_
  refine ch_aload_n (i := 0) d_l_law_699 rfl rfl ?_
  refine ch_iload d_l_law_700 rfl ?_
  refine ch_iconst (v := 2) d_l_law_702 (by decide) ?_
  refine ch_iadd d_l_law_703 ?_
  have b2 := h.1
  replace h := h.2
  refine ch_sld d_l_law_704 b2 ?_
  refine ch_if_eq (tgt := 712) d_l_law_705 (by decide) (fun c => ?_) (fun c => ?_)
  · replace h := h.1 c
    refine ch_iconst (v := 0) d_l_law_712 (by decide) ?_
    refine ch_aload_n (i := 3) d_l_law_713 rfl rfl ?_
    refine ch_callSX (as := [.inr (0, 0, 0), .inl (.int ((ch_scr g).2.2 (Int32.toNatClampNeg (x5 + 1)))), .inl (.int 0), .inr (10, 0, 1)]) d_l_law_714 lk_l_156 ms_l_squareOf rfl rfl (ch_hR hR (Nat.le_of_ble_eq_true rfl)) (Nat.le_of_ble_eq_true rfl) (ch_rc0 (k := k) (b := 1) hcs (Nat.le_of_ble_eq_true rfl)) (ch_mono (ch_Ki (fun r3 m4 q5 => ?_)) (s_l_squareOf g (fun (r_ : Int32) (m_ : ch_M) => ((0 ≤ ((ch_scr g).2.2 (Int32.toNatClampNeg (x5 + 1))) ∧ ((ch_scr g).2.2 (Int32.toNatClampNeg (x5 + 1))) < 12) ∧ 0 = r_ ∧ m_ = (ch_wr m (10, 0, 1) 0 (if 0 = 0 then m (1, 0, 1) (Int32.toNatClampNeg ((ch_scr g).2.2 (Int32.toNatClampNeg (x5 + 1)))) else m (1, 0, 2) (Int32.toNatClampNeg ((ch_scr g).2.2 (Int32.toNatClampNeg (x5 + 1))))))) ∨ ((¬ (0 ≤ ((ch_scr g).2.2 (Int32.toNatClampNeg (x5 + 1))) ∧ ((ch_scr g).2.2 (Int32.toNatClampNeg (x5 + 1))) < 12)) ∧ 1 = r_ ∧ m = m_)) (((ch_scr g).2.2 (Int32.toNatClampNeg (x5 + 1)))) (0) m ⟨(fun c_ => (Or.inl ⟨c_, rfl, rfl⟩)), (fun c_ => (Or.inr ⟨c_, rfl, rfl⟩))⟩))
    rcases q5 with ⟨c_, rfl, hm_⟩ | ⟨c_, rfl, rfl⟩
    · replace h := h.1 c_ m4 hm_
      refine ch_istore (i := 6) d_l_law_717 (Nat.le_of_ble_eq_true rfl) (ls' := [some (.inr (11, 0, 0)), some (.inr (0, 0, 0)), some (.inr (9, 0, 0)), some (.inr (10, 0, 1)), some (.inr (10, 0, 2)), some (.inl (.int x5)), some (.inl (.int 0)), o7, o8, o9]) rfl ?_
      refine ch_aload_n (i := 2) d_l_law_719 rfl rfl ?_
      refine ch_aload_n (i := 0) d_l_law_720 rfl rfl ?_
      refine ch_iload d_l_law_721 rfl ?_
      refine ch_iconst (v := 1) d_l_law_723 (by decide) ?_
      refine ch_iadd d_l_law_724 ?_
      refine ch_sld d_l_law_725 b1 ?_
      refine ch_aload_n (i := 0) d_l_law_726 rfl rfl ?_
      refine ch_iload d_l_law_727 rfl ?_
      refine ch_iconst (v := 2) d_l_law_729 (by decide) ?_
      refine ch_iadd d_l_law_730 ?_
      refine ch_sld d_l_law_731 b2 ?_
      refine ch_if_eq (tgt := 739) d_l_law_732 (by decide) (fun c => ?_) (fun c => ?_)
      · replace h := h.1 c
        refine ch_iconst (v := 0) d_l_law_739 (by decide) ?_
        obtain ⟨Y_6, h⟩ := h
        have b10 := h.1
        replace h := h.2
        refine ch_callV (as := [.inl (.int ((ch_scr g).2.2 (Int32.toNatClampNeg (x5 + 1)))), .inl (.int 0)]) d_l_law_740 lk_l_159 mi_m_squareOf me_m_squareOf rfl rfl rfl (ch_hR hR (Nat.le_of_ble_eq_true rfl)) (Nat.le_of_ble_eq_true rfl) (ch_rc1 (k := k) (a := 1) (b := 0) hcs (Nat.le_of_ble_eq_true rfl)) (ch_mono (ch_Ki (fun r7 m8 q9 => ?_)) (s_m_squareOf g (fun (r_ : Int32) (m_ : ch_M) => ((0 ≤ ((ch_scr g).2.2 (Int32.toNatClampNeg (x5 + 1))) ∧ ((ch_scr g).2.2 (Int32.toNatClampNeg (x5 + 1))) ≤ 11) ∧ (if 0 = 0 then Y_6 1 (Int32.toNatClampNeg ((ch_scr g).2.2 (Int32.toNatClampNeg (x5 + 1)))) else Y_6 2 (Int32.toNatClampNeg ((ch_scr g).2.2 (Int32.toNatClampNeg (x5 + 1))))) = r_ ∧ m_ = ch_wr m4 (9, 0, 0) 19 0) ∨ ((¬ (0 ≤ ((ch_scr g).2.2 (Int32.toNatClampNeg (x5 + 1))) ∧ ((ch_scr g).2.2 (Int32.toNatClampNeg (x5 + 1))) ≤ 11)) ∧ 0 = r_ ∧ m_ = ch_wr m4 (9, 0, 0) 19 1)) (Y_6) (((ch_scr g).2.2 (Int32.toNatClampNeg (x5 + 1)))) (0) m4 ⟨b10, (fun c_ => (Or.inl ⟨c_, rfl, rfl⟩)), (fun c_ => (Or.inr ⟨c_, rfl, rfl⟩))⟩))
        rcases q9 with ⟨c_, rfl, hm_⟩ | ⟨c_, rfl, hm_⟩
        · replace h := h.1 c_ m8 hm_
          refine ch_istore (i := 7) d_l_law_743 (Nat.le_of_ble_eq_true rfl) (ls' := [some (.inr (11, 0, 0)), some (.inr (0, 0, 0)), some (.inr (9, 0, 0)), some (.inr (10, 0, 1)), some (.inr (10, 0, 2)), some (.inl (.int x5)), some (.inl (.int 0)), some (.inl (.int (if 0 = 0 then Y_6 1 (Int32.toNatClampNeg ((ch_scr g).2.2 (Int32.toNatClampNeg (x5 + 1)))) else Y_6 2 (Int32.toNatClampNeg ((ch_scr g).2.2 (Int32.toNatClampNeg (x5 + 1))))))), o8, o9]) rfl ?_
          refine ch_aload_n (i := 2) d_l_law_745 rfl rfl ?_
          refine ch_callV (as := []) d_l_law_746 lk_l_129 mi_m_thrown me_m_thrown rfl rfl rfl (ch_hR hR (Nat.le_of_ble_eq_true rfl)) (Nat.le_of_ble_eq_true rfl) (ch_rc1 (k := k) (a := 1) (b := 0) hcs (Nat.le_of_ble_eq_true rfl)) (ch_mono (ch_Ki (fun r11 m12 q13 => ?_)) (s_m_thrown g (fun (r_ : Int32) (m_ : ch_M) => ((m8 (9, 0, 0) 19) = r_ ∧ m8 = m_))  m8 ⟨rfl, rfl⟩))
          obtain ⟨rfl, rfl⟩ := q13
          replace h := h
          refine ch_iload d_l_law_749 rfl ?_
          refine ch_icmp_eq (tgt := 756) d_l_law_751 (by decide) (fun c => ?_) (fun c => ?_)
          · replace h := h.1 c
            refine ch_iload d_l_law_756 rfl ?_
            refine ch_if_ne (tgt := 773) d_l_law_758 (by decide) (fun c => absurd c (by decide)) (fun _ => ?_)
            refine ch_aload_n (i := 3) d_l_law_761 rfl rfl ?_
            refine ch_iconst (v := 0) d_l_law_762 (by decide) ?_
            refine ch_lald (n := 1) d_l_law_763 (by decide) rfl (vp_in_nI (n := 0) (by decide) (by decide)) ?_
            refine ch_iload d_l_law_764 rfl ?_
            refine ch_i2l d_l_law_766 ?_
            refine ch_lcmp d_l_law_767 ?_
            refine ch_if_eq (tgt := 773) d_l_law_768 (by decide) (fun c => ?_) (fun c => ?_)
            · replace h := h.1 c
              refine ch_goto (tgt := 2096) d_l_law_773 (by decide) ?_
              exact h
            · replace h := h.2 c
              refine ch_iconst (v := 0) d_l_law_771 (by decide) ?_
              exact h
          · replace h := h.2 c
            refine ch_iconst (v := 0) d_l_law_754 (by decide) ?_
            exact h
        · replace h := h.2 c_ m8 hm_
          refine ch_istore (i := 7) d_l_law_743 (Nat.le_of_ble_eq_true rfl) (ls' := [some (.inr (11, 0, 0)), some (.inr (0, 0, 0)), some (.inr (9, 0, 0)), some (.inr (10, 0, 1)), some (.inr (10, 0, 2)), some (.inl (.int x5)), some (.inl (.int 0)), some (.inl (.int 0)), o8, o9]) rfl ?_
          refine ch_aload_n (i := 2) d_l_law_745 rfl rfl ?_
          refine ch_callV (as := []) d_l_law_746 lk_l_129 mi_m_thrown me_m_thrown rfl rfl rfl (ch_hR hR (Nat.le_of_ble_eq_true rfl)) (Nat.le_of_ble_eq_true rfl) (ch_rc1 (k := k) (a := 1) (b := 0) hcs (Nat.le_of_ble_eq_true rfl)) (ch_mono (ch_Ki (fun r14 m15 q16 => ?_)) (s_m_thrown g (fun (r_ : Int32) (m_ : ch_M) => ((m8 (9, 0, 0) 19) = r_ ∧ m8 = m_))  m8 ⟨rfl, rfl⟩))
          obtain ⟨rfl, rfl⟩ := q16
          replace h := h
          refine ch_iload d_l_law_749 rfl ?_
          refine ch_icmp_eq (tgt := 756) d_l_law_751 (by decide) (fun c => ?_) (fun c => ?_)
          · replace h := h.1 c
            refine ch_iload d_l_law_756 rfl ?_
            refine ch_if_ne (tgt := 773) d_l_law_758 (by decide) (fun c => absurd c (by decide)) (fun _ => ?_)
            refine ch_aload_n (i := 3) d_l_law_761 rfl rfl ?_
            refine ch_iconst (v := 0) d_l_law_762 (by decide) ?_
            refine ch_lald (n := 1) d_l_law_763 (by decide) rfl (vp_in_nI (n := 0) (by decide) (by decide)) ?_
            refine ch_iload d_l_law_764 rfl ?_
            refine ch_i2l d_l_law_766 ?_
            refine ch_lcmp d_l_law_767 ?_
            refine ch_if_eq (tgt := 773) d_l_law_768 (by decide) (fun c => ?_) (fun c => ?_)
            · replace h := h.1 c
              refine ch_goto (tgt := 2096) d_l_law_773 (by decide) ?_
              exact h
            · replace h := h.2 c
              refine ch_iconst (v := 0) d_l_law_771 (by decide) ?_
              exact h
          · replace h := h.2 c
            refine ch_iconst (v := 0) d_l_law_754 (by decide) ?_
            exact h
      · replace h := h.2 c
        refine ch_iconst (v := 1) d_l_law_735 (by decide) ?_
        refine ch_goto (tgt := 740) d_l_law_736 (by decide) ?_
        obtain ⟨Y_17, h⟩ := h
        have b21 := h.1
        replace h := h.2
        refine ch_callV (as := [.inl (.int ((ch_scr g).2.2 (Int32.toNatClampNeg (x5 + 1)))), .inl (.int 1)]) d_l_law_740 lk_l_159 mi_m_squareOf me_m_squareOf rfl rfl rfl (ch_hR hR (Nat.le_of_ble_eq_true rfl)) (Nat.le_of_ble_eq_true rfl) (ch_rc1 (k := k) (a := 1) (b := 0) hcs (Nat.le_of_ble_eq_true rfl)) (ch_mono (ch_Ki (fun r18 m19 q20 => ?_)) (s_m_squareOf g (fun (r_ : Int32) (m_ : ch_M) => ((0 ≤ ((ch_scr g).2.2 (Int32.toNatClampNeg (x5 + 1))) ∧ ((ch_scr g).2.2 (Int32.toNatClampNeg (x5 + 1))) ≤ 11) ∧ (if 1 = 0 then Y_17 1 (Int32.toNatClampNeg ((ch_scr g).2.2 (Int32.toNatClampNeg (x5 + 1)))) else Y_17 2 (Int32.toNatClampNeg ((ch_scr g).2.2 (Int32.toNatClampNeg (x5 + 1))))) = r_ ∧ m_ = ch_wr m4 (9, 0, 0) 19 0) ∨ ((¬ (0 ≤ ((ch_scr g).2.2 (Int32.toNatClampNeg (x5 + 1))) ∧ ((ch_scr g).2.2 (Int32.toNatClampNeg (x5 + 1))) ≤ 11)) ∧ 0 = r_ ∧ m_ = ch_wr m4 (9, 0, 0) 19 1)) (Y_17) (((ch_scr g).2.2 (Int32.toNatClampNeg (x5 + 1)))) (1) m4 ⟨b21, (fun c_ => (Or.inl ⟨c_, rfl, rfl⟩)), (fun c_ => (Or.inr ⟨c_, rfl, rfl⟩))⟩))
        rcases q20 with ⟨c_, rfl, hm_⟩ | ⟨c_, rfl, hm_⟩
        · replace h := h.1 c_ m19 hm_
          refine ch_istore (i := 7) d_l_law_743 (Nat.le_of_ble_eq_true rfl) (ls' := [some (.inr (11, 0, 0)), some (.inr (0, 0, 0)), some (.inr (9, 0, 0)), some (.inr (10, 0, 1)), some (.inr (10, 0, 2)), some (.inl (.int x5)), some (.inl (.int 0)), some (.inl (.int (if 1 = 0 then Y_17 1 (Int32.toNatClampNeg ((ch_scr g).2.2 (Int32.toNatClampNeg (x5 + 1)))) else Y_17 2 (Int32.toNatClampNeg ((ch_scr g).2.2 (Int32.toNatClampNeg (x5 + 1))))))), o8, o9]) rfl ?_
          refine ch_aload_n (i := 2) d_l_law_745 rfl rfl ?_
          refine ch_callV (as := []) d_l_law_746 lk_l_129 mi_m_thrown me_m_thrown rfl rfl rfl (ch_hR hR (Nat.le_of_ble_eq_true rfl)) (Nat.le_of_ble_eq_true rfl) (ch_rc1 (k := k) (a := 1) (b := 0) hcs (Nat.le_of_ble_eq_true rfl)) (ch_mono (ch_Ki (fun r22 m23 q24 => ?_)) (s_m_thrown g (fun (r_ : Int32) (m_ : ch_M) => ((m19 (9, 0, 0) 19) = r_ ∧ m19 = m_))  m19 ⟨rfl, rfl⟩))
          obtain ⟨rfl, rfl⟩ := q24
          replace h := h
          refine ch_iload d_l_law_749 rfl ?_
          refine ch_icmp_eq (tgt := 756) d_l_law_751 (by decide) (fun c => ?_) (fun c => ?_)
          · replace h := h.1 c
            refine ch_iload d_l_law_756 rfl ?_
            refine ch_if_ne (tgt := 773) d_l_law_758 (by decide) (fun c => absurd c (by decide)) (fun _ => ?_)
            refine ch_aload_n (i := 3) d_l_law_761 rfl rfl ?_
            refine ch_iconst (v := 0) d_l_law_762 (by decide) ?_
            refine ch_lald (n := 1) d_l_law_763 (by decide) rfl (vp_in_nI (n := 0) (by decide) (by decide)) ?_
            refine ch_iload d_l_law_764 rfl ?_
            refine ch_i2l d_l_law_766 ?_
            refine ch_lcmp d_l_law_767 ?_
            refine ch_if_eq (tgt := 773) d_l_law_768 (by decide) (fun c => ?_) (fun c => ?_)
            · replace h := h.1 c
              refine ch_goto (tgt := 2096) d_l_law_773 (by decide) ?_
              exact h
            · replace h := h.2 c
              refine ch_iconst (v := 0) d_l_law_771 (by decide) ?_
              exact h
          · replace h := h.2 c
            refine ch_iconst (v := 0) d_l_law_754 (by decide) ?_
            exact h
        · replace h := h.2 c_ m19 hm_
          refine ch_istore (i := 7) d_l_law_743 (Nat.le_of_ble_eq_true rfl) (ls' := [some (.inr (11, 0, 0)), some (.inr (0, 0, 0)), some (.inr (9, 0, 0)), some (.inr (10, 0, 1)), some (.inr (10, 0, 2)), some (.inl (.int x5)), some (.inl (.int 0)), some (.inl (.int 0)), o8, o9]) rfl ?_
          refine ch_aload_n (i := 2) d_l_law_745 rfl rfl ?_
          refine ch_callV (as := []) d_l_law_746 lk_l_129 mi_m_thrown me_m_thrown rfl rfl rfl (ch_hR hR (Nat.le_of_ble_eq_true rfl)) (Nat.le_of_ble_eq_true rfl) (ch_rc1 (k := k) (a := 1) (b := 0) hcs (Nat.le_of_ble_eq_true rfl)) (ch_mono (ch_Ki (fun r25 m26 q27 => ?_)) (s_m_thrown g (fun (r_ : Int32) (m_ : ch_M) => ((m19 (9, 0, 0) 19) = r_ ∧ m19 = m_))  m19 ⟨rfl, rfl⟩))
          obtain ⟨rfl, rfl⟩ := q27
          replace h := h
          refine ch_iload d_l_law_749 rfl ?_
          refine ch_icmp_eq (tgt := 756) d_l_law_751 (by decide) (fun c => ?_) (fun c => ?_)
          · replace h := h.1 c
            refine ch_iload d_l_law_756 rfl ?_
            refine ch_if_ne (tgt := 773) d_l_law_758 (by decide) (fun c => absurd c (by decide)) (fun _ => ?_)
            refine ch_aload_n (i := 3) d_l_law_761 rfl rfl ?_
            refine ch_iconst (v := 0) d_l_law_762 (by decide) ?_
            refine ch_lald (n := 1) d_l_law_763 (by decide) rfl (vp_in_nI (n := 0) (by decide) (by decide)) ?_
            refine ch_iload d_l_law_764 rfl ?_
            refine ch_i2l d_l_law_766 ?_
            refine ch_lcmp d_l_law_767 ?_
            refine ch_if_eq (tgt := 773) d_l_law_768 (by decide) (fun c => ?_) (fun c => ?_)
            · replace h := h.1 c
              refine ch_goto (tgt := 2096) d_l_law_773 (by decide) ?_
              exact h
            · replace h := h.2 c
              refine ch_iconst (v := 0) d_l_law_771 (by decide) ?_
              exact h
          · replace h := h.2 c
            refine ch_iconst (v := 0) d_l_law_754 (by decide) ?_
            exact h
    · replace h := h.2 c_
      refine ch_istore (i := 6) d_l_law_717 (Nat.le_of_ble_eq_true rfl) (ls' := [some (.inr (11, 0, 0)), some (.inr (0, 0, 0)), some (.inr (9, 0, 0)), some (.inr (10, 0, 1)), some (.inr (10, 0, 2)), some (.inl (.int x5)), some (.inl (.int 1)), o7, o8, o9]) rfl ?_
      refine ch_aload_n (i := 2) d_l_law_719 rfl rfl ?_
      refine ch_aload_n (i := 0) d_l_law_720 rfl rfl ?_
      refine ch_iload d_l_law_721 rfl ?_
      refine ch_iconst (v := 1) d_l_law_723 (by decide) ?_
      refine ch_iadd d_l_law_724 ?_
      refine ch_sld d_l_law_725 b1 ?_
      refine ch_aload_n (i := 0) d_l_law_726 rfl rfl ?_
      refine ch_iload d_l_law_727 rfl ?_
      refine ch_iconst (v := 2) d_l_law_729 (by decide) ?_
      refine ch_iadd d_l_law_730 ?_
      refine ch_sld d_l_law_731 b2 ?_
      refine ch_if_eq (tgt := 739) d_l_law_732 (by decide) (fun c => ?_) (fun c => ?_)
      · replace h := h.1 c
        refine ch_iconst (v := 0) d_l_law_739 (by decide) ?_
        obtain ⟨Y_28, h⟩ := h
        have b32 := h.1
        replace h := h.2
        refine ch_callV (as := [.inl (.int ((ch_scr g).2.2 (Int32.toNatClampNeg (x5 + 1)))), .inl (.int 0)]) d_l_law_740 lk_l_159 mi_m_squareOf me_m_squareOf rfl rfl rfl (ch_hR hR (Nat.le_of_ble_eq_true rfl)) (Nat.le_of_ble_eq_true rfl) (ch_rc1 (k := k) (a := 1) (b := 0) hcs (Nat.le_of_ble_eq_true rfl)) (ch_mono (ch_Ki (fun r29 m30 q31 => ?_)) (s_m_squareOf g (fun (r_ : Int32) (m_ : ch_M) => ((0 ≤ ((ch_scr g).2.2 (Int32.toNatClampNeg (x5 + 1))) ∧ ((ch_scr g).2.2 (Int32.toNatClampNeg (x5 + 1))) ≤ 11) ∧ (if 0 = 0 then Y_28 1 (Int32.toNatClampNeg ((ch_scr g).2.2 (Int32.toNatClampNeg (x5 + 1)))) else Y_28 2 (Int32.toNatClampNeg ((ch_scr g).2.2 (Int32.toNatClampNeg (x5 + 1))))) = r_ ∧ m_ = ch_wr m (9, 0, 0) 19 0) ∨ ((¬ (0 ≤ ((ch_scr g).2.2 (Int32.toNatClampNeg (x5 + 1))) ∧ ((ch_scr g).2.2 (Int32.toNatClampNeg (x5 + 1))) ≤ 11)) ∧ 0 = r_ ∧ m_ = ch_wr m (9, 0, 0) 19 1)) (Y_28) (((ch_scr g).2.2 (Int32.toNatClampNeg (x5 + 1)))) (0) m ⟨b32, (fun c_ => (Or.inl ⟨c_, rfl, rfl⟩)), (fun c_ => (Or.inr ⟨c_, rfl, rfl⟩))⟩))
        rcases q31 with ⟨c_, rfl, hm_⟩ | ⟨c_, rfl, hm_⟩
        · replace h := h.1 c_ m30 hm_
          refine ch_istore (i := 7) d_l_law_743 (Nat.le_of_ble_eq_true rfl) (ls' := [some (.inr (11, 0, 0)), some (.inr (0, 0, 0)), some (.inr (9, 0, 0)), some (.inr (10, 0, 1)), some (.inr (10, 0, 2)), some (.inl (.int x5)), some (.inl (.int 1)), some (.inl (.int (if 0 = 0 then Y_28 1 (Int32.toNatClampNeg ((ch_scr g).2.2 (Int32.toNatClampNeg (x5 + 1)))) else Y_28 2 (Int32.toNatClampNeg ((ch_scr g).2.2 (Int32.toNatClampNeg (x5 + 1))))))), o8, o9]) rfl ?_
          refine ch_aload_n (i := 2) d_l_law_745 rfl rfl ?_
          refine ch_callV (as := []) d_l_law_746 lk_l_129 mi_m_thrown me_m_thrown rfl rfl rfl (ch_hR hR (Nat.le_of_ble_eq_true rfl)) (Nat.le_of_ble_eq_true rfl) (ch_rc1 (k := k) (a := 1) (b := 0) hcs (Nat.le_of_ble_eq_true rfl)) (ch_mono (ch_Ki (fun r33 m34 q35 => ?_)) (s_m_thrown g (fun (r_ : Int32) (m_ : ch_M) => ((m30 (9, 0, 0) 19) = r_ ∧ m30 = m_))  m30 ⟨rfl, rfl⟩))
          obtain ⟨rfl, rfl⟩ := q35
          replace h := h
          refine ch_iload d_l_law_749 rfl ?_
          refine ch_icmp_eq (tgt := 756) d_l_law_751 (by decide) (fun c => ?_) (fun c => ?_)
          · replace h := h.1 c
            refine ch_iload d_l_law_756 rfl ?_
            refine ch_if_ne (tgt := 773) d_l_law_758 (by decide) (fun _ => ?_) (fun c => absurd c (by decide))
            refine ch_goto (tgt := 2096) d_l_law_773 (by decide) ?_
            exact h
          · replace h := h.2 c
            refine ch_iconst (v := 0) d_l_law_754 (by decide) ?_
            exact h
        · replace h := h.2 c_ m30 hm_
          refine ch_istore (i := 7) d_l_law_743 (Nat.le_of_ble_eq_true rfl) (ls' := [some (.inr (11, 0, 0)), some (.inr (0, 0, 0)), some (.inr (9, 0, 0)), some (.inr (10, 0, 1)), some (.inr (10, 0, 2)), some (.inl (.int x5)), some (.inl (.int 1)), some (.inl (.int 0)), o8, o9]) rfl ?_
          refine ch_aload_n (i := 2) d_l_law_745 rfl rfl ?_
          refine ch_callV (as := []) d_l_law_746 lk_l_129 mi_m_thrown me_m_thrown rfl rfl rfl (ch_hR hR (Nat.le_of_ble_eq_true rfl)) (Nat.le_of_ble_eq_true rfl) (ch_rc1 (k := k) (a := 1) (b := 0) hcs (Nat.le_of_ble_eq_true rfl)) (ch_mono (ch_Ki (fun r36 m37 q38 => ?_)) (s_m_thrown g (fun (r_ : Int32) (m_ : ch_M) => ((m30 (9, 0, 0) 19) = r_ ∧ m30 = m_))  m30 ⟨rfl, rfl⟩))
          obtain ⟨rfl, rfl⟩ := q38
          replace h := h
          refine ch_iload d_l_law_749 rfl ?_
          refine ch_icmp_eq (tgt := 756) d_l_law_751 (by decide) (fun c => ?_) (fun c => ?_)
          · replace h := h.1 c
            refine ch_iload d_l_law_756 rfl ?_
            refine ch_if_ne (tgt := 773) d_l_law_758 (by decide) (fun _ => ?_) (fun c => absurd c (by decide))
            refine ch_goto (tgt := 2096) d_l_law_773 (by decide) ?_
            exact h
          · replace h := h.2 c
            refine ch_iconst (v := 0) d_l_law_754 (by decide) ?_
            exact h
      · replace h := h.2 c
        refine ch_iconst (v := 1) d_l_law_735 (by decide) ?_
        refine ch_goto (tgt := 740) d_l_law_736 (by decide) ?_
        obtain ⟨Y_39, h⟩ := h
        have b43 := h.1
        replace h := h.2
        refine ch_callV (as := [.inl (.int ((ch_scr g).2.2 (Int32.toNatClampNeg (x5 + 1)))), .inl (.int 1)]) d_l_law_740 lk_l_159 mi_m_squareOf me_m_squareOf rfl rfl rfl (ch_hR hR (Nat.le_of_ble_eq_true rfl)) (Nat.le_of_ble_eq_true rfl) (ch_rc1 (k := k) (a := 1) (b := 0) hcs (Nat.le_of_ble_eq_true rfl)) (ch_mono (ch_Ki (fun r40 m41 q42 => ?_)) (s_m_squareOf g (fun (r_ : Int32) (m_ : ch_M) => ((0 ≤ ((ch_scr g).2.2 (Int32.toNatClampNeg (x5 + 1))) ∧ ((ch_scr g).2.2 (Int32.toNatClampNeg (x5 + 1))) ≤ 11) ∧ (if 1 = 0 then Y_39 1 (Int32.toNatClampNeg ((ch_scr g).2.2 (Int32.toNatClampNeg (x5 + 1)))) else Y_39 2 (Int32.toNatClampNeg ((ch_scr g).2.2 (Int32.toNatClampNeg (x5 + 1))))) = r_ ∧ m_ = ch_wr m (9, 0, 0) 19 0) ∨ ((¬ (0 ≤ ((ch_scr g).2.2 (Int32.toNatClampNeg (x5 + 1))) ∧ ((ch_scr g).2.2 (Int32.toNatClampNeg (x5 + 1))) ≤ 11)) ∧ 0 = r_ ∧ m_ = ch_wr m (9, 0, 0) 19 1)) (Y_39) (((ch_scr g).2.2 (Int32.toNatClampNeg (x5 + 1)))) (1) m ⟨b43, (fun c_ => (Or.inl ⟨c_, rfl, rfl⟩)), (fun c_ => (Or.inr ⟨c_, rfl, rfl⟩))⟩))
        rcases q42 with ⟨c_, rfl, hm_⟩ | ⟨c_, rfl, hm_⟩
        · replace h := h.1 c_ m41 hm_
          refine ch_istore (i := 7) d_l_law_743 (Nat.le_of_ble_eq_true rfl) (ls' := [some (.inr (11, 0, 0)), some (.inr (0, 0, 0)), some (.inr (9, 0, 0)), some (.inr (10, 0, 1)), some (.inr (10, 0, 2)), some (.inl (.int x5)), some (.inl (.int 1)), some (.inl (.int (if 1 = 0 then Y_39 1 (Int32.toNatClampNeg ((ch_scr g).2.2 (Int32.toNatClampNeg (x5 + 1)))) else Y_39 2 (Int32.toNatClampNeg ((ch_scr g).2.2 (Int32.toNatClampNeg (x5 + 1))))))), o8, o9]) rfl ?_
          refine ch_aload_n (i := 2) d_l_law_745 rfl rfl ?_
          refine ch_callV (as := []) d_l_law_746 lk_l_129 mi_m_thrown me_m_thrown rfl rfl rfl (ch_hR hR (Nat.le_of_ble_eq_true rfl)) (Nat.le_of_ble_eq_true rfl) (ch_rc1 (k := k) (a := 1) (b := 0) hcs (Nat.le_of_ble_eq_true rfl)) (ch_mono (ch_Ki (fun r44 m45 q46 => ?_)) (s_m_thrown g (fun (r_ : Int32) (m_ : ch_M) => ((m41 (9, 0, 0) 19) = r_ ∧ m41 = m_))  m41 ⟨rfl, rfl⟩))
          obtain ⟨rfl, rfl⟩ := q46
          replace h := h
          refine ch_iload d_l_law_749 rfl ?_
          refine ch_icmp_eq (tgt := 756) d_l_law_751 (by decide) (fun c => ?_) (fun c => ?_)
          · replace h := h.1 c
            refine ch_iload d_l_law_756 rfl ?_
            refine ch_if_ne (tgt := 773) d_l_law_758 (by decide) (fun _ => ?_) (fun c => absurd c (by decide))
            refine ch_goto (tgt := 2096) d_l_law_773 (by decide) ?_
            exact h
          · replace h := h.2 c
            refine ch_iconst (v := 0) d_l_law_754 (by decide) ?_
            exact h
        · replace h := h.2 c_ m41 hm_
          refine ch_istore (i := 7) d_l_law_743 (Nat.le_of_ble_eq_true rfl) (ls' := [some (.inr (11, 0, 0)), some (.inr (0, 0, 0)), some (.inr (9, 0, 0)), some (.inr (10, 0, 1)), some (.inr (10, 0, 2)), some (.inl (.int x5)), some (.inl (.int 1)), some (.inl (.int 0)), o8, o9]) rfl ?_
          refine ch_aload_n (i := 2) d_l_law_745 rfl rfl ?_
          refine ch_callV (as := []) d_l_law_746 lk_l_129 mi_m_thrown me_m_thrown rfl rfl rfl (ch_hR hR (Nat.le_of_ble_eq_true rfl)) (Nat.le_of_ble_eq_true rfl) (ch_rc1 (k := k) (a := 1) (b := 0) hcs (Nat.le_of_ble_eq_true rfl)) (ch_mono (ch_Ki (fun r47 m48 q49 => ?_)) (s_m_thrown g (fun (r_ : Int32) (m_ : ch_M) => ((m41 (9, 0, 0) 19) = r_ ∧ m41 = m_))  m41 ⟨rfl, rfl⟩))
          obtain ⟨rfl, rfl⟩ := q49
          replace h := h
          refine ch_iload d_l_law_749 rfl ?_
          refine ch_icmp_eq (tgt := 756) d_l_law_751 (by decide) (fun c => ?_) (fun c => ?_)
          · replace h := h.1 c
            refine ch_iload d_l_law_756 rfl ?_
            refine ch_if_ne (tgt := 773) d_l_law_758 (by decide) (fun _ => ?_) (fun c => absurd c (by decide))
            refine ch_goto (tgt := 2096) d_l_law_773 (by decide) ?_
            exact h
          · replace h := h.2 c
            refine ch_iconst (v := 0) d_l_law_754 (by decide) ?_
            exact h
  · replace h := h.2 c
    refine ch_iconst (v := 1) d_l_law_708 (by decide) ?_
    refine ch_goto (tgt := 713) d_l_law_709 (by decide) ?_
    refine ch_aload_n (i := 3) d_l_law_713 rfl rfl ?_
    refine ch_callSX (as := [.inr (0, 0, 0), .inl (.int ((ch_scr g).2.2 (Int32.toNatClampNeg (x5 + 1)))), .inl (.int 1), .inr (10, 0, 1)]) d_l_law_714 lk_l_156 ms_l_squareOf rfl rfl (ch_hR hR (Nat.le_of_ble_eq_true rfl)) (Nat.le_of_ble_eq_true rfl) (ch_rc0 (k := k) (b := 1) hcs (Nat.le_of_ble_eq_true rfl)) (ch_mono (ch_Ki (fun r50 m51 q52 => ?_)) (s_l_squareOf g (fun (r_ : Int32) (m_ : ch_M) => ((0 ≤ ((ch_scr g).2.2 (Int32.toNatClampNeg (x5 + 1))) ∧ ((ch_scr g).2.2 (Int32.toNatClampNeg (x5 + 1))) < 12) ∧ 0 = r_ ∧ m_ = (ch_wr m (10, 0, 1) 0 (if 1 = 0 then m (1, 0, 1) (Int32.toNatClampNeg ((ch_scr g).2.2 (Int32.toNatClampNeg (x5 + 1)))) else m (1, 0, 2) (Int32.toNatClampNeg ((ch_scr g).2.2 (Int32.toNatClampNeg (x5 + 1))))))) ∨ ((¬ (0 ≤ ((ch_scr g).2.2 (Int32.toNatClampNeg (x5 + 1))) ∧ ((ch_scr g).2.2 (Int32.toNatClampNeg (x5 + 1))) < 12)) ∧ 1 = r_ ∧ m = m_)) (((ch_scr g).2.2 (Int32.toNatClampNeg (x5 + 1)))) (1) m ⟨(fun c_ => (Or.inl ⟨c_, rfl, rfl⟩)), (fun c_ => (Or.inr ⟨c_, rfl, rfl⟩))⟩))
    rcases q52 with ⟨c_, rfl, hm_⟩ | ⟨c_, rfl, rfl⟩
    · replace h := h.1 c_ m51 hm_
      refine ch_istore (i := 6) d_l_law_717 (Nat.le_of_ble_eq_true rfl) (ls' := [some (.inr (11, 0, 0)), some (.inr (0, 0, 0)), some (.inr (9, 0, 0)), some (.inr (10, 0, 1)), some (.inr (10, 0, 2)), some (.inl (.int x5)), some (.inl (.int 0)), o7, o8, o9]) rfl ?_
      refine ch_aload_n (i := 2) d_l_law_719 rfl rfl ?_
      refine ch_aload_n (i := 0) d_l_law_720 rfl rfl ?_
      refine ch_iload d_l_law_721 rfl ?_
      refine ch_iconst (v := 1) d_l_law_723 (by decide) ?_
      refine ch_iadd d_l_law_724 ?_
      refine ch_sld d_l_law_725 b1 ?_
      refine ch_aload_n (i := 0) d_l_law_726 rfl rfl ?_
      refine ch_iload d_l_law_727 rfl ?_
      refine ch_iconst (v := 2) d_l_law_729 (by decide) ?_
      refine ch_iadd d_l_law_730 ?_
      refine ch_sld d_l_law_731 b2 ?_
      refine ch_if_eq (tgt := 739) d_l_law_732 (by decide) (fun c => ?_) (fun c => ?_)
      · replace h := h.1 c
        refine ch_iconst (v := 0) d_l_law_739 (by decide) ?_
        obtain ⟨Y_53, h⟩ := h
        have b57 := h.1
        replace h := h.2
        refine ch_callV (as := [.inl (.int ((ch_scr g).2.2 (Int32.toNatClampNeg (x5 + 1)))), .inl (.int 0)]) d_l_law_740 lk_l_159 mi_m_squareOf me_m_squareOf rfl rfl rfl (ch_hR hR (Nat.le_of_ble_eq_true rfl)) (Nat.le_of_ble_eq_true rfl) (ch_rc1 (k := k) (a := 1) (b := 0) hcs (Nat.le_of_ble_eq_true rfl)) (ch_mono (ch_Ki (fun r54 m55 q56 => ?_)) (s_m_squareOf g (fun (r_ : Int32) (m_ : ch_M) => ((0 ≤ ((ch_scr g).2.2 (Int32.toNatClampNeg (x5 + 1))) ∧ ((ch_scr g).2.2 (Int32.toNatClampNeg (x5 + 1))) ≤ 11) ∧ (if 0 = 0 then Y_53 1 (Int32.toNatClampNeg ((ch_scr g).2.2 (Int32.toNatClampNeg (x5 + 1)))) else Y_53 2 (Int32.toNatClampNeg ((ch_scr g).2.2 (Int32.toNatClampNeg (x5 + 1))))) = r_ ∧ m_ = ch_wr m51 (9, 0, 0) 19 0) ∨ ((¬ (0 ≤ ((ch_scr g).2.2 (Int32.toNatClampNeg (x5 + 1))) ∧ ((ch_scr g).2.2 (Int32.toNatClampNeg (x5 + 1))) ≤ 11)) ∧ 0 = r_ ∧ m_ = ch_wr m51 (9, 0, 0) 19 1)) (Y_53) (((ch_scr g).2.2 (Int32.toNatClampNeg (x5 + 1)))) (0) m51 ⟨b57, (fun c_ => (Or.inl ⟨c_, rfl, rfl⟩)), (fun c_ => (Or.inr ⟨c_, rfl, rfl⟩))⟩))
        rcases q56 with ⟨c_, rfl, hm_⟩ | ⟨c_, rfl, hm_⟩
        · replace h := h.1 c_ m55 hm_
          refine ch_istore (i := 7) d_l_law_743 (Nat.le_of_ble_eq_true rfl) (ls' := [some (.inr (11, 0, 0)), some (.inr (0, 0, 0)), some (.inr (9, 0, 0)), some (.inr (10, 0, 1)), some (.inr (10, 0, 2)), some (.inl (.int x5)), some (.inl (.int 0)), some (.inl (.int (if 0 = 0 then Y_53 1 (Int32.toNatClampNeg ((ch_scr g).2.2 (Int32.toNatClampNeg (x5 + 1)))) else Y_53 2 (Int32.toNatClampNeg ((ch_scr g).2.2 (Int32.toNatClampNeg (x5 + 1))))))), o8, o9]) rfl ?_
          refine ch_aload_n (i := 2) d_l_law_745 rfl rfl ?_
          refine ch_callV (as := []) d_l_law_746 lk_l_129 mi_m_thrown me_m_thrown rfl rfl rfl (ch_hR hR (Nat.le_of_ble_eq_true rfl)) (Nat.le_of_ble_eq_true rfl) (ch_rc1 (k := k) (a := 1) (b := 0) hcs (Nat.le_of_ble_eq_true rfl)) (ch_mono (ch_Ki (fun r58 m59 q60 => ?_)) (s_m_thrown g (fun (r_ : Int32) (m_ : ch_M) => ((m55 (9, 0, 0) 19) = r_ ∧ m55 = m_))  m55 ⟨rfl, rfl⟩))
          obtain ⟨rfl, rfl⟩ := q60
          replace h := h
          refine ch_iload d_l_law_749 rfl ?_
          refine ch_icmp_eq (tgt := 756) d_l_law_751 (by decide) (fun c => ?_) (fun c => ?_)
          · replace h := h.1 c
            refine ch_iload d_l_law_756 rfl ?_
            refine ch_if_ne (tgt := 773) d_l_law_758 (by decide) (fun c => absurd c (by decide)) (fun _ => ?_)
            refine ch_aload_n (i := 3) d_l_law_761 rfl rfl ?_
            refine ch_iconst (v := 0) d_l_law_762 (by decide) ?_
            refine ch_lald (n := 1) d_l_law_763 (by decide) rfl (vp_in_nI (n := 0) (by decide) (by decide)) ?_
            refine ch_iload d_l_law_764 rfl ?_
            refine ch_i2l d_l_law_766 ?_
            refine ch_lcmp d_l_law_767 ?_
            refine ch_if_eq (tgt := 773) d_l_law_768 (by decide) (fun c => ?_) (fun c => ?_)
            · replace h := h.1 c
              refine ch_goto (tgt := 2096) d_l_law_773 (by decide) ?_
              exact h
            · replace h := h.2 c
              refine ch_iconst (v := 0) d_l_law_771 (by decide) ?_
              exact h
          · replace h := h.2 c
            refine ch_iconst (v := 0) d_l_law_754 (by decide) ?_
            exact h
        · replace h := h.2 c_ m55 hm_
          refine ch_istore (i := 7) d_l_law_743 (Nat.le_of_ble_eq_true rfl) (ls' := [some (.inr (11, 0, 0)), some (.inr (0, 0, 0)), some (.inr (9, 0, 0)), some (.inr (10, 0, 1)), some (.inr (10, 0, 2)), some (.inl (.int x5)), some (.inl (.int 0)), some (.inl (.int 0)), o8, o9]) rfl ?_
          refine ch_aload_n (i := 2) d_l_law_745 rfl rfl ?_
          refine ch_callV (as := []) d_l_law_746 lk_l_129 mi_m_thrown me_m_thrown rfl rfl rfl (ch_hR hR (Nat.le_of_ble_eq_true rfl)) (Nat.le_of_ble_eq_true rfl) (ch_rc1 (k := k) (a := 1) (b := 0) hcs (Nat.le_of_ble_eq_true rfl)) (ch_mono (ch_Ki (fun r61 m62 q63 => ?_)) (s_m_thrown g (fun (r_ : Int32) (m_ : ch_M) => ((m55 (9, 0, 0) 19) = r_ ∧ m55 = m_))  m55 ⟨rfl, rfl⟩))
          obtain ⟨rfl, rfl⟩ := q63
          replace h := h
          refine ch_iload d_l_law_749 rfl ?_
          refine ch_icmp_eq (tgt := 756) d_l_law_751 (by decide) (fun c => ?_) (fun c => ?_)
          · replace h := h.1 c
            refine ch_iload d_l_law_756 rfl ?_
            refine ch_if_ne (tgt := 773) d_l_law_758 (by decide) (fun c => absurd c (by decide)) (fun _ => ?_)
            refine ch_aload_n (i := 3) d_l_law_761 rfl rfl ?_
            refine ch_iconst (v := 0) d_l_law_762 (by decide) ?_
            refine ch_lald (n := 1) d_l_law_763 (by decide) rfl (vp_in_nI (n := 0) (by decide) (by decide)) ?_
            refine ch_iload d_l_law_764 rfl ?_
            refine ch_i2l d_l_law_766 ?_
            refine ch_lcmp d_l_law_767 ?_
            refine ch_if_eq (tgt := 773) d_l_law_768 (by decide) (fun c => ?_) (fun c => ?_)
            · replace h := h.1 c
              refine ch_goto (tgt := 2096) d_l_law_773 (by decide) ?_
              exact h
            · replace h := h.2 c
              refine ch_iconst (v := 0) d_l_law_771 (by decide) ?_
              exact h
          · replace h := h.2 c
            refine ch_iconst (v := 0) d_l_law_754 (by decide) ?_
            exact h
      · replace h := h.2 c
        refine ch_iconst (v := 1) d_l_law_735 (by decide) ?_
        refine ch_goto (tgt := 740) d_l_law_736 (by decide) ?_
        obtain ⟨Y_64, h⟩ := h
        have b68 := h.1
        replace h := h.2
        refine ch_callV (as := [.inl (.int ((ch_scr g).2.2 (Int32.toNatClampNeg (x5 + 1)))), .inl (.int 1)]) d_l_law_740 lk_l_159 mi_m_squareOf me_m_squareOf rfl rfl rfl (ch_hR hR (Nat.le_of_ble_eq_true rfl)) (Nat.le_of_ble_eq_true rfl) (ch_rc1 (k := k) (a := 1) (b := 0) hcs (Nat.le_of_ble_eq_true rfl)) (ch_mono (ch_Ki (fun r65 m66 q67 => ?_)) (s_m_squareOf g (fun (r_ : Int32) (m_ : ch_M) => ((0 ≤ ((ch_scr g).2.2 (Int32.toNatClampNeg (x5 + 1))) ∧ ((ch_scr g).2.2 (Int32.toNatClampNeg (x5 + 1))) ≤ 11) ∧ (if 1 = 0 then Y_64 1 (Int32.toNatClampNeg ((ch_scr g).2.2 (Int32.toNatClampNeg (x5 + 1)))) else Y_64 2 (Int32.toNatClampNeg ((ch_scr g).2.2 (Int32.toNatClampNeg (x5 + 1))))) = r_ ∧ m_ = ch_wr m51 (9, 0, 0) 19 0) ∨ ((¬ (0 ≤ ((ch_scr g).2.2 (Int32.toNatClampNeg (x5 + 1))) ∧ ((ch_scr g).2.2 (Int32.toNatClampNeg (x5 + 1))) ≤ 11)) ∧ 0 = r_ ∧ m_ = ch_wr m51 (9, 0, 0) 19 1)) (Y_64) (((ch_scr g).2.2 (Int32.toNatClampNeg (x5 + 1)))) (1) m51 ⟨b68, (fun c_ => (Or.inl ⟨c_, rfl, rfl⟩)), (fun c_ => (Or.inr ⟨c_, rfl, rfl⟩))⟩))
        rcases q67 with ⟨c_, rfl, hm_⟩ | ⟨c_, rfl, hm_⟩
        · replace h := h.1 c_ m66 hm_
          refine ch_istore (i := 7) d_l_law_743 (Nat.le_of_ble_eq_true rfl) (ls' := [some (.inr (11, 0, 0)), some (.inr (0, 0, 0)), some (.inr (9, 0, 0)), some (.inr (10, 0, 1)), some (.inr (10, 0, 2)), some (.inl (.int x5)), some (.inl (.int 0)), some (.inl (.int (if 1 = 0 then Y_64 1 (Int32.toNatClampNeg ((ch_scr g).2.2 (Int32.toNatClampNeg (x5 + 1)))) else Y_64 2 (Int32.toNatClampNeg ((ch_scr g).2.2 (Int32.toNatClampNeg (x5 + 1))))))), o8, o9]) rfl ?_
          refine ch_aload_n (i := 2) d_l_law_745 rfl rfl ?_
          refine ch_callV (as := []) d_l_law_746 lk_l_129 mi_m_thrown me_m_thrown rfl rfl rfl (ch_hR hR (Nat.le_of_ble_eq_true rfl)) (Nat.le_of_ble_eq_true rfl) (ch_rc1 (k := k) (a := 1) (b := 0) hcs (Nat.le_of_ble_eq_true rfl)) (ch_mono (ch_Ki (fun r69 m70 q71 => ?_)) (s_m_thrown g (fun (r_ : Int32) (m_ : ch_M) => ((m66 (9, 0, 0) 19) = r_ ∧ m66 = m_))  m66 ⟨rfl, rfl⟩))
          obtain ⟨rfl, rfl⟩ := q71
          replace h := h
          refine ch_iload d_l_law_749 rfl ?_
          refine ch_icmp_eq (tgt := 756) d_l_law_751 (by decide) (fun c => ?_) (fun c => ?_)
          · replace h := h.1 c
            refine ch_iload d_l_law_756 rfl ?_
            refine ch_if_ne (tgt := 773) d_l_law_758 (by decide) (fun c => absurd c (by decide)) (fun _ => ?_)
            refine ch_aload_n (i := 3) d_l_law_761 rfl rfl ?_
            refine ch_iconst (v := 0) d_l_law_762 (by decide) ?_
            refine ch_lald (n := 1) d_l_law_763 (by decide) rfl (vp_in_nI (n := 0) (by decide) (by decide)) ?_
            refine ch_iload d_l_law_764 rfl ?_
            refine ch_i2l d_l_law_766 ?_
            refine ch_lcmp d_l_law_767 ?_
            refine ch_if_eq (tgt := 773) d_l_law_768 (by decide) (fun c => ?_) (fun c => ?_)
            · replace h := h.1 c
              refine ch_goto (tgt := 2096) d_l_law_773 (by decide) ?_
              exact h
            · replace h := h.2 c
              refine ch_iconst (v := 0) d_l_law_771 (by decide) ?_
              exact h
          · replace h := h.2 c
            refine ch_iconst (v := 0) d_l_law_754 (by decide) ?_
            exact h
        · replace h := h.2 c_ m66 hm_
          refine ch_istore (i := 7) d_l_law_743 (Nat.le_of_ble_eq_true rfl) (ls' := [some (.inr (11, 0, 0)), some (.inr (0, 0, 0)), some (.inr (9, 0, 0)), some (.inr (10, 0, 1)), some (.inr (10, 0, 2)), some (.inl (.int x5)), some (.inl (.int 0)), some (.inl (.int 0)), o8, o9]) rfl ?_
          refine ch_aload_n (i := 2) d_l_law_745 rfl rfl ?_
          refine ch_callV (as := []) d_l_law_746 lk_l_129 mi_m_thrown me_m_thrown rfl rfl rfl (ch_hR hR (Nat.le_of_ble_eq_true rfl)) (Nat.le_of_ble_eq_true rfl) (ch_rc1 (k := k) (a := 1) (b := 0) hcs (Nat.le_of_ble_eq_true rfl)) (ch_mono (ch_Ki (fun r72 m73 q74 => ?_)) (s_m_thrown g (fun (r_ : Int32) (m_ : ch_M) => ((m66 (9, 0, 0) 19) = r_ ∧ m66 = m_))  m66 ⟨rfl, rfl⟩))
          obtain ⟨rfl, rfl⟩ := q74
          replace h := h
          refine ch_iload d_l_law_749 rfl ?_
          refine ch_icmp_eq (tgt := 756) d_l_law_751 (by decide) (fun c => ?_) (fun c => ?_)
          · replace h := h.1 c
            refine ch_iload d_l_law_756 rfl ?_
            refine ch_if_ne (tgt := 773) d_l_law_758 (by decide) (fun c => absurd c (by decide)) (fun _ => ?_)
            refine ch_aload_n (i := 3) d_l_law_761 rfl rfl ?_
            refine ch_iconst (v := 0) d_l_law_762 (by decide) ?_
            refine ch_lald (n := 1) d_l_law_763 (by decide) rfl (vp_in_nI (n := 0) (by decide) (by decide)) ?_
            refine ch_iload d_l_law_764 rfl ?_
            refine ch_i2l d_l_law_766 ?_
            refine ch_lcmp d_l_law_767 ?_
            refine ch_if_eq (tgt := 773) d_l_law_768 (by decide) (fun c => ?_) (fun c => ?_)
            · replace h := h.1 c
              refine ch_goto (tgt := 2096) d_l_law_773 (by decide) ?_
              exact h
            · replace h := h.2 c
              refine ch_iconst (v := 0) d_l_law_771 (by decide) ?_
              exact h
          · replace h := h.2 c
            refine ch_iconst (v := 0) d_l_law_754 (by decide) ?_
            exact h
    · replace h := h.2 c_
      refine ch_istore (i := 6) d_l_law_717 (Nat.le_of_ble_eq_true rfl) (ls' := [some (.inr (11, 0, 0)), some (.inr (0, 0, 0)), some (.inr (9, 0, 0)), some (.inr (10, 0, 1)), some (.inr (10, 0, 2)), some (.inl (.int x5)), some (.inl (.int 1)), o7, o8, o9]) rfl ?_
      refine ch_aload_n (i := 2) d_l_law_719 rfl rfl ?_
      refine ch_aload_n (i := 0) d_l_law_720 rfl rfl ?_
      refine ch_iload d_l_law_721 rfl ?_
      refine ch_iconst (v := 1) d_l_law_723 (by decide) ?_
      refine ch_iadd d_l_law_724 ?_
      refine ch_sld d_l_law_725 b1 ?_
      refine ch_aload_n (i := 0) d_l_law_726 rfl rfl ?_
      refine ch_iload d_l_law_727 rfl ?_
      refine ch_iconst (v := 2) d_l_law_729 (by decide) ?_
      refine ch_iadd d_l_law_730 ?_
      refine ch_sld d_l_law_731 b2 ?_
      refine ch_if_eq (tgt := 739) d_l_law_732 (by decide) (fun c => ?_) (fun c => ?_)
      · replace h := h.1 c
        refine ch_iconst (v := 0) d_l_law_739 (by decide) ?_
        obtain ⟨Y_75, h⟩ := h
        have b79 := h.1
        replace h := h.2
        refine ch_callV (as := [.inl (.int ((ch_scr g).2.2 (Int32.toNatClampNeg (x5 + 1)))), .inl (.int 0)]) d_l_law_740 lk_l_159 mi_m_squareOf me_m_squareOf rfl rfl rfl (ch_hR hR (Nat.le_of_ble_eq_true rfl)) (Nat.le_of_ble_eq_true rfl) (ch_rc1 (k := k) (a := 1) (b := 0) hcs (Nat.le_of_ble_eq_true rfl)) (ch_mono (ch_Ki (fun r76 m77 q78 => ?_)) (s_m_squareOf g (fun (r_ : Int32) (m_ : ch_M) => ((0 ≤ ((ch_scr g).2.2 (Int32.toNatClampNeg (x5 + 1))) ∧ ((ch_scr g).2.2 (Int32.toNatClampNeg (x5 + 1))) ≤ 11) ∧ (if 0 = 0 then Y_75 1 (Int32.toNatClampNeg ((ch_scr g).2.2 (Int32.toNatClampNeg (x5 + 1)))) else Y_75 2 (Int32.toNatClampNeg ((ch_scr g).2.2 (Int32.toNatClampNeg (x5 + 1))))) = r_ ∧ m_ = ch_wr m (9, 0, 0) 19 0) ∨ ((¬ (0 ≤ ((ch_scr g).2.2 (Int32.toNatClampNeg (x5 + 1))) ∧ ((ch_scr g).2.2 (Int32.toNatClampNeg (x5 + 1))) ≤ 11)) ∧ 0 = r_ ∧ m_ = ch_wr m (9, 0, 0) 19 1)) (Y_75) (((ch_scr g).2.2 (Int32.toNatClampNeg (x5 + 1)))) (0) m ⟨b79, (fun c_ => (Or.inl ⟨c_, rfl, rfl⟩)), (fun c_ => (Or.inr ⟨c_, rfl, rfl⟩))⟩))
        rcases q78 with ⟨c_, rfl, hm_⟩ | ⟨c_, rfl, hm_⟩
        · replace h := h.1 c_ m77 hm_
          refine ch_istore (i := 7) d_l_law_743 (Nat.le_of_ble_eq_true rfl) (ls' := [some (.inr (11, 0, 0)), some (.inr (0, 0, 0)), some (.inr (9, 0, 0)), some (.inr (10, 0, 1)), some (.inr (10, 0, 2)), some (.inl (.int x5)), some (.inl (.int 1)), some (.inl (.int (if 0 = 0 then Y_75 1 (Int32.toNatClampNeg ((ch_scr g).2.2 (Int32.toNatClampNeg (x5 + 1)))) else Y_75 2 (Int32.toNatClampNeg ((ch_scr g).2.2 (Int32.toNatClampNeg (x5 + 1))))))), o8, o9]) rfl ?_
          refine ch_aload_n (i := 2) d_l_law_745 rfl rfl ?_
          refine ch_callV (as := []) d_l_law_746 lk_l_129 mi_m_thrown me_m_thrown rfl rfl rfl (ch_hR hR (Nat.le_of_ble_eq_true rfl)) (Nat.le_of_ble_eq_true rfl) (ch_rc1 (k := k) (a := 1) (b := 0) hcs (Nat.le_of_ble_eq_true rfl)) (ch_mono (ch_Ki (fun r80 m81 q82 => ?_)) (s_m_thrown g (fun (r_ : Int32) (m_ : ch_M) => ((m77 (9, 0, 0) 19) = r_ ∧ m77 = m_))  m77 ⟨rfl, rfl⟩))
          obtain ⟨rfl, rfl⟩ := q82
          replace h := h
          refine ch_iload d_l_law_749 rfl ?_
          refine ch_icmp_eq (tgt := 756) d_l_law_751 (by decide) (fun c => ?_) (fun c => ?_)
          · replace h := h.1 c
            refine ch_iload d_l_law_756 rfl ?_
            refine ch_if_ne (tgt := 773) d_l_law_758 (by decide) (fun _ => ?_) (fun c => absurd c (by decide))
            refine ch_goto (tgt := 2096) d_l_law_773 (by decide) ?_
            exact h
          · replace h := h.2 c
            refine ch_iconst (v := 0) d_l_law_754 (by decide) ?_
            exact h
        · replace h := h.2 c_ m77 hm_
          refine ch_istore (i := 7) d_l_law_743 (Nat.le_of_ble_eq_true rfl) (ls' := [some (.inr (11, 0, 0)), some (.inr (0, 0, 0)), some (.inr (9, 0, 0)), some (.inr (10, 0, 1)), some (.inr (10, 0, 2)), some (.inl (.int x5)), some (.inl (.int 1)), some (.inl (.int 0)), o8, o9]) rfl ?_
          refine ch_aload_n (i := 2) d_l_law_745 rfl rfl ?_
          refine ch_callV (as := []) d_l_law_746 lk_l_129 mi_m_thrown me_m_thrown rfl rfl rfl (ch_hR hR (Nat.le_of_ble_eq_true rfl)) (Nat.le_of_ble_eq_true rfl) (ch_rc1 (k := k) (a := 1) (b := 0) hcs (Nat.le_of_ble_eq_true rfl)) (ch_mono (ch_Ki (fun r83 m84 q85 => ?_)) (s_m_thrown g (fun (r_ : Int32) (m_ : ch_M) => ((m77 (9, 0, 0) 19) = r_ ∧ m77 = m_))  m77 ⟨rfl, rfl⟩))
          obtain ⟨rfl, rfl⟩ := q85
          replace h := h
          refine ch_iload d_l_law_749 rfl ?_
          refine ch_icmp_eq (tgt := 756) d_l_law_751 (by decide) (fun c => ?_) (fun c => ?_)
          · replace h := h.1 c
            refine ch_iload d_l_law_756 rfl ?_
            refine ch_if_ne (tgt := 773) d_l_law_758 (by decide) (fun _ => ?_) (fun c => absurd c (by decide))
            refine ch_goto (tgt := 2096) d_l_law_773 (by decide) ?_
            exact h
          · replace h := h.2 c
            refine ch_iconst (v := 0) d_l_law_754 (by decide) ?_
            exact h
      · replace h := h.2 c
        refine ch_iconst (v := 1) d_l_law_735 (by decide) ?_
        refine ch_goto (tgt := 740) d_l_law_736 (by decide) ?_
        obtain ⟨Y_86, h⟩ := h
        have b90 := h.1
        replace h := h.2
        refine ch_callV (as := [.inl (.int ((ch_scr g).2.2 (Int32.toNatClampNeg (x5 + 1)))), .inl (.int 1)]) d_l_law_740 lk_l_159 mi_m_squareOf me_m_squareOf rfl rfl rfl (ch_hR hR (Nat.le_of_ble_eq_true rfl)) (Nat.le_of_ble_eq_true rfl) (ch_rc1 (k := k) (a := 1) (b := 0) hcs (Nat.le_of_ble_eq_true rfl)) (ch_mono (ch_Ki (fun r87 m88 q89 => ?_)) (s_m_squareOf g (fun (r_ : Int32) (m_ : ch_M) => ((0 ≤ ((ch_scr g).2.2 (Int32.toNatClampNeg (x5 + 1))) ∧ ((ch_scr g).2.2 (Int32.toNatClampNeg (x5 + 1))) ≤ 11) ∧ (if 1 = 0 then Y_86 1 (Int32.toNatClampNeg ((ch_scr g).2.2 (Int32.toNatClampNeg (x5 + 1)))) else Y_86 2 (Int32.toNatClampNeg ((ch_scr g).2.2 (Int32.toNatClampNeg (x5 + 1))))) = r_ ∧ m_ = ch_wr m (9, 0, 0) 19 0) ∨ ((¬ (0 ≤ ((ch_scr g).2.2 (Int32.toNatClampNeg (x5 + 1))) ∧ ((ch_scr g).2.2 (Int32.toNatClampNeg (x5 + 1))) ≤ 11)) ∧ 0 = r_ ∧ m_ = ch_wr m (9, 0, 0) 19 1)) (Y_86) (((ch_scr g).2.2 (Int32.toNatClampNeg (x5 + 1)))) (1) m ⟨b90, (fun c_ => (Or.inl ⟨c_, rfl, rfl⟩)), (fun c_ => (Or.inr ⟨c_, rfl, rfl⟩))⟩))
        rcases q89 with ⟨c_, rfl, hm_⟩ | ⟨c_, rfl, hm_⟩
        · replace h := h.1 c_ m88 hm_
          refine ch_istore (i := 7) d_l_law_743 (Nat.le_of_ble_eq_true rfl) (ls' := [some (.inr (11, 0, 0)), some (.inr (0, 0, 0)), some (.inr (9, 0, 0)), some (.inr (10, 0, 1)), some (.inr (10, 0, 2)), some (.inl (.int x5)), some (.inl (.int 1)), some (.inl (.int (if 1 = 0 then Y_86 1 (Int32.toNatClampNeg ((ch_scr g).2.2 (Int32.toNatClampNeg (x5 + 1)))) else Y_86 2 (Int32.toNatClampNeg ((ch_scr g).2.2 (Int32.toNatClampNeg (x5 + 1))))))), o8, o9]) rfl ?_
          refine ch_aload_n (i := 2) d_l_law_745 rfl rfl ?_
          refine ch_callV (as := []) d_l_law_746 lk_l_129 mi_m_thrown me_m_thrown rfl rfl rfl (ch_hR hR (Nat.le_of_ble_eq_true rfl)) (Nat.le_of_ble_eq_true rfl) (ch_rc1 (k := k) (a := 1) (b := 0) hcs (Nat.le_of_ble_eq_true rfl)) (ch_mono (ch_Ki (fun r91 m92 q93 => ?_)) (s_m_thrown g (fun (r_ : Int32) (m_ : ch_M) => ((m88 (9, 0, 0) 19) = r_ ∧ m88 = m_))  m88 ⟨rfl, rfl⟩))
          obtain ⟨rfl, rfl⟩ := q93
          replace h := h
          refine ch_iload d_l_law_749 rfl ?_
          refine ch_icmp_eq (tgt := 756) d_l_law_751 (by decide) (fun c => ?_) (fun c => ?_)
          · replace h := h.1 c
            refine ch_iload d_l_law_756 rfl ?_
            refine ch_if_ne (tgt := 773) d_l_law_758 (by decide) (fun _ => ?_) (fun c => absurd c (by decide))
            refine ch_goto (tgt := 2096) d_l_law_773 (by decide) ?_
            exact h
          · replace h := h.2 c
            refine ch_iconst (v := 0) d_l_law_754 (by decide) ?_
            exact h
        · replace h := h.2 c_ m88 hm_
          refine ch_istore (i := 7) d_l_law_743 (Nat.le_of_ble_eq_true rfl) (ls' := [some (.inr (11, 0, 0)), some (.inr (0, 0, 0)), some (.inr (9, 0, 0)), some (.inr (10, 0, 1)), some (.inr (10, 0, 2)), some (.inl (.int x5)), some (.inl (.int 1)), some (.inl (.int 0)), o8, o9]) rfl ?_
          refine ch_aload_n (i := 2) d_l_law_745 rfl rfl ?_
          refine ch_callV (as := []) d_l_law_746 lk_l_129 mi_m_thrown me_m_thrown rfl rfl rfl (ch_hR hR (Nat.le_of_ble_eq_true rfl)) (Nat.le_of_ble_eq_true rfl) (ch_rc1 (k := k) (a := 1) (b := 0) hcs (Nat.le_of_ble_eq_true rfl)) (ch_mono (ch_Ki (fun r94 m95 q96 => ?_)) (s_m_thrown g (fun (r_ : Int32) (m_ : ch_M) => ((m88 (9, 0, 0) 19) = r_ ∧ m88 = m_))  m88 ⟨rfl, rfl⟩))
          obtain ⟨rfl, rfl⟩ := q96
          replace h := h
          refine ch_iload d_l_law_749 rfl ?_
          refine ch_icmp_eq (tgt := 756) d_l_law_751 (by decide) (fun c => ?_) (fun c => ?_)
          · replace h := h.1 c
            refine ch_iload d_l_law_756 rfl ?_
            refine ch_if_ne (tgt := 773) d_l_law_758 (by decide) (fun _ => ?_) (fun c => absurd c (by decide))
            refine ch_goto (tgt := 2096) d_l_law_773 (by decide) ?_
            exact h
          · replace h := h.2 c
            refine ch_iconst (v := 0) d_l_law_754 (by decide) ?_
            exact h
set_option maxHeartbeats 1600000 in
theorem g_l_law_776 (g : ch_G) (R : Room) (E : ch_En) (k : Nat) (hR : ch_RR R 18) (hcs : k + 40 ≤ R.cells ∧ 6 * k + 240 ≤ R.slots) (x5 : Int32) (o6 : Option ch_V) (o7 : Option ch_V) (o8 : Option ch_V) (o9 : Option ch_V) (m : ch_M) (h : (vp_in (x5 + 1) (ch_scr g).2.1) ∧ (vp_in (x5 + 2) (ch_scr g).2.1) ∧ (vp_in (m (1, 0, 0) 8) 6) ∧ ((((0 ≤ ((ch_scr g).2.2 (Int32.toNatClampNeg (x5 + 1))) ∧ ((ch_scr g).2.2 (Int32.toNatClampNeg (x5 + 1))) < m (1, 0, 0) 8) ∧ 0 ≤ ((ch_scr g).2.2 (Int32.toNatClampNeg (x5 + 2))) ∧ ((ch_scr g).2.2 (Int32.toNatClampNeg (x5 + 2))) ≤ 6) → (∀ m4 : ch_M, m4 = (ch_wr m (10, 0, 1) 0 (x_coR (ch_ob m 1 0) ((ch_scr g).2.2 (Int32.toNatClampNeg (x5 + 1))) ((ch_scr g).2.2 (Int32.toNatClampNeg (x5 + 2))))) → (∃ Y_7 : ch_B, (m_rel Y_7 (m4 (9, 0, 1))) ∧ (vp_in (Y_7 0 8) 6) ∧ ((((0 ≤ ((ch_scr g).2.2 (Int32.toNatClampNeg (x5 + 1))) ∧ ((ch_scr g).2.2 (Int32.toNatClampNeg (x5 + 1))) < Y_7 0 8) ∧ 0 ≤ ((ch_scr g).2.2 (Int32.toNatClampNeg (x5 + 2))) ∧ ((ch_scr g).2.2 (Int32.toNatClampNeg (x5 + 2))) ≤ 6) → (∀ m9 : ch_M, m9 = ch_wr m4 (9, 0, 0) 19 0 → ((((m9 (9, 0, 0) 19) = 0 → (((lg_cmp ((m9 (10, 0, 1) (0))).toInt64 ((x_coR Y_7 ((ch_scr g).2.2 (Int32.toNatClampNeg (x5 + 1))) ((ch_scr g).2.2 (Int32.toNatClampNeg (x5 + 2))))).toInt64) = 0 → ch_J g m_l_law R E 2096 [some (.inr (11, 0, 0)), some (.inr (0, 0, 0)), some (.inr (9, 0, 0)), some (.inr (10, 0, 1)), some (.inr (10, 0, 2)), some (.inl (.int x5)), some (.inl (.int 0)), some (.inl (.int (x_coR Y_7 ((ch_scr g).2.2 (Int32.toNatClampNeg (x5 + 1))) ((ch_scr g).2.2 (Int32.toNatClampNeg (x5 + 2)))))), o8, o9] [] m9 (k + 2)) ∧ (¬ (lg_cmp ((m9 (10, 0, 1) (0))).toInt64 ((x_coR Y_7 ((ch_scr g).2.2 (Int32.toNatClampNeg (x5 + 1))) ((ch_scr g).2.2 (Int32.toNatClampNeg (x5 + 2))))).toInt64) = 0 → ch_J g m_l_law R E 840 [some (.inr (11, 0, 0)), some (.inr (0, 0, 0)), some (.inr (9, 0, 0)), some (.inr (10, 0, 1)), some (.inr (10, 0, 2)), some (.inl (.int x5)), some (.inl (.int 0)), some (.inl (.int (x_coR Y_7 ((ch_scr g).2.2 (Int32.toNatClampNeg (x5 + 1))) ((ch_scr g).2.2 (Int32.toNatClampNeg (x5 + 2)))))), o8, o9] [.inl (.int 0)] m9 (k + 2)))) ∧ (¬ (m9 (9, 0, 0) 19) = 0 → ch_J g m_l_law R E 823 [some (.inr (11, 0, 0)), some (.inr (0, 0, 0)), some (.inr (9, 0, 0)), some (.inr (10, 0, 1)), some (.inr (10, 0, 2)), some (.inl (.int x5)), some (.inl (.int 0)), some (.inl (.int (x_coR Y_7 ((ch_scr g).2.2 (Int32.toNatClampNeg (x5 + 1))) ((ch_scr g).2.2 (Int32.toNatClampNeg (x5 + 2)))))), o8, o9] [.inl (.int 0)] m9 (k + 2)))))) ∧ ((¬ (0 ≤ ((ch_scr g).2.2 (Int32.toNatClampNeg (x5 + 1))) ∧ ((ch_scr g).2.2 (Int32.toNatClampNeg (x5 + 1))) < Y_7 0 8)) → (∀ m9 : ch_M, m9 = ch_wr m4 (9, 0, 0) 19 1 → ((((m9 (9, 0, 0) 19) = 0 → (((lg_cmp ((m9 (10, 0, 1) (0))).toInt64 (0).toInt64) = 0 → ch_J g m_l_law R E 2096 [some (.inr (11, 0, 0)), some (.inr (0, 0, 0)), some (.inr (9, 0, 0)), some (.inr (10, 0, 1)), some (.inr (10, 0, 2)), some (.inl (.int x5)), some (.inl (.int 0)), some (.inl (.int 0)), o8, o9] [] m9 (k + 2)) ∧ (¬ (lg_cmp ((m9 (10, 0, 1) (0))).toInt64 (0).toInt64) = 0 → ch_J g m_l_law R E 840 [some (.inr (11, 0, 0)), some (.inr (0, 0, 0)), some (.inr (9, 0, 0)), some (.inr (10, 0, 1)), some (.inr (10, 0, 2)), some (.inl (.int x5)), some (.inl (.int 0)), some (.inl (.int 0)), o8, o9] [.inl (.int 0)] m9 (k + 2)))) ∧ (¬ (m9 (9, 0, 0) 19) = 0 → ch_J g m_l_law R E 823 [some (.inr (11, 0, 0)), some (.inr (0, 0, 0)), some (.inr (9, 0, 0)), some (.inr (10, 0, 1)), some (.inr (10, 0, 2)), some (.inl (.int x5)), some (.inl (.int 0)), some (.inl (.int 0)), o8, o9] [.inl (.int 0)] m9 (k + 2)))))) ∧ (((0 ≤ ((ch_scr g).2.2 (Int32.toNatClampNeg (x5 + 1))) ∧ ((ch_scr g).2.2 (Int32.toNatClampNeg (x5 + 1))) < Y_7 0 8) ∧ ¬ (0 ≤ ((ch_scr g).2.2 (Int32.toNatClampNeg (x5 + 2))) ∧ ((ch_scr g).2.2 (Int32.toNatClampNeg (x5 + 2))) ≤ 6)) → (∀ m9 : ch_M, m9 = ch_wr m4 (9, 0, 0) 19 2 → ((((m9 (9, 0, 0) 19) = 0 → (((lg_cmp ((m9 (10, 0, 1) (0))).toInt64 (0).toInt64) = 0 → ch_J g m_l_law R E 2096 [some (.inr (11, 0, 0)), some (.inr (0, 0, 0)), some (.inr (9, 0, 0)), some (.inr (10, 0, 1)), some (.inr (10, 0, 2)), some (.inl (.int x5)), some (.inl (.int 0)), some (.inl (.int 0)), o8, o9] [] m9 (k + 2)) ∧ (¬ (lg_cmp ((m9 (10, 0, 1) (0))).toInt64 (0).toInt64) = 0 → ch_J g m_l_law R E 840 [some (.inr (11, 0, 0)), some (.inr (0, 0, 0)), some (.inr (9, 0, 0)), some (.inr (10, 0, 1)), some (.inr (10, 0, 2)), some (.inl (.int x5)), some (.inl (.int 0)), some (.inl (.int 0)), o8, o9] [.inl (.int 0)] m9 (k + 2)))) ∧ (¬ (m9 (9, 0, 0) 19) = 0 → ch_J g m_l_law R E 823 [some (.inr (11, 0, 0)), some (.inr (0, 0, 0)), some (.inr (9, 0, 0)), some (.inr (10, 0, 1)), some (.inr (10, 0, 2)), some (.inl (.int x5)), some (.inl (.int 0)), some (.inl (.int 0)), o8, o9] [.inl (.int 0)] m9 (k + 2)))))))))) ∧ ((¬ (0 ≤ ((ch_scr g).2.2 (Int32.toNatClampNeg (x5 + 1))) ∧ ((ch_scr g).2.2 (Int32.toNatClampNeg (x5 + 1))) < m (1, 0, 0) 8)) → (∃ Y_22 : ch_B, (m_rel Y_22 (m (9, 0, 1))) ∧ (vp_in (Y_22 0 8) 6) ∧ ((((0 ≤ ((ch_scr g).2.2 (Int32.toNatClampNeg (x5 + 1))) ∧ ((ch_scr g).2.2 (Int32.toNatClampNeg (x5 + 1))) < Y_22 0 8) ∧ 0 ≤ ((ch_scr g).2.2 (Int32.toNatClampNeg (x5 + 2))) ∧ ((ch_scr g).2.2 (Int32.toNatClampNeg (x5 + 2))) ≤ 6) → (∀ m24 : ch_M, m24 = ch_wr m (9, 0, 0) 19 0 → ((((m24 (9, 0, 0) 19) = 1 → ch_J g m_l_law R E 2096 [some (.inr (11, 0, 0)), some (.inr (0, 0, 0)), some (.inr (9, 0, 0)), some (.inr (10, 0, 1)), some (.inr (10, 0, 2)), some (.inl (.int x5)), some (.inl (.int 1)), some (.inl (.int (x_coR Y_22 ((ch_scr g).2.2 (Int32.toNatClampNeg (x5 + 1))) ((ch_scr g).2.2 (Int32.toNatClampNeg (x5 + 2)))))), o8, o9] [] m24 (k + 2)) ∧ (¬ (m24 (9, 0, 0) 19) = 1 → ch_J g m_l_law R E 823 [some (.inr (11, 0, 0)), some (.inr (0, 0, 0)), some (.inr (9, 0, 0)), some (.inr (10, 0, 1)), some (.inr (10, 0, 2)), some (.inl (.int x5)), some (.inl (.int 1)), some (.inl (.int (x_coR Y_22 ((ch_scr g).2.2 (Int32.toNatClampNeg (x5 + 1))) ((ch_scr g).2.2 (Int32.toNatClampNeg (x5 + 2)))))), o8, o9] [.inl (.int 0)] m24 (k + 2)))))) ∧ ((¬ (0 ≤ ((ch_scr g).2.2 (Int32.toNatClampNeg (x5 + 1))) ∧ ((ch_scr g).2.2 (Int32.toNatClampNeg (x5 + 1))) < Y_22 0 8)) → (∀ m24 : ch_M, m24 = ch_wr m (9, 0, 0) 19 1 → ((((m24 (9, 0, 0) 19) = 1 → ch_J g m_l_law R E 2096 [some (.inr (11, 0, 0)), some (.inr (0, 0, 0)), some (.inr (9, 0, 0)), some (.inr (10, 0, 1)), some (.inr (10, 0, 2)), some (.inl (.int x5)), some (.inl (.int 1)), some (.inl (.int 0)), o8, o9] [] m24 (k + 2)) ∧ (¬ (m24 (9, 0, 0) 19) = 1 → ch_J g m_l_law R E 823 [some (.inr (11, 0, 0)), some (.inr (0, 0, 0)), some (.inr (9, 0, 0)), some (.inr (10, 0, 1)), some (.inr (10, 0, 2)), some (.inl (.int x5)), some (.inl (.int 1)), some (.inl (.int 0)), o8, o9] [.inl (.int 0)] m24 (k + 2)))))) ∧ (((0 ≤ ((ch_scr g).2.2 (Int32.toNatClampNeg (x5 + 1))) ∧ ((ch_scr g).2.2 (Int32.toNatClampNeg (x5 + 1))) < Y_22 0 8) ∧ ¬ (0 ≤ ((ch_scr g).2.2 (Int32.toNatClampNeg (x5 + 2))) ∧ ((ch_scr g).2.2 (Int32.toNatClampNeg (x5 + 2))) ≤ 6)) → (∀ m24 : ch_M, m24 = ch_wr m (9, 0, 0) 19 2 → ((((m24 (9, 0, 0) 19) = 1 → ch_J g m_l_law R E 2096 [some (.inr (11, 0, 0)), some (.inr (0, 0, 0)), some (.inr (9, 0, 0)), some (.inr (10, 0, 1)), some (.inr (10, 0, 2)), some (.inl (.int x5)), some (.inl (.int 1)), some (.inl (.int 0)), o8, o9] [] m24 (k + 2)) ∧ (¬ (m24 (9, 0, 0) 19) = 1 → ch_J g m_l_law R E 823 [some (.inr (11, 0, 0)), some (.inr (0, 0, 0)), some (.inr (9, 0, 0)), some (.inr (10, 0, 1)), some (.inr (10, 0, 2)), some (.inl (.int x5)), some (.inl (.int 1)), some (.inl (.int 0)), o8, o9] [.inl (.int 0)] m24 (k + 2))))))))) ∧ (((0 ≤ ((ch_scr g).2.2 (Int32.toNatClampNeg (x5 + 1))) ∧ ((ch_scr g).2.2 (Int32.toNatClampNeg (x5 + 1))) < m (1, 0, 0) 8) ∧ ¬ (0 ≤ ((ch_scr g).2.2 (Int32.toNatClampNeg (x5 + 2))) ∧ ((ch_scr g).2.2 (Int32.toNatClampNeg (x5 + 2))) ≤ 6)) → (∃ Y_37 : ch_B, (m_rel Y_37 (m (9, 0, 1))) ∧ (vp_in (Y_37 0 8) 6) ∧ ((((0 ≤ ((ch_scr g).2.2 (Int32.toNatClampNeg (x5 + 1))) ∧ ((ch_scr g).2.2 (Int32.toNatClampNeg (x5 + 1))) < Y_37 0 8) ∧ 0 ≤ ((ch_scr g).2.2 (Int32.toNatClampNeg (x5 + 2))) ∧ ((ch_scr g).2.2 (Int32.toNatClampNeg (x5 + 2))) ≤ 6) → (∀ m39 : ch_M, m39 = ch_wr m (9, 0, 0) 19 0 → ((((m39 (9, 0, 0) 19) = 2 → ch_J g m_l_law R E 2096 [some (.inr (11, 0, 0)), some (.inr (0, 0, 0)), some (.inr (9, 0, 0)), some (.inr (10, 0, 1)), some (.inr (10, 0, 2)), some (.inl (.int x5)), some (.inl (.int 2)), some (.inl (.int (x_coR Y_37 ((ch_scr g).2.2 (Int32.toNatClampNeg (x5 + 1))) ((ch_scr g).2.2 (Int32.toNatClampNeg (x5 + 2)))))), o8, o9] [] m39 (k + 2)) ∧ (¬ (m39 (9, 0, 0) 19) = 2 → ch_J g m_l_law R E 823 [some (.inr (11, 0, 0)), some (.inr (0, 0, 0)), some (.inr (9, 0, 0)), some (.inr (10, 0, 1)), some (.inr (10, 0, 2)), some (.inl (.int x5)), some (.inl (.int 2)), some (.inl (.int (x_coR Y_37 ((ch_scr g).2.2 (Int32.toNatClampNeg (x5 + 1))) ((ch_scr g).2.2 (Int32.toNatClampNeg (x5 + 2)))))), o8, o9] [.inl (.int 0)] m39 (k + 2)))))) ∧ ((¬ (0 ≤ ((ch_scr g).2.2 (Int32.toNatClampNeg (x5 + 1))) ∧ ((ch_scr g).2.2 (Int32.toNatClampNeg (x5 + 1))) < Y_37 0 8)) → (∀ m39 : ch_M, m39 = ch_wr m (9, 0, 0) 19 1 → ((((m39 (9, 0, 0) 19) = 2 → ch_J g m_l_law R E 2096 [some (.inr (11, 0, 0)), some (.inr (0, 0, 0)), some (.inr (9, 0, 0)), some (.inr (10, 0, 1)), some (.inr (10, 0, 2)), some (.inl (.int x5)), some (.inl (.int 2)), some (.inl (.int 0)), o8, o9] [] m39 (k + 2)) ∧ (¬ (m39 (9, 0, 0) 19) = 2 → ch_J g m_l_law R E 823 [some (.inr (11, 0, 0)), some (.inr (0, 0, 0)), some (.inr (9, 0, 0)), some (.inr (10, 0, 1)), some (.inr (10, 0, 2)), some (.inl (.int x5)), some (.inl (.int 2)), some (.inl (.int 0)), o8, o9] [.inl (.int 0)] m39 (k + 2)))))) ∧ (((0 ≤ ((ch_scr g).2.2 (Int32.toNatClampNeg (x5 + 1))) ∧ ((ch_scr g).2.2 (Int32.toNatClampNeg (x5 + 1))) < Y_37 0 8) ∧ ¬ (0 ≤ ((ch_scr g).2.2 (Int32.toNatClampNeg (x5 + 2))) ∧ ((ch_scr g).2.2 (Int32.toNatClampNeg (x5 + 2))) ≤ 6)) → (∀ m39 : ch_M, m39 = ch_wr m (9, 0, 0) 19 2 → ((((m39 (9, 0, 0) 19) = 2 → ch_J g m_l_law R E 2096 [some (.inr (11, 0, 0)), some (.inr (0, 0, 0)), some (.inr (9, 0, 0)), some (.inr (10, 0, 1)), some (.inr (10, 0, 2)), some (.inl (.int x5)), some (.inl (.int 2)), some (.inl (.int 0)), o8, o9] [] m39 (k + 2)) ∧ (¬ (m39 (9, 0, 0) 19) = 2 → ch_J g m_l_law R E 823 [some (.inr (11, 0, 0)), some (.inr (0, 0, 0)), some (.inr (9, 0, 0)), some (.inr (10, 0, 1)), some (.inr (10, 0, 2)), some (.inl (.int x5)), some (.inl (.int 2)), some (.inl (.int 0)), o8, o9] [.inl (.int 0)] m39 (k + 2))))))))))) : ch_J g m_l_law R E 776 [some (.inr (11, 0, 0)), some (.inr (0, 0, 0)), some (.inr (9, 0, 0)), some (.inr (10, 0, 1)), some (.inr (10, 0, 2)), some (.inl (.int x5)), o6, o7, o8, o9] [] m k := by
  refine ch_aload_n (i := 1) d_l_law_776 rfl rfl ?_
  refine ch_aload_n (i := 0) d_l_law_777 rfl rfl ?_
  refine ch_iload d_l_law_778 rfl ?_
  refine ch_iconst (v := 1) d_l_law_780 (by decide) ?_
  refine ch_iadd d_l_law_781 ?_
  have b1 := h.1
  replace h := h.2
  refine ch_sld d_l_law_782 b1 ?_
  refine ch_aload_n (i := 0) d_l_law_783 rfl rfl ?_
  refine ch_iload d_l_law_784 rfl ?_
  refine ch_iconst (v := 2) d_l_law_786 (by decide) ?_
  refine ch_iadd d_l_law_787 ?_
  have b2 := h.1
  replace h := h.2
  refine ch_sld d_l_law_788 b2 ?_
  refine ch_aload_n (i := 3) d_l_law_789 rfl rfl ?_
  have b6 := h.1
  replace h := h.2
  refine ch_callSX (as := [.inr (0, 0, 0), .inl (.int ((ch_scr g).2.2 (Int32.toNatClampNeg (x5 + 1)))), .inl (.int ((ch_scr g).2.2 (Int32.toNatClampNeg (x5 + 2)))), .inr (10, 0, 1)]) d_l_law_790 lk_l_160 ms_l_childOf rfl rfl (ch_hR hR (Nat.le_of_ble_eq_true rfl)) (Nat.le_of_ble_eq_true rfl) (ch_rc0 (k := k) (b := 2) hcs (Nat.le_of_ble_eq_true rfl)) (ch_mono (ch_Ki (fun r3 m4 q5 => ?_)) (s_l_childOf g (fun (r_ : Int32) (m_ : ch_M) => (((0 ≤ ((ch_scr g).2.2 (Int32.toNatClampNeg (x5 + 1))) ∧ ((ch_scr g).2.2 (Int32.toNatClampNeg (x5 + 1))) < m (1, 0, 0) 8) ∧ 0 ≤ ((ch_scr g).2.2 (Int32.toNatClampNeg (x5 + 2))) ∧ ((ch_scr g).2.2 (Int32.toNatClampNeg (x5 + 2))) ≤ 6) ∧ 0 = r_ ∧ m_ = (ch_wr m (10, 0, 1) 0 (x_coR (ch_ob m 1 0) ((ch_scr g).2.2 (Int32.toNatClampNeg (x5 + 1))) ((ch_scr g).2.2 (Int32.toNatClampNeg (x5 + 2)))))) ∨ ((¬ (0 ≤ ((ch_scr g).2.2 (Int32.toNatClampNeg (x5 + 1))) ∧ ((ch_scr g).2.2 (Int32.toNatClampNeg (x5 + 1))) < m (1, 0, 0) 8)) ∧ 1 = r_ ∧ m = m_) ∨ (((0 ≤ ((ch_scr g).2.2 (Int32.toNatClampNeg (x5 + 1))) ∧ ((ch_scr g).2.2 (Int32.toNatClampNeg (x5 + 1))) < m (1, 0, 0) 8) ∧ ¬ (0 ≤ ((ch_scr g).2.2 (Int32.toNatClampNeg (x5 + 2))) ∧ ((ch_scr g).2.2 (Int32.toNatClampNeg (x5 + 2))) ≤ 6)) ∧ 2 = r_ ∧ m = m_)) (((ch_scr g).2.2 (Int32.toNatClampNeg (x5 + 1)))) (((ch_scr g).2.2 (Int32.toNatClampNeg (x5 + 2)))) m ⟨b6, (fun c_ => (Or.inl ⟨c_, rfl, rfl⟩)), (fun c_ => (Or.inr (Or.inl ⟨c_, rfl, rfl⟩))), (fun c_ => (Or.inr (Or.inr ⟨c_, rfl, rfl⟩)))⟩))
  rcases q5 with ⟨c_, rfl, hm_⟩ | ⟨c_, rfl, rfl⟩ | ⟨c_, rfl, rfl⟩
  · replace h := h.1 c_ m4 hm_
    refine ch_istore (i := 6) d_l_law_793 (Nat.le_of_ble_eq_true rfl) (ls' := [some (.inr (11, 0, 0)), some (.inr (0, 0, 0)), some (.inr (9, 0, 0)), some (.inr (10, 0, 1)), some (.inr (10, 0, 2)), some (.inl (.int x5)), some (.inl (.int 0)), o7, o8, o9]) rfl ?_
    refine ch_aload_n (i := 2) d_l_law_795 rfl rfl ?_
    refine ch_aload_n (i := 0) d_l_law_796 rfl rfl ?_
    refine ch_iload d_l_law_797 rfl ?_
    refine ch_iconst (v := 1) d_l_law_799 (by decide) ?_
    refine ch_iadd d_l_law_800 ?_
    refine ch_sld d_l_law_801 b1 ?_
    refine ch_aload_n (i := 0) d_l_law_802 rfl rfl ?_
    refine ch_iload d_l_law_803 rfl ?_
    refine ch_iconst (v := 2) d_l_law_805 (by decide) ?_
    refine ch_iadd d_l_law_806 ?_
    refine ch_sld d_l_law_807 b2 ?_
    obtain ⟨Y_7, h⟩ := h
    have b11 := h.1
    replace h := h.2
    have b12 := h.1
    replace h := h.2
    refine ch_callV (as := [.inl (.int ((ch_scr g).2.2 (Int32.toNatClampNeg (x5 + 1)))), .inl (.int ((ch_scr g).2.2 (Int32.toNatClampNeg (x5 + 2))))]) d_l_law_808 lk_l_162 mi_m_childOf me_m_childOf rfl rfl rfl (ch_hR hR (Nat.le_of_ble_eq_true rfl)) (Nat.le_of_ble_eq_true rfl) (ch_rc1 (k := k) (a := 2) (b := 0) hcs (Nat.le_of_ble_eq_true rfl)) (ch_mono (ch_Ki (fun r8 m9 q10 => ?_)) (s_m_childOf g (fun (r_ : Int32) (m_ : ch_M) => (((0 ≤ ((ch_scr g).2.2 (Int32.toNatClampNeg (x5 + 1))) ∧ ((ch_scr g).2.2 (Int32.toNatClampNeg (x5 + 1))) < Y_7 0 8) ∧ 0 ≤ ((ch_scr g).2.2 (Int32.toNatClampNeg (x5 + 2))) ∧ ((ch_scr g).2.2 (Int32.toNatClampNeg (x5 + 2))) ≤ 6) ∧ (x_coR Y_7 ((ch_scr g).2.2 (Int32.toNatClampNeg (x5 + 1))) ((ch_scr g).2.2 (Int32.toNatClampNeg (x5 + 2)))) = r_ ∧ m_ = ch_wr m4 (9, 0, 0) 19 0) ∨ ((¬ (0 ≤ ((ch_scr g).2.2 (Int32.toNatClampNeg (x5 + 1))) ∧ ((ch_scr g).2.2 (Int32.toNatClampNeg (x5 + 1))) < Y_7 0 8)) ∧ 0 = r_ ∧ m_ = ch_wr m4 (9, 0, 0) 19 1) ∨ (((0 ≤ ((ch_scr g).2.2 (Int32.toNatClampNeg (x5 + 1))) ∧ ((ch_scr g).2.2 (Int32.toNatClampNeg (x5 + 1))) < Y_7 0 8) ∧ ¬ (0 ≤ ((ch_scr g).2.2 (Int32.toNatClampNeg (x5 + 2))) ∧ ((ch_scr g).2.2 (Int32.toNatClampNeg (x5 + 2))) ≤ 6)) ∧ 0 = r_ ∧ m_ = ch_wr m4 (9, 0, 0) 19 2)) (Y_7) (((ch_scr g).2.2 (Int32.toNatClampNeg (x5 + 1)))) (((ch_scr g).2.2 (Int32.toNatClampNeg (x5 + 2)))) m4 ⟨b11, b12, (fun c_ => (Or.inl ⟨c_, rfl, rfl⟩)), (fun c_ => (Or.inr (Or.inl ⟨c_, rfl, rfl⟩))), (fun c_ => (Or.inr (Or.inr ⟨c_, rfl, rfl⟩)))⟩))
    rcases q10 with ⟨c_, rfl, hm_⟩ | ⟨c_, rfl, hm_⟩ | ⟨c_, rfl, hm_⟩
    · replace h := h.1 c_ m9 hm_
      refine ch_istore (i := 7) d_l_law_811 (Nat.le_of_ble_eq_true rfl) (ls' := [some (.inr (11, 0, 0)), some (.inr (0, 0, 0)), some (.inr (9, 0, 0)), some (.inr (10, 0, 1)), some (.inr (10, 0, 2)), some (.inl (.int x5)), some (.inl (.int 0)), some (.inl (.int (x_coR Y_7 ((ch_scr g).2.2 (Int32.toNatClampNeg (x5 + 1))) ((ch_scr g).2.2 (Int32.toNatClampNeg (x5 + 2)))))), o8, o9]) rfl ?_
      refine ch_aload_n (i := 2) d_l_law_813 rfl rfl ?_
      refine ch_callV (as := []) d_l_law_814 lk_l_129 mi_m_thrown me_m_thrown rfl rfl rfl (ch_hR hR (Nat.le_of_ble_eq_true rfl)) (Nat.le_of_ble_eq_true rfl) (ch_rc1 (k := k) (a := 2) (b := 0) hcs (Nat.le_of_ble_eq_true rfl)) (ch_mono (ch_Ki (fun r13 m14 q15 => ?_)) (s_m_thrown g (fun (r_ : Int32) (m_ : ch_M) => ((m9 (9, 0, 0) 19) = r_ ∧ m9 = m_))  m9 ⟨rfl, rfl⟩))
      obtain ⟨rfl, rfl⟩ := q15
      replace h := h
      refine ch_iload d_l_law_817 rfl ?_
      refine ch_icmp_eq (tgt := 824) d_l_law_819 (by decide) (fun c => ?_) (fun c => ?_)
      · replace h := h.1 c
        refine ch_iload d_l_law_824 rfl ?_
        refine ch_if_ne (tgt := 841) d_l_law_826 (by decide) (fun c => absurd c (by decide)) (fun _ => ?_)
        refine ch_aload_n (i := 3) d_l_law_829 rfl rfl ?_
        refine ch_iconst (v := 0) d_l_law_830 (by decide) ?_
        refine ch_lald (n := 1) d_l_law_831 (by decide) rfl (vp_in_nI (n := 0) (by decide) (by decide)) ?_
        refine ch_iload d_l_law_832 rfl ?_
        refine ch_i2l d_l_law_834 ?_
        refine ch_lcmp d_l_law_835 ?_
        refine ch_if_eq (tgt := 841) d_l_law_836 (by decide) (fun c => ?_) (fun c => ?_)
        · replace h := h.1 c
          refine ch_goto (tgt := 2096) d_l_law_841 (by decide) ?_
          exact h
        · replace h := h.2 c
          refine ch_iconst (v := 0) d_l_law_839 (by decide) ?_
          exact h
      · replace h := h.2 c
        refine ch_iconst (v := 0) d_l_law_822 (by decide) ?_
        exact h
    · replace h := h.2.1 c_ m9 hm_
      refine ch_istore (i := 7) d_l_law_811 (Nat.le_of_ble_eq_true rfl) (ls' := [some (.inr (11, 0, 0)), some (.inr (0, 0, 0)), some (.inr (9, 0, 0)), some (.inr (10, 0, 1)), some (.inr (10, 0, 2)), some (.inl (.int x5)), some (.inl (.int 0)), some (.inl (.int 0)), o8, o9]) rfl ?_
      refine ch_aload_n (i := 2) d_l_law_813 rfl rfl ?_
      refine ch_callV (as := []) d_l_law_814 lk_l_129 mi_m_thrown me_m_thrown rfl rfl rfl (ch_hR hR (Nat.le_of_ble_eq_true rfl)) (Nat.le_of_ble_eq_true rfl) (ch_rc1 (k := k) (a := 2) (b := 0) hcs (Nat.le_of_ble_eq_true rfl)) (ch_mono (ch_Ki (fun r16 m17 q18 => ?_)) (s_m_thrown g (fun (r_ : Int32) (m_ : ch_M) => ((m9 (9, 0, 0) 19) = r_ ∧ m9 = m_))  m9 ⟨rfl, rfl⟩))
      obtain ⟨rfl, rfl⟩ := q18
      replace h := h
      refine ch_iload d_l_law_817 rfl ?_
      refine ch_icmp_eq (tgt := 824) d_l_law_819 (by decide) (fun c => ?_) (fun c => ?_)
      · replace h := h.1 c
        refine ch_iload d_l_law_824 rfl ?_
        refine ch_if_ne (tgt := 841) d_l_law_826 (by decide) (fun c => absurd c (by decide)) (fun _ => ?_)
        refine ch_aload_n (i := 3) d_l_law_829 rfl rfl ?_
        refine ch_iconst (v := 0) d_l_law_830 (by decide) ?_
        refine ch_lald (n := 1) d_l_law_831 (by decide) rfl (vp_in_nI (n := 0) (by decide) (by decide)) ?_
        refine ch_iload d_l_law_832 rfl ?_
        refine ch_i2l d_l_law_834 ?_
        refine ch_lcmp d_l_law_835 ?_
        refine ch_if_eq (tgt := 841) d_l_law_836 (by decide) (fun c => ?_) (fun c => ?_)
        · replace h := h.1 c
          refine ch_goto (tgt := 2096) d_l_law_841 (by decide) ?_
          exact h
        · replace h := h.2 c
          refine ch_iconst (v := 0) d_l_law_839 (by decide) ?_
          exact h
      · replace h := h.2 c
        refine ch_iconst (v := 0) d_l_law_822 (by decide) ?_
        exact h
    · replace h := h.2.2 c_ m9 hm_
      refine ch_istore (i := 7) d_l_law_811 (Nat.le_of_ble_eq_true rfl) (ls' := [some (.inr (11, 0, 0)), some (.inr (0, 0, 0)), some (.inr (9, 0, 0)), some (.inr (10, 0, 1)), some (.inr (10, 0, 2)), some (.inl (.int x5)), some (.inl (.int 0)), some (.inl (.int 0)), o8, o9]) rfl ?_
      refine ch_aload_n (i := 2) d_l_law_813 rfl rfl ?_
      refine ch_callV (as := []) d_l_law_814 lk_l_129 mi_m_thrown me_m_thrown rfl rfl rfl (ch_hR hR (Nat.le_of_ble_eq_true rfl)) (Nat.le_of_ble_eq_true rfl) (ch_rc1 (k := k) (a := 2) (b := 0) hcs (Nat.le_of_ble_eq_true rfl)) (ch_mono (ch_Ki (fun r19 m20 q21 => ?_)) (s_m_thrown g (fun (r_ : Int32) (m_ : ch_M) => ((m9 (9, 0, 0) 19) = r_ ∧ m9 = m_))  m9 ⟨rfl, rfl⟩))
      obtain ⟨rfl, rfl⟩ := q21
      replace h := h
      refine ch_iload d_l_law_817 rfl ?_
      refine ch_icmp_eq (tgt := 824) d_l_law_819 (by decide) (fun c => ?_) (fun c => ?_)
      · replace h := h.1 c
        refine ch_iload d_l_law_824 rfl ?_
        refine ch_if_ne (tgt := 841) d_l_law_826 (by decide) (fun c => absurd c (by decide)) (fun _ => ?_)
        refine ch_aload_n (i := 3) d_l_law_829 rfl rfl ?_
        refine ch_iconst (v := 0) d_l_law_830 (by decide) ?_
        refine ch_lald (n := 1) d_l_law_831 (by decide) rfl (vp_in_nI (n := 0) (by decide) (by decide)) ?_
        refine ch_iload d_l_law_832 rfl ?_
        refine ch_i2l d_l_law_834 ?_
        refine ch_lcmp d_l_law_835 ?_
        refine ch_if_eq (tgt := 841) d_l_law_836 (by decide) (fun c => ?_) (fun c => ?_)
        · replace h := h.1 c
          refine ch_goto (tgt := 2096) d_l_law_841 (by decide) ?_
          exact h
        · replace h := h.2 c
          refine ch_iconst (v := 0) d_l_law_839 (by decide) ?_
          exact h
      · replace h := h.2 c
        refine ch_iconst (v := 0) d_l_law_822 (by decide) ?_
        exact h
  · replace h := h.2.1 c_
    refine ch_istore (i := 6) d_l_law_793 (Nat.le_of_ble_eq_true rfl) (ls' := [some (.inr (11, 0, 0)), some (.inr (0, 0, 0)), some (.inr (9, 0, 0)), some (.inr (10, 0, 1)), some (.inr (10, 0, 2)), some (.inl (.int x5)), some (.inl (.int 1)), o7, o8, o9]) rfl ?_
    refine ch_aload_n (i := 2) d_l_law_795 rfl rfl ?_
    refine ch_aload_n (i := 0) d_l_law_796 rfl rfl ?_
    refine ch_iload d_l_law_797 rfl ?_
    refine ch_iconst (v := 1) d_l_law_799 (by decide) ?_
    refine ch_iadd d_l_law_800 ?_
    refine ch_sld d_l_law_801 b1 ?_
    refine ch_aload_n (i := 0) d_l_law_802 rfl rfl ?_
    refine ch_iload d_l_law_803 rfl ?_
    refine ch_iconst (v := 2) d_l_law_805 (by decide) ?_
    refine ch_iadd d_l_law_806 ?_
    refine ch_sld d_l_law_807 b2 ?_
    obtain ⟨Y_22, h⟩ := h
    have b26 := h.1
    replace h := h.2
    have b27 := h.1
    replace h := h.2
    refine ch_callV (as := [.inl (.int ((ch_scr g).2.2 (Int32.toNatClampNeg (x5 + 1)))), .inl (.int ((ch_scr g).2.2 (Int32.toNatClampNeg (x5 + 2))))]) d_l_law_808 lk_l_162 mi_m_childOf me_m_childOf rfl rfl rfl (ch_hR hR (Nat.le_of_ble_eq_true rfl)) (Nat.le_of_ble_eq_true rfl) (ch_rc1 (k := k) (a := 2) (b := 0) hcs (Nat.le_of_ble_eq_true rfl)) (ch_mono (ch_Ki (fun r23 m24 q25 => ?_)) (s_m_childOf g (fun (r_ : Int32) (m_ : ch_M) => (((0 ≤ ((ch_scr g).2.2 (Int32.toNatClampNeg (x5 + 1))) ∧ ((ch_scr g).2.2 (Int32.toNatClampNeg (x5 + 1))) < Y_22 0 8) ∧ 0 ≤ ((ch_scr g).2.2 (Int32.toNatClampNeg (x5 + 2))) ∧ ((ch_scr g).2.2 (Int32.toNatClampNeg (x5 + 2))) ≤ 6) ∧ (x_coR Y_22 ((ch_scr g).2.2 (Int32.toNatClampNeg (x5 + 1))) ((ch_scr g).2.2 (Int32.toNatClampNeg (x5 + 2)))) = r_ ∧ m_ = ch_wr m (9, 0, 0) 19 0) ∨ ((¬ (0 ≤ ((ch_scr g).2.2 (Int32.toNatClampNeg (x5 + 1))) ∧ ((ch_scr g).2.2 (Int32.toNatClampNeg (x5 + 1))) < Y_22 0 8)) ∧ 0 = r_ ∧ m_ = ch_wr m (9, 0, 0) 19 1) ∨ (((0 ≤ ((ch_scr g).2.2 (Int32.toNatClampNeg (x5 + 1))) ∧ ((ch_scr g).2.2 (Int32.toNatClampNeg (x5 + 1))) < Y_22 0 8) ∧ ¬ (0 ≤ ((ch_scr g).2.2 (Int32.toNatClampNeg (x5 + 2))) ∧ ((ch_scr g).2.2 (Int32.toNatClampNeg (x5 + 2))) ≤ 6)) ∧ 0 = r_ ∧ m_ = ch_wr m (9, 0, 0) 19 2)) (Y_22) (((ch_scr g).2.2 (Int32.toNatClampNeg (x5 + 1)))) (((ch_scr g).2.2 (Int32.toNatClampNeg (x5 + 2)))) m ⟨b26, b27, (fun c_ => (Or.inl ⟨c_, rfl, rfl⟩)), (fun c_ => (Or.inr (Or.inl ⟨c_, rfl, rfl⟩))), (fun c_ => (Or.inr (Or.inr ⟨c_, rfl, rfl⟩)))⟩))
    rcases q25 with ⟨c_, rfl, hm_⟩ | ⟨c_, rfl, hm_⟩ | ⟨c_, rfl, hm_⟩
    · replace h := h.1 c_ m24 hm_
      refine ch_istore (i := 7) d_l_law_811 (Nat.le_of_ble_eq_true rfl) (ls' := [some (.inr (11, 0, 0)), some (.inr (0, 0, 0)), some (.inr (9, 0, 0)), some (.inr (10, 0, 1)), some (.inr (10, 0, 2)), some (.inl (.int x5)), some (.inl (.int 1)), some (.inl (.int (x_coR Y_22 ((ch_scr g).2.2 (Int32.toNatClampNeg (x5 + 1))) ((ch_scr g).2.2 (Int32.toNatClampNeg (x5 + 2)))))), o8, o9]) rfl ?_
      refine ch_aload_n (i := 2) d_l_law_813 rfl rfl ?_
      refine ch_callV (as := []) d_l_law_814 lk_l_129 mi_m_thrown me_m_thrown rfl rfl rfl (ch_hR hR (Nat.le_of_ble_eq_true rfl)) (Nat.le_of_ble_eq_true rfl) (ch_rc1 (k := k) (a := 2) (b := 0) hcs (Nat.le_of_ble_eq_true rfl)) (ch_mono (ch_Ki (fun r28 m29 q30 => ?_)) (s_m_thrown g (fun (r_ : Int32) (m_ : ch_M) => ((m24 (9, 0, 0) 19) = r_ ∧ m24 = m_))  m24 ⟨rfl, rfl⟩))
      obtain ⟨rfl, rfl⟩ := q30
      replace h := h
      refine ch_iload d_l_law_817 rfl ?_
      refine ch_icmp_eq (tgt := 824) d_l_law_819 (by decide) (fun c => ?_) (fun c => ?_)
      · replace h := h.1 c
        refine ch_iload d_l_law_824 rfl ?_
        refine ch_if_ne (tgt := 841) d_l_law_826 (by decide) (fun _ => ?_) (fun c => absurd c (by decide))
        refine ch_goto (tgt := 2096) d_l_law_841 (by decide) ?_
        exact h
      · replace h := h.2 c
        refine ch_iconst (v := 0) d_l_law_822 (by decide) ?_
        exact h
    · replace h := h.2.1 c_ m24 hm_
      refine ch_istore (i := 7) d_l_law_811 (Nat.le_of_ble_eq_true rfl) (ls' := [some (.inr (11, 0, 0)), some (.inr (0, 0, 0)), some (.inr (9, 0, 0)), some (.inr (10, 0, 1)), some (.inr (10, 0, 2)), some (.inl (.int x5)), some (.inl (.int 1)), some (.inl (.int 0)), o8, o9]) rfl ?_
      refine ch_aload_n (i := 2) d_l_law_813 rfl rfl ?_
      refine ch_callV (as := []) d_l_law_814 lk_l_129 mi_m_thrown me_m_thrown rfl rfl rfl (ch_hR hR (Nat.le_of_ble_eq_true rfl)) (Nat.le_of_ble_eq_true rfl) (ch_rc1 (k := k) (a := 2) (b := 0) hcs (Nat.le_of_ble_eq_true rfl)) (ch_mono (ch_Ki (fun r31 m32 q33 => ?_)) (s_m_thrown g (fun (r_ : Int32) (m_ : ch_M) => ((m24 (9, 0, 0) 19) = r_ ∧ m24 = m_))  m24 ⟨rfl, rfl⟩))
      obtain ⟨rfl, rfl⟩ := q33
      replace h := h
      refine ch_iload d_l_law_817 rfl ?_
      refine ch_icmp_eq (tgt := 824) d_l_law_819 (by decide) (fun c => ?_) (fun c => ?_)
      · replace h := h.1 c
        refine ch_iload d_l_law_824 rfl ?_
        refine ch_if_ne (tgt := 841) d_l_law_826 (by decide) (fun _ => ?_) (fun c => absurd c (by decide))
        refine ch_goto (tgt := 2096) d_l_law_841 (by decide) ?_
        exact h
      · replace h := h.2 c
        refine ch_iconst (v := 0) d_l_law_822 (by decide) ?_
        exact h
    · replace h := h.2.2 c_ m24 hm_
      refine ch_istore (i := 7) d_l_law_811 (Nat.le_of_ble_eq_true rfl) (ls' := [some (.inr (11, 0, 0)), some (.inr (0, 0, 0)), some (.inr (9, 0, 0)), some (.inr (10, 0, 1)), some (.inr (10, 0, 2)), some (.inl (.int x5)), some (.inl (.int 1)), some (.inl (.int 0)), o8, o9]) rfl ?_
      refine ch_aload_n (i := 2) d_l_law_813 rfl rfl ?_
      refine ch_callV (as := []) d_l_law_814 lk_l_129 mi_m_thrown me_m_thrown rfl rfl rfl (ch_hR hR (Nat.le_of_ble_eq_true rfl)) (Nat.le_of_ble_eq_true rfl) (ch_rc1 (k := k) (a := 2) (b := 0) hcs (Nat.le_of_ble_eq_true rfl)) (ch_mono (ch_Ki (fun r34 m35 q36 => ?_)) (s_m_thrown g (fun (r_ : Int32) (m_ : ch_M) => ((m24 (9, 0, 0) 19) = r_ ∧ m24 = m_))  m24 ⟨rfl, rfl⟩))
      obtain ⟨rfl, rfl⟩ := q36
      replace h := h
      refine ch_iload d_l_law_817 rfl ?_
      refine ch_icmp_eq (tgt := 824) d_l_law_819 (by decide) (fun c => ?_) (fun c => ?_)
      · replace h := h.1 c
        refine ch_iload d_l_law_824 rfl ?_
        refine ch_if_ne (tgt := 841) d_l_law_826 (by decide) (fun _ => ?_) (fun c => absurd c (by decide))
        refine ch_goto (tgt := 2096) d_l_law_841 (by decide) ?_
        exact h
      · replace h := h.2 c
        refine ch_iconst (v := 0) d_l_law_822 (by decide) ?_
        exact h
  · replace h := h.2.2 c_
    refine ch_istore (i := 6) d_l_law_793 (Nat.le_of_ble_eq_true rfl) (ls' := [some (.inr (11, 0, 0)), some (.inr (0, 0, 0)), some (.inr (9, 0, 0)), some (.inr (10, 0, 1)), some (.inr (10, 0, 2)), some (.inl (.int x5)), some (.inl (.int 2)), o7, o8, o9]) rfl ?_
    refine ch_aload_n (i := 2) d_l_law_795 rfl rfl ?_
    refine ch_aload_n (i := 0) d_l_law_796 rfl rfl ?_
    refine ch_iload d_l_law_797 rfl ?_
    refine ch_iconst (v := 1) d_l_law_799 (by decide) ?_
    refine ch_iadd d_l_law_800 ?_
    refine ch_sld d_l_law_801 b1 ?_
    refine ch_aload_n (i := 0) d_l_law_802 rfl rfl ?_
    refine ch_iload d_l_law_803 rfl ?_
    refine ch_iconst (v := 2) d_l_law_805 (by decide) ?_
    refine ch_iadd d_l_law_806 ?_
    refine ch_sld d_l_law_807 b2 ?_
    obtain ⟨Y_37, h⟩ := h
    have b41 := h.1
    replace h := h.2
    have b42 := h.1
    replace h := h.2
    refine ch_callV (as := [.inl (.int ((ch_scr g).2.2 (Int32.toNatClampNeg (x5 + 1)))), .inl (.int ((ch_scr g).2.2 (Int32.toNatClampNeg (x5 + 2))))]) d_l_law_808 lk_l_162 mi_m_childOf me_m_childOf rfl rfl rfl (ch_hR hR (Nat.le_of_ble_eq_true rfl)) (Nat.le_of_ble_eq_true rfl) (ch_rc1 (k := k) (a := 2) (b := 0) hcs (Nat.le_of_ble_eq_true rfl)) (ch_mono (ch_Ki (fun r38 m39 q40 => ?_)) (s_m_childOf g (fun (r_ : Int32) (m_ : ch_M) => (((0 ≤ ((ch_scr g).2.2 (Int32.toNatClampNeg (x5 + 1))) ∧ ((ch_scr g).2.2 (Int32.toNatClampNeg (x5 + 1))) < Y_37 0 8) ∧ 0 ≤ ((ch_scr g).2.2 (Int32.toNatClampNeg (x5 + 2))) ∧ ((ch_scr g).2.2 (Int32.toNatClampNeg (x5 + 2))) ≤ 6) ∧ (x_coR Y_37 ((ch_scr g).2.2 (Int32.toNatClampNeg (x5 + 1))) ((ch_scr g).2.2 (Int32.toNatClampNeg (x5 + 2)))) = r_ ∧ m_ = ch_wr m (9, 0, 0) 19 0) ∨ ((¬ (0 ≤ ((ch_scr g).2.2 (Int32.toNatClampNeg (x5 + 1))) ∧ ((ch_scr g).2.2 (Int32.toNatClampNeg (x5 + 1))) < Y_37 0 8)) ∧ 0 = r_ ∧ m_ = ch_wr m (9, 0, 0) 19 1) ∨ (((0 ≤ ((ch_scr g).2.2 (Int32.toNatClampNeg (x5 + 1))) ∧ ((ch_scr g).2.2 (Int32.toNatClampNeg (x5 + 1))) < Y_37 0 8) ∧ ¬ (0 ≤ ((ch_scr g).2.2 (Int32.toNatClampNeg (x5 + 2))) ∧ ((ch_scr g).2.2 (Int32.toNatClampNeg (x5 + 2))) ≤ 6)) ∧ 0 = r_ ∧ m_ = ch_wr m (9, 0, 0) 19 2)) (Y_37) (((ch_scr g).2.2 (Int32.toNatClampNeg (x5 + 1)))) (((ch_scr g).2.2 (Int32.toNatClampNeg (x5 + 2)))) m ⟨b41, b42, (fun c_ => (Or.inl ⟨c_, rfl, rfl⟩)), (fun c_ => (Or.inr (Or.inl ⟨c_, rfl, rfl⟩))), (fun c_ => (Or.inr (Or.inr ⟨c_, rfl, rfl⟩)))⟩))
    rcases q40 with ⟨c_, rfl, hm_⟩ | ⟨c_, rfl, hm_⟩ | ⟨c_, rfl, hm_⟩
    · replace h := h.1 c_ m39 hm_
      refine ch_istore (i := 7) d_l_law_811 (Nat.le_of_ble_eq_true rfl) (ls' := [some (.inr (11, 0, 0)), some (.inr (0, 0, 0)), some (.inr (9, 0, 0)), some (.inr (10, 0, 1)), some (.inr (10, 0, 2)), some (.inl (.int x5)), some (.inl (.int 2)), some (.inl (.int (x_coR Y_37 ((ch_scr g).2.2 (Int32.toNatClampNeg (x5 + 1))) ((ch_scr g).2.2 (Int32.toNatClampNeg (x5 + 2)))))), o8, o9]) rfl ?_
      refine ch_aload_n (i := 2) d_l_law_813 rfl rfl ?_
      refine ch_callV (as := []) d_l_law_814 lk_l_129 mi_m_thrown me_m_thrown rfl rfl rfl (ch_hR hR (Nat.le_of_ble_eq_true rfl)) (Nat.le_of_ble_eq_true rfl) (ch_rc1 (k := k) (a := 2) (b := 0) hcs (Nat.le_of_ble_eq_true rfl)) (ch_mono (ch_Ki (fun r43 m44 q45 => ?_)) (s_m_thrown g (fun (r_ : Int32) (m_ : ch_M) => ((m39 (9, 0, 0) 19) = r_ ∧ m39 = m_))  m39 ⟨rfl, rfl⟩))
      obtain ⟨rfl, rfl⟩ := q45
      replace h := h
      refine ch_iload d_l_law_817 rfl ?_
      refine ch_icmp_eq (tgt := 824) d_l_law_819 (by decide) (fun c => ?_) (fun c => ?_)
      · replace h := h.1 c
        refine ch_iload d_l_law_824 rfl ?_
        refine ch_if_ne (tgt := 841) d_l_law_826 (by decide) (fun _ => ?_) (fun c => absurd c (by decide))
        refine ch_goto (tgt := 2096) d_l_law_841 (by decide) ?_
        exact h
      · replace h := h.2 c
        refine ch_iconst (v := 0) d_l_law_822 (by decide) ?_
        exact h
    · replace h := h.2.1 c_ m39 hm_
      refine ch_istore (i := 7) d_l_law_811 (Nat.le_of_ble_eq_true rfl) (ls' := [some (.inr (11, 0, 0)), some (.inr (0, 0, 0)), some (.inr (9, 0, 0)), some (.inr (10, 0, 1)), some (.inr (10, 0, 2)), some (.inl (.int x5)), some (.inl (.int 2)), some (.inl (.int 0)), o8, o9]) rfl ?_
      refine ch_aload_n (i := 2) d_l_law_813 rfl rfl ?_
      refine ch_callV (as := []) d_l_law_814 lk_l_129 mi_m_thrown me_m_thrown rfl rfl rfl (ch_hR hR (Nat.le_of_ble_eq_true rfl)) (Nat.le_of_ble_eq_true rfl) (ch_rc1 (k := k) (a := 2) (b := 0) hcs (Nat.le_of_ble_eq_true rfl)) (ch_mono (ch_Ki (fun r46 m47 q48 => ?_)) (s_m_thrown g (fun (r_ : Int32) (m_ : ch_M) => ((m39 (9, 0, 0) 19) = r_ ∧ m39 = m_))  m39 ⟨rfl, rfl⟩))
      obtain ⟨rfl, rfl⟩ := q48
      replace h := h
      refine ch_iload d_l_law_817 rfl ?_
      refine ch_icmp_eq (tgt := 824) d_l_law_819 (by decide) (fun c => ?_) (fun c => ?_)
      · replace h := h.1 c
        refine ch_iload d_l_law_824 rfl ?_
        refine ch_if_ne (tgt := 841) d_l_law_826 (by decide) (fun _ => ?_) (fun c => absurd c (by decide))
        refine ch_goto (tgt := 2096) d_l_law_841 (by decide) ?_
        exact h
      · replace h := h.2 c
        refine ch_iconst (v := 0) d_l_law_822 (by decide) ?_
        exact h
    · replace h := h.2.2 c_ m39 hm_
      refine ch_istore (i := 7) d_l_law_811 (Nat.le_of_ble_eq_true rfl) (ls' := [some (.inr (11, 0, 0)), some (.inr (0, 0, 0)), some (.inr (9, 0, 0)), some (.inr (10, 0, 1)), some (.inr (10, 0, 2)), some (.inl (.int x5)), some (.inl (.int 2)), some (.inl (.int 0)), o8, o9]) rfl ?_
      refine ch_aload_n (i := 2) d_l_law_813 rfl rfl ?_
      refine ch_callV (as := []) d_l_law_814 lk_l_129 mi_m_thrown me_m_thrown rfl rfl rfl (ch_hR hR (Nat.le_of_ble_eq_true rfl)) (Nat.le_of_ble_eq_true rfl) (ch_rc1 (k := k) (a := 2) (b := 0) hcs (Nat.le_of_ble_eq_true rfl)) (ch_mono (ch_Ki (fun r49 m50 q51 => ?_)) (s_m_thrown g (fun (r_ : Int32) (m_ : ch_M) => ((m39 (9, 0, 0) 19) = r_ ∧ m39 = m_))  m39 ⟨rfl, rfl⟩))
      obtain ⟨rfl, rfl⟩ := q51
      replace h := h
      refine ch_iload d_l_law_817 rfl ?_
      refine ch_icmp_eq (tgt := 824) d_l_law_819 (by decide) (fun c => ?_) (fun c => ?_)
      · replace h := h.1 c
        refine ch_iload d_l_law_824 rfl ?_
        refine ch_if_ne (tgt := 841) d_l_law_826 (by decide) (fun _ => ?_) (fun c => absurd c (by decide))
        refine ch_goto (tgt := 2096) d_l_law_841 (by decide) ?_
        exact h
      · replace h := h.2 c
        refine ch_iconst (v := 0) d_l_law_822 (by decide) ?_
        exact h
set_option maxHeartbeats 1600000 in
theorem g_l_law_844 (g : ch_G) (R : Room) (E : ch_En) (k : Nat) (hR : ch_RR R 18) (hcs : k + 40 ≤ R.cells ∧ 6 * k + 240 ≤ R.slots) (x5 : Int32) (o6 : Option ch_V) (o7 : Option ch_V) (o8 : Option ch_V) (o9 : Option ch_V) (m : ch_M) (h : (vp_in (x5 + 1) (ch_scr g).2.1) ∧ (((0 ≤ ((ch_scr g).2.2 (Int32.toNatClampNeg (x5 + 1))) ∧ ((ch_scr g).2.2 (Int32.toNatClampNeg (x5 + 1))) < m (1, 0, 0) 8) → (∀ m3 : ch_M, m3 = (ch_wr m (10, 0, 1) 0 (y_ofS (m (1, 0, 1)) ((ch_scr g).2.2 (Int32.toNatClampNeg (x5 + 1))) 0 12)) → (∃ Y_5 : ch_B, (m_rel Y_5 (m3 (9, 0, 1))) ∧ (vp_in (Y_5 0 8) 6) ∧ (((0 ≤ ((ch_scr g).2.2 (Int32.toNatClampNeg (x5 + 1))) ∧ ((ch_scr g).2.2 (Int32.toNatClampNeg (x5 + 1))) < Y_5 0 8) → (∀ m7 : ch_M, m7 = ch_wr m3 (9, 0, 0) 19 0 → ((((m7 (9, 0, 0) 19) = 0 → (((lg_cmp ((m7 (10, 0, 1) (0))).toInt64 ((y_ofS (Y_5 1) ((ch_scr g).2.2 (Int32.toNatClampNeg (x5 + 1))) 0 12)).toInt64) = 0 → ch_J g m_l_law R E 2096 [some (.inr (11, 0, 0)), some (.inr (0, 0, 0)), some (.inr (9, 0, 0)), some (.inr (10, 0, 1)), some (.inr (10, 0, 2)), some (.inl (.int x5)), some (.inl (.int 0)), some (.inl (.int (y_ofS (Y_5 1) ((ch_scr g).2.2 (Int32.toNatClampNeg (x5 + 1))) 0 12))), o8, o9] [] m7 (k + 1)) ∧ (¬ (lg_cmp ((m7 (10, 0, 1) (0))).toInt64 ((y_ofS (Y_5 1) ((ch_scr g).2.2 (Int32.toNatClampNeg (x5 + 1))) 0 12)).toInt64) = 0 → ch_J g m_l_law R E 896 [some (.inr (11, 0, 0)), some (.inr (0, 0, 0)), some (.inr (9, 0, 0)), some (.inr (10, 0, 1)), some (.inr (10, 0, 2)), some (.inl (.int x5)), some (.inl (.int 0)), some (.inl (.int (y_ofS (Y_5 1) ((ch_scr g).2.2 (Int32.toNatClampNeg (x5 + 1))) 0 12))), o8, o9] [.inl (.int 0)] m7 (k + 1)))) ∧ (¬ (m7 (9, 0, 0) 19) = 0 → ch_J g m_l_law R E 879 [some (.inr (11, 0, 0)), some (.inr (0, 0, 0)), some (.inr (9, 0, 0)), some (.inr (10, 0, 1)), some (.inr (10, 0, 2)), some (.inl (.int x5)), some (.inl (.int 0)), some (.inl (.int (y_ofS (Y_5 1) ((ch_scr g).2.2 (Int32.toNatClampNeg (x5 + 1))) 0 12))), o8, o9] [.inl (.int 0)] m7 (k + 1)))))) ∧ ((¬ (0 ≤ ((ch_scr g).2.2 (Int32.toNatClampNeg (x5 + 1))) ∧ ((ch_scr g).2.2 (Int32.toNatClampNeg (x5 + 1))) < Y_5 0 8)) → (∀ m7 : ch_M, m7 = ch_wr m3 (9, 0, 0) 19 1 → ((((m7 (9, 0, 0) 19) = 0 → (((lg_cmp ((m7 (10, 0, 1) (0))).toInt64 (0).toInt64) = 0 → ch_J g m_l_law R E 2096 [some (.inr (11, 0, 0)), some (.inr (0, 0, 0)), some (.inr (9, 0, 0)), some (.inr (10, 0, 1)), some (.inr (10, 0, 2)), some (.inl (.int x5)), some (.inl (.int 0)), some (.inl (.int 0)), o8, o9] [] m7 (k + 1)) ∧ (¬ (lg_cmp ((m7 (10, 0, 1) (0))).toInt64 (0).toInt64) = 0 → ch_J g m_l_law R E 896 [some (.inr (11, 0, 0)), some (.inr (0, 0, 0)), some (.inr (9, 0, 0)), some (.inr (10, 0, 1)), some (.inr (10, 0, 2)), some (.inl (.int x5)), some (.inl (.int 0)), some (.inl (.int 0)), o8, o9] [.inl (.int 0)] m7 (k + 1)))) ∧ (¬ (m7 (9, 0, 0) 19) = 0 → ch_J g m_l_law R E 879 [some (.inr (11, 0, 0)), some (.inr (0, 0, 0)), some (.inr (9, 0, 0)), some (.inr (10, 0, 1)), some (.inr (10, 0, 2)), some (.inl (.int x5)), some (.inl (.int 0)), some (.inl (.int 0)), o8, o9] [.inl (.int 0)] m7 (k + 1)))))))))) ∧ ((¬ (0 ≤ ((ch_scr g).2.2 (Int32.toNatClampNeg (x5 + 1))) ∧ ((ch_scr g).2.2 (Int32.toNatClampNeg (x5 + 1))) < m (1, 0, 0) 8)) → (∃ Y_17 : ch_B, (m_rel Y_17 (m (9, 0, 1))) ∧ (vp_in (Y_17 0 8) 6) ∧ (((0 ≤ ((ch_scr g).2.2 (Int32.toNatClampNeg (x5 + 1))) ∧ ((ch_scr g).2.2 (Int32.toNatClampNeg (x5 + 1))) < Y_17 0 8) → (∀ m19 : ch_M, m19 = ch_wr m (9, 0, 0) 19 0 → ((((m19 (9, 0, 0) 19) = 1 → ch_J g m_l_law R E 2096 [some (.inr (11, 0, 0)), some (.inr (0, 0, 0)), some (.inr (9, 0, 0)), some (.inr (10, 0, 1)), some (.inr (10, 0, 2)), some (.inl (.int x5)), some (.inl (.int 1)), some (.inl (.int (y_ofS (Y_17 1) ((ch_scr g).2.2 (Int32.toNatClampNeg (x5 + 1))) 0 12))), o8, o9] [] m19 (k + 1)) ∧ (¬ (m19 (9, 0, 0) 19) = 1 → ch_J g m_l_law R E 879 [some (.inr (11, 0, 0)), some (.inr (0, 0, 0)), some (.inr (9, 0, 0)), some (.inr (10, 0, 1)), some (.inr (10, 0, 2)), some (.inl (.int x5)), some (.inl (.int 1)), some (.inl (.int (y_ofS (Y_17 1) ((ch_scr g).2.2 (Int32.toNatClampNeg (x5 + 1))) 0 12))), o8, o9] [.inl (.int 0)] m19 (k + 1)))))) ∧ ((¬ (0 ≤ ((ch_scr g).2.2 (Int32.toNatClampNeg (x5 + 1))) ∧ ((ch_scr g).2.2 (Int32.toNatClampNeg (x5 + 1))) < Y_17 0 8)) → (∀ m19 : ch_M, m19 = ch_wr m (9, 0, 0) 19 1 → ((((m19 (9, 0, 0) 19) = 1 → ch_J g m_l_law R E 2096 [some (.inr (11, 0, 0)), some (.inr (0, 0, 0)), some (.inr (9, 0, 0)), some (.inr (10, 0, 1)), some (.inr (10, 0, 2)), some (.inl (.int x5)), some (.inl (.int 1)), some (.inl (.int 0)), o8, o9] [] m19 (k + 1)) ∧ (¬ (m19 (9, 0, 0) 19) = 1 → ch_J g m_l_law R E 879 [some (.inr (11, 0, 0)), some (.inr (0, 0, 0)), some (.inr (9, 0, 0)), some (.inr (10, 0, 1)), some (.inr (10, 0, 2)), some (.inl (.int x5)), some (.inl (.int 1)), some (.inl (.int 0)), o8, o9] [.inl (.int 0)] m19 (k + 1))))))))))) : ch_J g m_l_law R E 844 [some (.inr (11, 0, 0)), some (.inr (0, 0, 0)), some (.inr (9, 0, 0)), some (.inr (10, 0, 1)), some (.inr (10, 0, 2)), some (.inl (.int x5)), o6, o7, o8, o9] [] m k := by
  refine ch_aload_n (i := 1) d_l_law_844 rfl rfl ?_
  refine ch_aload_n (i := 0) d_l_law_845 rfl rfl ?_
  refine ch_iload d_l_law_846 rfl ?_
  refine ch_iconst (v := 1) d_l_law_848 (by decide) ?_
  refine ch_iadd d_l_law_849 ?_
  have b1 := h.1
  replace h := h.2
  refine ch_sld d_l_law_850 b1 ?_
  refine ch_aload_n (i := 3) d_l_law_851 rfl rfl ?_
  refine ch_callSX (as := [.inr (0, 0, 0), .inl (.int ((ch_scr g).2.2 (Int32.toNatClampNeg (x5 + 1)))), .inr (10, 0, 1)]) d_l_law_852 lk_l_163 ms_l_squares rfl rfl (ch_hR hR (Nat.le_of_ble_eq_true rfl)) (Nat.le_of_ble_eq_true rfl) (ch_rc0 (k := k) (b := 1) hcs (Nat.le_of_ble_eq_true rfl)) (ch_mono (ch_Ki (fun r2 m3 q4 => ?_)) (s_l_squares g (fun (r_ : Int32) (m_ : ch_M) => ((0 ≤ ((ch_scr g).2.2 (Int32.toNatClampNeg (x5 + 1))) ∧ ((ch_scr g).2.2 (Int32.toNatClampNeg (x5 + 1))) < m (1, 0, 0) 8) ∧ 0 = r_ ∧ m_ = (ch_wr m (10, 0, 1) 0 (y_ofS (m (1, 0, 1)) ((ch_scr g).2.2 (Int32.toNatClampNeg (x5 + 1))) 0 12))) ∨ ((¬ (0 ≤ ((ch_scr g).2.2 (Int32.toNatClampNeg (x5 + 1))) ∧ ((ch_scr g).2.2 (Int32.toNatClampNeg (x5 + 1))) < m (1, 0, 0) 8)) ∧ 1 = r_ ∧ m = m_)) (((ch_scr g).2.2 (Int32.toNatClampNeg (x5 + 1)))) m ⟨(fun c_ => (Or.inl ⟨c_, rfl, rfl⟩)), (fun c_ => (Or.inr ⟨c_, rfl, rfl⟩))⟩))
  rcases q4 with ⟨c_, rfl, hm_⟩ | ⟨c_, rfl, rfl⟩
  · replace h := h.1 c_ m3 hm_
    refine ch_istore (i := 6) d_l_law_855 (Nat.le_of_ble_eq_true rfl) (ls' := [some (.inr (11, 0, 0)), some (.inr (0, 0, 0)), some (.inr (9, 0, 0)), some (.inr (10, 0, 1)), some (.inr (10, 0, 2)), some (.inl (.int x5)), some (.inl (.int 0)), o7, o8, o9]) rfl ?_
    refine ch_aload_n (i := 2) d_l_law_857 rfl rfl ?_
    refine ch_aload_n (i := 0) d_l_law_858 rfl rfl ?_
    refine ch_iload d_l_law_859 rfl ?_
    refine ch_iconst (v := 1) d_l_law_861 (by decide) ?_
    refine ch_iadd d_l_law_862 ?_
    refine ch_sld d_l_law_863 b1 ?_
    obtain ⟨Y_5, h⟩ := h
    have b9 := h.1
    replace h := h.2
    have b10 := h.1
    replace h := h.2
    refine ch_callV (as := [.inl (.int ((ch_scr g).2.2 (Int32.toNatClampNeg (x5 + 1))))]) d_l_law_864 lk_l_165 mi_m_squares me_m_squares rfl rfl rfl (ch_hR hR (Nat.le_of_ble_eq_true rfl)) (Nat.le_of_ble_eq_true rfl) (ch_rc1 (k := k) (a := 1) (b := 0) hcs (Nat.le_of_ble_eq_true rfl)) (ch_mono (ch_Ki (fun r6 m7 q8 => ?_)) (s_m_squares g (fun (r_ : Int32) (m_ : ch_M) => ((0 ≤ ((ch_scr g).2.2 (Int32.toNatClampNeg (x5 + 1))) ∧ ((ch_scr g).2.2 (Int32.toNatClampNeg (x5 + 1))) < Y_5 0 8) ∧ (y_ofS (Y_5 1) ((ch_scr g).2.2 (Int32.toNatClampNeg (x5 + 1))) 0 12) = r_ ∧ m_ = ch_wr m3 (9, 0, 0) 19 0) ∨ ((¬ (0 ≤ ((ch_scr g).2.2 (Int32.toNatClampNeg (x5 + 1))) ∧ ((ch_scr g).2.2 (Int32.toNatClampNeg (x5 + 1))) < Y_5 0 8)) ∧ 0 = r_ ∧ m_ = ch_wr m3 (9, 0, 0) 19 1)) (Y_5) (((ch_scr g).2.2 (Int32.toNatClampNeg (x5 + 1)))) m3 ⟨b9, b10, (fun c_ => (Or.inl ⟨c_, rfl, rfl⟩)), (fun c_ => (Or.inr ⟨c_, rfl, rfl⟩))⟩))
    rcases q8 with ⟨c_, rfl, hm_⟩ | ⟨c_, rfl, hm_⟩
    · replace h := h.1 c_ m7 hm_
      refine ch_istore (i := 7) d_l_law_867 (Nat.le_of_ble_eq_true rfl) (ls' := [some (.inr (11, 0, 0)), some (.inr (0, 0, 0)), some (.inr (9, 0, 0)), some (.inr (10, 0, 1)), some (.inr (10, 0, 2)), some (.inl (.int x5)), some (.inl (.int 0)), some (.inl (.int (y_ofS (Y_5 1) ((ch_scr g).2.2 (Int32.toNatClampNeg (x5 + 1))) 0 12))), o8, o9]) rfl ?_
      refine ch_aload_n (i := 2) d_l_law_869 rfl rfl ?_
      refine ch_callV (as := []) d_l_law_870 lk_l_129 mi_m_thrown me_m_thrown rfl rfl rfl (ch_hR hR (Nat.le_of_ble_eq_true rfl)) (Nat.le_of_ble_eq_true rfl) (ch_rc1 (k := k) (a := 1) (b := 0) hcs (Nat.le_of_ble_eq_true rfl)) (ch_mono (ch_Ki (fun r11 m12 q13 => ?_)) (s_m_thrown g (fun (r_ : Int32) (m_ : ch_M) => ((m7 (9, 0, 0) 19) = r_ ∧ m7 = m_))  m7 ⟨rfl, rfl⟩))
      obtain ⟨rfl, rfl⟩ := q13
      replace h := h
      refine ch_iload d_l_law_873 rfl ?_
      refine ch_icmp_eq (tgt := 880) d_l_law_875 (by decide) (fun c => ?_) (fun c => ?_)
      · replace h := h.1 c
        refine ch_iload d_l_law_880 rfl ?_
        refine ch_if_ne (tgt := 897) d_l_law_882 (by decide) (fun c => absurd c (by decide)) (fun _ => ?_)
        refine ch_aload_n (i := 3) d_l_law_885 rfl rfl ?_
        refine ch_iconst (v := 0) d_l_law_886 (by decide) ?_
        refine ch_lald (n := 1) d_l_law_887 (by decide) rfl (vp_in_nI (n := 0) (by decide) (by decide)) ?_
        refine ch_iload d_l_law_888 rfl ?_
        refine ch_i2l d_l_law_890 ?_
        refine ch_lcmp d_l_law_891 ?_
        refine ch_if_eq (tgt := 897) d_l_law_892 (by decide) (fun c => ?_) (fun c => ?_)
        · replace h := h.1 c
          refine ch_goto (tgt := 2096) d_l_law_897 (by decide) ?_
          exact h
        · replace h := h.2 c
          refine ch_iconst (v := 0) d_l_law_895 (by decide) ?_
          exact h
      · replace h := h.2 c
        refine ch_iconst (v := 0) d_l_law_878 (by decide) ?_
        exact h
    · replace h := h.2 c_ m7 hm_
      refine ch_istore (i := 7) d_l_law_867 (Nat.le_of_ble_eq_true rfl) (ls' := [some (.inr (11, 0, 0)), some (.inr (0, 0, 0)), some (.inr (9, 0, 0)), some (.inr (10, 0, 1)), some (.inr (10, 0, 2)), some (.inl (.int x5)), some (.inl (.int 0)), some (.inl (.int 0)), o8, o9]) rfl ?_
      refine ch_aload_n (i := 2) d_l_law_869 rfl rfl ?_
      refine ch_callV (as := []) d_l_law_870 lk_l_129 mi_m_thrown me_m_thrown rfl rfl rfl (ch_hR hR (Nat.le_of_ble_eq_true rfl)) (Nat.le_of_ble_eq_true rfl) (ch_rc1 (k := k) (a := 1) (b := 0) hcs (Nat.le_of_ble_eq_true rfl)) (ch_mono (ch_Ki (fun r14 m15 q16 => ?_)) (s_m_thrown g (fun (r_ : Int32) (m_ : ch_M) => ((m7 (9, 0, 0) 19) = r_ ∧ m7 = m_))  m7 ⟨rfl, rfl⟩))
      obtain ⟨rfl, rfl⟩ := q16
      replace h := h
      refine ch_iload d_l_law_873 rfl ?_
      refine ch_icmp_eq (tgt := 880) d_l_law_875 (by decide) (fun c => ?_) (fun c => ?_)
      · replace h := h.1 c
        refine ch_iload d_l_law_880 rfl ?_
        refine ch_if_ne (tgt := 897) d_l_law_882 (by decide) (fun c => absurd c (by decide)) (fun _ => ?_)
        refine ch_aload_n (i := 3) d_l_law_885 rfl rfl ?_
        refine ch_iconst (v := 0) d_l_law_886 (by decide) ?_
        refine ch_lald (n := 1) d_l_law_887 (by decide) rfl (vp_in_nI (n := 0) (by decide) (by decide)) ?_
        refine ch_iload d_l_law_888 rfl ?_
        refine ch_i2l d_l_law_890 ?_
        refine ch_lcmp d_l_law_891 ?_
        refine ch_if_eq (tgt := 897) d_l_law_892 (by decide) (fun c => ?_) (fun c => ?_)
        · replace h := h.1 c
          refine ch_goto (tgt := 2096) d_l_law_897 (by decide) ?_
          exact h
        · replace h := h.2 c
          refine ch_iconst (v := 0) d_l_law_895 (by decide) ?_
          exact h
      · replace h := h.2 c
        refine ch_iconst (v := 0) d_l_law_878 (by decide) ?_
        exact h
  · replace h := h.2 c_
    refine ch_istore (i := 6) d_l_law_855 (Nat.le_of_ble_eq_true rfl) (ls' := [some (.inr (11, 0, 0)), some (.inr (0, 0, 0)), some (.inr (9, 0, 0)), some (.inr (10, 0, 1)), some (.inr (10, 0, 2)), some (.inl (.int x5)), some (.inl (.int 1)), o7, o8, o9]) rfl ?_
    refine ch_aload_n (i := 2) d_l_law_857 rfl rfl ?_
    refine ch_aload_n (i := 0) d_l_law_858 rfl rfl ?_
    refine ch_iload d_l_law_859 rfl ?_
    refine ch_iconst (v := 1) d_l_law_861 (by decide) ?_
    refine ch_iadd d_l_law_862 ?_
    refine ch_sld d_l_law_863 b1 ?_
    obtain ⟨Y_17, h⟩ := h
    have b21 := h.1
    replace h := h.2
    have b22 := h.1
    replace h := h.2
    refine ch_callV (as := [.inl (.int ((ch_scr g).2.2 (Int32.toNatClampNeg (x5 + 1))))]) d_l_law_864 lk_l_165 mi_m_squares me_m_squares rfl rfl rfl (ch_hR hR (Nat.le_of_ble_eq_true rfl)) (Nat.le_of_ble_eq_true rfl) (ch_rc1 (k := k) (a := 1) (b := 0) hcs (Nat.le_of_ble_eq_true rfl)) (ch_mono (ch_Ki (fun r18 m19 q20 => ?_)) (s_m_squares g (fun (r_ : Int32) (m_ : ch_M) => ((0 ≤ ((ch_scr g).2.2 (Int32.toNatClampNeg (x5 + 1))) ∧ ((ch_scr g).2.2 (Int32.toNatClampNeg (x5 + 1))) < Y_17 0 8) ∧ (y_ofS (Y_17 1) ((ch_scr g).2.2 (Int32.toNatClampNeg (x5 + 1))) 0 12) = r_ ∧ m_ = ch_wr m (9, 0, 0) 19 0) ∨ ((¬ (0 ≤ ((ch_scr g).2.2 (Int32.toNatClampNeg (x5 + 1))) ∧ ((ch_scr g).2.2 (Int32.toNatClampNeg (x5 + 1))) < Y_17 0 8)) ∧ 0 = r_ ∧ m_ = ch_wr m (9, 0, 0) 19 1)) (Y_17) (((ch_scr g).2.2 (Int32.toNatClampNeg (x5 + 1)))) m ⟨b21, b22, (fun c_ => (Or.inl ⟨c_, rfl, rfl⟩)), (fun c_ => (Or.inr ⟨c_, rfl, rfl⟩))⟩))
    rcases q20 with ⟨c_, rfl, hm_⟩ | ⟨c_, rfl, hm_⟩
    · replace h := h.1 c_ m19 hm_
      refine ch_istore (i := 7) d_l_law_867 (Nat.le_of_ble_eq_true rfl) (ls' := [some (.inr (11, 0, 0)), some (.inr (0, 0, 0)), some (.inr (9, 0, 0)), some (.inr (10, 0, 1)), some (.inr (10, 0, 2)), some (.inl (.int x5)), some (.inl (.int 1)), some (.inl (.int (y_ofS (Y_17 1) ((ch_scr g).2.2 (Int32.toNatClampNeg (x5 + 1))) 0 12))), o8, o9]) rfl ?_
      refine ch_aload_n (i := 2) d_l_law_869 rfl rfl ?_
      refine ch_callV (as := []) d_l_law_870 lk_l_129 mi_m_thrown me_m_thrown rfl rfl rfl (ch_hR hR (Nat.le_of_ble_eq_true rfl)) (Nat.le_of_ble_eq_true rfl) (ch_rc1 (k := k) (a := 1) (b := 0) hcs (Nat.le_of_ble_eq_true rfl)) (ch_mono (ch_Ki (fun r23 m24 q25 => ?_)) (s_m_thrown g (fun (r_ : Int32) (m_ : ch_M) => ((m19 (9, 0, 0) 19) = r_ ∧ m19 = m_))  m19 ⟨rfl, rfl⟩))
      obtain ⟨rfl, rfl⟩ := q25
      replace h := h
      refine ch_iload d_l_law_873 rfl ?_
      refine ch_icmp_eq (tgt := 880) d_l_law_875 (by decide) (fun c => ?_) (fun c => ?_)
      · replace h := h.1 c
        refine ch_iload d_l_law_880 rfl ?_
        refine ch_if_ne (tgt := 897) d_l_law_882 (by decide) (fun _ => ?_) (fun c => absurd c (by decide))
        refine ch_goto (tgt := 2096) d_l_law_897 (by decide) ?_
        exact h
      · replace h := h.2 c
        refine ch_iconst (v := 0) d_l_law_878 (by decide) ?_
        exact h
    · replace h := h.2 c_ m19 hm_
      refine ch_istore (i := 7) d_l_law_867 (Nat.le_of_ble_eq_true rfl) (ls' := [some (.inr (11, 0, 0)), some (.inr (0, 0, 0)), some (.inr (9, 0, 0)), some (.inr (10, 0, 1)), some (.inr (10, 0, 2)), some (.inl (.int x5)), some (.inl (.int 1)), some (.inl (.int 0)), o8, o9]) rfl ?_
      refine ch_aload_n (i := 2) d_l_law_869 rfl rfl ?_
      refine ch_callV (as := []) d_l_law_870 lk_l_129 mi_m_thrown me_m_thrown rfl rfl rfl (ch_hR hR (Nat.le_of_ble_eq_true rfl)) (Nat.le_of_ble_eq_true rfl) (ch_rc1 (k := k) (a := 1) (b := 0) hcs (Nat.le_of_ble_eq_true rfl)) (ch_mono (ch_Ki (fun r26 m27 q28 => ?_)) (s_m_thrown g (fun (r_ : Int32) (m_ : ch_M) => ((m19 (9, 0, 0) 19) = r_ ∧ m19 = m_))  m19 ⟨rfl, rfl⟩))
      obtain ⟨rfl, rfl⟩ := q28
      replace h := h
      refine ch_iload d_l_law_873 rfl ?_
      refine ch_icmp_eq (tgt := 880) d_l_law_875 (by decide) (fun c => ?_) (fun c => ?_)
      · replace h := h.1 c
        refine ch_iload d_l_law_880 rfl ?_
        refine ch_if_ne (tgt := 897) d_l_law_882 (by decide) (fun _ => ?_) (fun c => absurd c (by decide))
        refine ch_goto (tgt := 2096) d_l_law_897 (by decide) ?_
        exact h
      · replace h := h.2 c
        refine ch_iconst (v := 0) d_l_law_878 (by decide) ?_
        exact h
set_option maxHeartbeats 1600000 in
theorem g_l_law_900 (g : ch_G) (R : Room) (E : ch_En) (k : Nat) (hR : ch_RR R 18) (hcs : k + 40 ≤ R.cells ∧ 6 * k + 240 ≤ R.slots) (x5 : Int32) (o6 : Option ch_V) (o7 : Option ch_V) (o8 : Option ch_V) (o9 : Option ch_V) (m : ch_M) (h : (vp_in (x5 + 1) (ch_scr g).2.1) ∧ (vp_in (m (1, 0, 0) 9) 6) ∧ (((0 ≤ ((ch_scr g).2.2 (Int32.toNatClampNeg (x5 + 1))) ∧ ((ch_scr g).2.2 (Int32.toNatClampNeg (x5 + 1))) < m (1, 0, 0) 9) → (∀ m3 : ch_M, m3 = (ch_wr m (10, 0, 1) 0 (m (1, 0, 8) (Int32.toNatClampNeg ((ch_scr g).2.2 (Int32.toNatClampNeg (x5 + 1)))))) → (∃ Y_6 : ch_B, (m_rel Y_6 (m3 (9, 0, 1))) ∧ (vp_in (Y_6 0 9) 6) ∧ (((0 ≤ ((ch_scr g).2.2 (Int32.toNatClampNeg (x5 + 1))) ∧ ((ch_scr g).2.2 (Int32.toNatClampNeg (x5 + 1))) < Y_6 0 9) → (∀ m8 : ch_M, m8 = ch_wr m3 (9, 0, 0) 19 0 → ((((m8 (9, 0, 0) 19) = 0 → (((lg_cmp ((m8 (10, 0, 1) (0))).toInt64 ((Y_6 8 (Int32.toNatClampNeg ((ch_scr g).2.2 (Int32.toNatClampNeg (x5 + 1)))))).toInt64) = 0 → ch_J g m_l_law R E 2096 [some (.inr (11, 0, 0)), some (.inr (0, 0, 0)), some (.inr (9, 0, 0)), some (.inr (10, 0, 1)), some (.inr (10, 0, 2)), some (.inl (.int x5)), some (.inl (.int 0)), some (.inl (.int (Y_6 8 (Int32.toNatClampNeg ((ch_scr g).2.2 (Int32.toNatClampNeg (x5 + 1))))))), o8, o9] [] m8 (k + 1)) ∧ (¬ (lg_cmp ((m8 (10, 0, 1) (0))).toInt64 ((Y_6 8 (Int32.toNatClampNeg ((ch_scr g).2.2 (Int32.toNatClampNeg (x5 + 1)))))).toInt64) = 0 → ch_J g m_l_law R E 952 [some (.inr (11, 0, 0)), some (.inr (0, 0, 0)), some (.inr (9, 0, 0)), some (.inr (10, 0, 1)), some (.inr (10, 0, 2)), some (.inl (.int x5)), some (.inl (.int 0)), some (.inl (.int (Y_6 8 (Int32.toNatClampNeg ((ch_scr g).2.2 (Int32.toNatClampNeg (x5 + 1))))))), o8, o9] [.inl (.int 0)] m8 (k + 1)))) ∧ (¬ (m8 (9, 0, 0) 19) = 0 → ch_J g m_l_law R E 935 [some (.inr (11, 0, 0)), some (.inr (0, 0, 0)), some (.inr (9, 0, 0)), some (.inr (10, 0, 1)), some (.inr (10, 0, 2)), some (.inl (.int x5)), some (.inl (.int 0)), some (.inl (.int (Y_6 8 (Int32.toNatClampNeg ((ch_scr g).2.2 (Int32.toNatClampNeg (x5 + 1))))))), o8, o9] [.inl (.int 0)] m8 (k + 1)))))) ∧ ((¬ (0 ≤ ((ch_scr g).2.2 (Int32.toNatClampNeg (x5 + 1))) ∧ ((ch_scr g).2.2 (Int32.toNatClampNeg (x5 + 1))) < Y_6 0 9)) → (∀ m8 : ch_M, m8 = ch_wr m3 (9, 0, 0) 19 1 → ((((m8 (9, 0, 0) 19) = 0 → (((lg_cmp ((m8 (10, 0, 1) (0))).toInt64 (0).toInt64) = 0 → ch_J g m_l_law R E 2096 [some (.inr (11, 0, 0)), some (.inr (0, 0, 0)), some (.inr (9, 0, 0)), some (.inr (10, 0, 1)), some (.inr (10, 0, 2)), some (.inl (.int x5)), some (.inl (.int 0)), some (.inl (.int 0)), o8, o9] [] m8 (k + 1)) ∧ (¬ (lg_cmp ((m8 (10, 0, 1) (0))).toInt64 (0).toInt64) = 0 → ch_J g m_l_law R E 952 [some (.inr (11, 0, 0)), some (.inr (0, 0, 0)), some (.inr (9, 0, 0)), some (.inr (10, 0, 1)), some (.inr (10, 0, 2)), some (.inl (.int x5)), some (.inl (.int 0)), some (.inl (.int 0)), o8, o9] [.inl (.int 0)] m8 (k + 1)))) ∧ (¬ (m8 (9, 0, 0) 19) = 0 → ch_J g m_l_law R E 935 [some (.inr (11, 0, 0)), some (.inr (0, 0, 0)), some (.inr (9, 0, 0)), some (.inr (10, 0, 1)), some (.inr (10, 0, 2)), some (.inl (.int x5)), some (.inl (.int 0)), some (.inl (.int 0)), o8, o9] [.inl (.int 0)] m8 (k + 1)))))))))) ∧ ((¬ (0 ≤ ((ch_scr g).2.2 (Int32.toNatClampNeg (x5 + 1))) ∧ ((ch_scr g).2.2 (Int32.toNatClampNeg (x5 + 1))) < m (1, 0, 0) 9)) → (∃ Y_18 : ch_B, (m_rel Y_18 (m (9, 0, 1))) ∧ (vp_in (Y_18 0 9) 6) ∧ (((0 ≤ ((ch_scr g).2.2 (Int32.toNatClampNeg (x5 + 1))) ∧ ((ch_scr g).2.2 (Int32.toNatClampNeg (x5 + 1))) < Y_18 0 9) → (∀ m20 : ch_M, m20 = ch_wr m (9, 0, 0) 19 0 → ((((m20 (9, 0, 0) 19) = 1 → ch_J g m_l_law R E 2096 [some (.inr (11, 0, 0)), some (.inr (0, 0, 0)), some (.inr (9, 0, 0)), some (.inr (10, 0, 1)), some (.inr (10, 0, 2)), some (.inl (.int x5)), some (.inl (.int 1)), some (.inl (.int (Y_18 8 (Int32.toNatClampNeg ((ch_scr g).2.2 (Int32.toNatClampNeg (x5 + 1))))))), o8, o9] [] m20 (k + 1)) ∧ (¬ (m20 (9, 0, 0) 19) = 1 → ch_J g m_l_law R E 935 [some (.inr (11, 0, 0)), some (.inr (0, 0, 0)), some (.inr (9, 0, 0)), some (.inr (10, 0, 1)), some (.inr (10, 0, 2)), some (.inl (.int x5)), some (.inl (.int 1)), some (.inl (.int (Y_18 8 (Int32.toNatClampNeg ((ch_scr g).2.2 (Int32.toNatClampNeg (x5 + 1))))))), o8, o9] [.inl (.int 0)] m20 (k + 1)))))) ∧ ((¬ (0 ≤ ((ch_scr g).2.2 (Int32.toNatClampNeg (x5 + 1))) ∧ ((ch_scr g).2.2 (Int32.toNatClampNeg (x5 + 1))) < Y_18 0 9)) → (∀ m20 : ch_M, m20 = ch_wr m (9, 0, 0) 19 1 → ((((m20 (9, 0, 0) 19) = 1 → ch_J g m_l_law R E 2096 [some (.inr (11, 0, 0)), some (.inr (0, 0, 0)), some (.inr (9, 0, 0)), some (.inr (10, 0, 1)), some (.inr (10, 0, 2)), some (.inl (.int x5)), some (.inl (.int 1)), some (.inl (.int 0)), o8, o9] [] m20 (k + 1)) ∧ (¬ (m20 (9, 0, 0) 19) = 1 → ch_J g m_l_law R E 935 [some (.inr (11, 0, 0)), some (.inr (0, 0, 0)), some (.inr (9, 0, 0)), some (.inr (10, 0, 1)), some (.inr (10, 0, 2)), some (.inl (.int x5)), some (.inl (.int 1)), some (.inl (.int 0)), o8, o9] [.inl (.int 0)] m20 (k + 1))))))))))) : ch_J g m_l_law R E 900 [some (.inr (11, 0, 0)), some (.inr (0, 0, 0)), some (.inr (9, 0, 0)), some (.inr (10, 0, 1)), some (.inr (10, 0, 2)), some (.inl (.int x5)), o6, o7, o8, o9] [] m k := by
  refine ch_aload_n (i := 1) d_l_law_900 rfl rfl ?_
  refine ch_aload_n (i := 0) d_l_law_901 rfl rfl ?_
  refine ch_iload d_l_law_902 rfl ?_
  refine ch_iconst (v := 1) d_l_law_904 (by decide) ?_
  refine ch_iadd d_l_law_905 ?_
  have b1 := h.1
  replace h := h.2
  refine ch_sld d_l_law_906 b1 ?_
  refine ch_aload_n (i := 3) d_l_law_907 rfl rfl ?_
  have b5 := h.1
  replace h := h.2
  refine ch_callSX (as := [.inr (0, 0, 0), .inl (.int ((ch_scr g).2.2 (Int32.toNatClampNeg (x5 + 1)))), .inr (10, 0, 1)]) d_l_law_908 lk_l_166 ms_l_warrantAt rfl rfl (ch_hR hR (Nat.le_of_ble_eq_true rfl)) (Nat.le_of_ble_eq_true rfl) (ch_rc0 (k := k) (b := 1) hcs (Nat.le_of_ble_eq_true rfl)) (ch_mono (ch_Ki (fun r2 m3 q4 => ?_)) (s_l_warrantAt g (fun (r_ : Int32) (m_ : ch_M) => ((0 ≤ ((ch_scr g).2.2 (Int32.toNatClampNeg (x5 + 1))) ∧ ((ch_scr g).2.2 (Int32.toNatClampNeg (x5 + 1))) < m (1, 0, 0) 9) ∧ 0 = r_ ∧ m_ = (ch_wr m (10, 0, 1) 0 (m (1, 0, 8) (Int32.toNatClampNeg ((ch_scr g).2.2 (Int32.toNatClampNeg (x5 + 1))))))) ∨ ((¬ (0 ≤ ((ch_scr g).2.2 (Int32.toNatClampNeg (x5 + 1))) ∧ ((ch_scr g).2.2 (Int32.toNatClampNeg (x5 + 1))) < m (1, 0, 0) 9)) ∧ 1 = r_ ∧ m = m_)) (((ch_scr g).2.2 (Int32.toNatClampNeg (x5 + 1)))) m ⟨b5, (fun c_ => (Or.inl ⟨c_, rfl, rfl⟩)), (fun c_ => (Or.inr ⟨c_, rfl, rfl⟩))⟩))
  rcases q4 with ⟨c_, rfl, hm_⟩ | ⟨c_, rfl, rfl⟩
  · replace h := h.1 c_ m3 hm_
    refine ch_istore (i := 6) d_l_law_911 (Nat.le_of_ble_eq_true rfl) (ls' := [some (.inr (11, 0, 0)), some (.inr (0, 0, 0)), some (.inr (9, 0, 0)), some (.inr (10, 0, 1)), some (.inr (10, 0, 2)), some (.inl (.int x5)), some (.inl (.int 0)), o7, o8, o9]) rfl ?_
    refine ch_aload_n (i := 2) d_l_law_913 rfl rfl ?_
    refine ch_aload_n (i := 0) d_l_law_914 rfl rfl ?_
    refine ch_iload d_l_law_915 rfl ?_
    refine ch_iconst (v := 1) d_l_law_917 (by decide) ?_
    refine ch_iadd d_l_law_918 ?_
    refine ch_sld d_l_law_919 b1 ?_
    obtain ⟨Y_6, h⟩ := h
    have b10 := h.1
    replace h := h.2
    have b11 := h.1
    replace h := h.2
    refine ch_callV (as := [.inl (.int ((ch_scr g).2.2 (Int32.toNatClampNeg (x5 + 1))))]) d_l_law_920 lk_l_168 mi_m_warrantAt me_m_warrantAt rfl rfl rfl (ch_hR hR (Nat.le_of_ble_eq_true rfl)) (Nat.le_of_ble_eq_true rfl) (ch_rc1 (k := k) (a := 1) (b := 0) hcs (Nat.le_of_ble_eq_true rfl)) (ch_mono (ch_Ki (fun r7 m8 q9 => ?_)) (s_m_warrantAt g (fun (r_ : Int32) (m_ : ch_M) => ((0 ≤ ((ch_scr g).2.2 (Int32.toNatClampNeg (x5 + 1))) ∧ ((ch_scr g).2.2 (Int32.toNatClampNeg (x5 + 1))) < Y_6 0 9) ∧ (Y_6 8 (Int32.toNatClampNeg ((ch_scr g).2.2 (Int32.toNatClampNeg (x5 + 1))))) = r_ ∧ m_ = ch_wr m3 (9, 0, 0) 19 0) ∨ ((¬ (0 ≤ ((ch_scr g).2.2 (Int32.toNatClampNeg (x5 + 1))) ∧ ((ch_scr g).2.2 (Int32.toNatClampNeg (x5 + 1))) < Y_6 0 9)) ∧ 0 = r_ ∧ m_ = ch_wr m3 (9, 0, 0) 19 1)) (Y_6) (((ch_scr g).2.2 (Int32.toNatClampNeg (x5 + 1)))) m3 ⟨b10, b11, (fun c_ => (Or.inl ⟨c_, rfl, rfl⟩)), (fun c_ => (Or.inr ⟨c_, rfl, rfl⟩))⟩))
    rcases q9 with ⟨c_, rfl, hm_⟩ | ⟨c_, rfl, hm_⟩
    · replace h := h.1 c_ m8 hm_
      refine ch_istore (i := 7) d_l_law_923 (Nat.le_of_ble_eq_true rfl) (ls' := [some (.inr (11, 0, 0)), some (.inr (0, 0, 0)), some (.inr (9, 0, 0)), some (.inr (10, 0, 1)), some (.inr (10, 0, 2)), some (.inl (.int x5)), some (.inl (.int 0)), some (.inl (.int (Y_6 8 (Int32.toNatClampNeg ((ch_scr g).2.2 (Int32.toNatClampNeg (x5 + 1))))))), o8, o9]) rfl ?_
      refine ch_aload_n (i := 2) d_l_law_925 rfl rfl ?_
      refine ch_callV (as := []) d_l_law_926 lk_l_129 mi_m_thrown me_m_thrown rfl rfl rfl (ch_hR hR (Nat.le_of_ble_eq_true rfl)) (Nat.le_of_ble_eq_true rfl) (ch_rc1 (k := k) (a := 1) (b := 0) hcs (Nat.le_of_ble_eq_true rfl)) (ch_mono (ch_Ki (fun r12 m13 q14 => ?_)) (s_m_thrown g (fun (r_ : Int32) (m_ : ch_M) => ((m8 (9, 0, 0) 19) = r_ ∧ m8 = m_))  m8 ⟨rfl, rfl⟩))
      obtain ⟨rfl, rfl⟩ := q14
      replace h := h
      refine ch_iload d_l_law_929 rfl ?_
      refine ch_icmp_eq (tgt := 936) d_l_law_931 (by decide) (fun c => ?_) (fun c => ?_)
      · replace h := h.1 c
        refine ch_iload d_l_law_936 rfl ?_
        refine ch_if_ne (tgt := 953) d_l_law_938 (by decide) (fun c => absurd c (by decide)) (fun _ => ?_)
        refine ch_aload_n (i := 3) d_l_law_941 rfl rfl ?_
        refine ch_iconst (v := 0) d_l_law_942 (by decide) ?_
        refine ch_lald (n := 1) d_l_law_943 (by decide) rfl (vp_in_nI (n := 0) (by decide) (by decide)) ?_
        refine ch_iload d_l_law_944 rfl ?_
        refine ch_i2l d_l_law_946 ?_
        refine ch_lcmp d_l_law_947 ?_
        refine ch_if_eq (tgt := 953) d_l_law_948 (by decide) (fun c => ?_) (fun c => ?_)
        · replace h := h.1 c
          refine ch_goto (tgt := 2096) d_l_law_953 (by decide) ?_
          exact h
        · replace h := h.2 c
          refine ch_iconst (v := 0) d_l_law_951 (by decide) ?_
          exact h
      · replace h := h.2 c
        refine ch_iconst (v := 0) d_l_law_934 (by decide) ?_
        exact h
    · replace h := h.2 c_ m8 hm_
      refine ch_istore (i := 7) d_l_law_923 (Nat.le_of_ble_eq_true rfl) (ls' := [some (.inr (11, 0, 0)), some (.inr (0, 0, 0)), some (.inr (9, 0, 0)), some (.inr (10, 0, 1)), some (.inr (10, 0, 2)), some (.inl (.int x5)), some (.inl (.int 0)), some (.inl (.int 0)), o8, o9]) rfl ?_
      refine ch_aload_n (i := 2) d_l_law_925 rfl rfl ?_
      refine ch_callV (as := []) d_l_law_926 lk_l_129 mi_m_thrown me_m_thrown rfl rfl rfl (ch_hR hR (Nat.le_of_ble_eq_true rfl)) (Nat.le_of_ble_eq_true rfl) (ch_rc1 (k := k) (a := 1) (b := 0) hcs (Nat.le_of_ble_eq_true rfl)) (ch_mono (ch_Ki (fun r15 m16 q17 => ?_)) (s_m_thrown g (fun (r_ : Int32) (m_ : ch_M) => ((m8 (9, 0, 0) 19) = r_ ∧ m8 = m_))  m8 ⟨rfl, rfl⟩))
      obtain ⟨rfl, rfl⟩ := q17
      replace h := h
      refine ch_iload d_l_law_929 rfl ?_
      refine ch_icmp_eq (tgt := 936) d_l_law_931 (by decide) (fun c => ?_) (fun c => ?_)
      · replace h := h.1 c
        refine ch_iload d_l_law_936 rfl ?_
        refine ch_if_ne (tgt := 953) d_l_law_938 (by decide) (fun c => absurd c (by decide)) (fun _ => ?_)
        refine ch_aload_n (i := 3) d_l_law_941 rfl rfl ?_
        refine ch_iconst (v := 0) d_l_law_942 (by decide) ?_
        refine ch_lald (n := 1) d_l_law_943 (by decide) rfl (vp_in_nI (n := 0) (by decide) (by decide)) ?_
        refine ch_iload d_l_law_944 rfl ?_
        refine ch_i2l d_l_law_946 ?_
        refine ch_lcmp d_l_law_947 ?_
        refine ch_if_eq (tgt := 953) d_l_law_948 (by decide) (fun c => ?_) (fun c => ?_)
        · replace h := h.1 c
          refine ch_goto (tgt := 2096) d_l_law_953 (by decide) ?_
          exact h
        · replace h := h.2 c
          refine ch_iconst (v := 0) d_l_law_951 (by decide) ?_
          exact h
      · replace h := h.2 c
        refine ch_iconst (v := 0) d_l_law_934 (by decide) ?_
        exact h
  · replace h := h.2 c_
    refine ch_istore (i := 6) d_l_law_911 (Nat.le_of_ble_eq_true rfl) (ls' := [some (.inr (11, 0, 0)), some (.inr (0, 0, 0)), some (.inr (9, 0, 0)), some (.inr (10, 0, 1)), some (.inr (10, 0, 2)), some (.inl (.int x5)), some (.inl (.int 1)), o7, o8, o9]) rfl ?_
    refine ch_aload_n (i := 2) d_l_law_913 rfl rfl ?_
    refine ch_aload_n (i := 0) d_l_law_914 rfl rfl ?_
    refine ch_iload d_l_law_915 rfl ?_
    refine ch_iconst (v := 1) d_l_law_917 (by decide) ?_
    refine ch_iadd d_l_law_918 ?_
    refine ch_sld d_l_law_919 b1 ?_
    obtain ⟨Y_18, h⟩ := h
    have b22 := h.1
    replace h := h.2
    have b23 := h.1
    replace h := h.2
    refine ch_callV (as := [.inl (.int ((ch_scr g).2.2 (Int32.toNatClampNeg (x5 + 1))))]) d_l_law_920 lk_l_168 mi_m_warrantAt me_m_warrantAt rfl rfl rfl (ch_hR hR (Nat.le_of_ble_eq_true rfl)) (Nat.le_of_ble_eq_true rfl) (ch_rc1 (k := k) (a := 1) (b := 0) hcs (Nat.le_of_ble_eq_true rfl)) (ch_mono (ch_Ki (fun r19 m20 q21 => ?_)) (s_m_warrantAt g (fun (r_ : Int32) (m_ : ch_M) => ((0 ≤ ((ch_scr g).2.2 (Int32.toNatClampNeg (x5 + 1))) ∧ ((ch_scr g).2.2 (Int32.toNatClampNeg (x5 + 1))) < Y_18 0 9) ∧ (Y_18 8 (Int32.toNatClampNeg ((ch_scr g).2.2 (Int32.toNatClampNeg (x5 + 1))))) = r_ ∧ m_ = ch_wr m (9, 0, 0) 19 0) ∨ ((¬ (0 ≤ ((ch_scr g).2.2 (Int32.toNatClampNeg (x5 + 1))) ∧ ((ch_scr g).2.2 (Int32.toNatClampNeg (x5 + 1))) < Y_18 0 9)) ∧ 0 = r_ ∧ m_ = ch_wr m (9, 0, 0) 19 1)) (Y_18) (((ch_scr g).2.2 (Int32.toNatClampNeg (x5 + 1)))) m ⟨b22, b23, (fun c_ => (Or.inl ⟨c_, rfl, rfl⟩)), (fun c_ => (Or.inr ⟨c_, rfl, rfl⟩))⟩))
    rcases q21 with ⟨c_, rfl, hm_⟩ | ⟨c_, rfl, hm_⟩
    · replace h := h.1 c_ m20 hm_
      refine ch_istore (i := 7) d_l_law_923 (Nat.le_of_ble_eq_true rfl) (ls' := [some (.inr (11, 0, 0)), some (.inr (0, 0, 0)), some (.inr (9, 0, 0)), some (.inr (10, 0, 1)), some (.inr (10, 0, 2)), some (.inl (.int x5)), some (.inl (.int 1)), some (.inl (.int (Y_18 8 (Int32.toNatClampNeg ((ch_scr g).2.2 (Int32.toNatClampNeg (x5 + 1))))))), o8, o9]) rfl ?_
      refine ch_aload_n (i := 2) d_l_law_925 rfl rfl ?_
      refine ch_callV (as := []) d_l_law_926 lk_l_129 mi_m_thrown me_m_thrown rfl rfl rfl (ch_hR hR (Nat.le_of_ble_eq_true rfl)) (Nat.le_of_ble_eq_true rfl) (ch_rc1 (k := k) (a := 1) (b := 0) hcs (Nat.le_of_ble_eq_true rfl)) (ch_mono (ch_Ki (fun r24 m25 q26 => ?_)) (s_m_thrown g (fun (r_ : Int32) (m_ : ch_M) => ((m20 (9, 0, 0) 19) = r_ ∧ m20 = m_))  m20 ⟨rfl, rfl⟩))
      obtain ⟨rfl, rfl⟩ := q26
      replace h := h
      refine ch_iload d_l_law_929 rfl ?_
      refine ch_icmp_eq (tgt := 936) d_l_law_931 (by decide) (fun c => ?_) (fun c => ?_)
      · replace h := h.1 c
        refine ch_iload d_l_law_936 rfl ?_
        refine ch_if_ne (tgt := 953) d_l_law_938 (by decide) (fun _ => ?_) (fun c => absurd c (by decide))
        refine ch_goto (tgt := 2096) d_l_law_953 (by decide) ?_
        exact h
      · replace h := h.2 c
        refine ch_iconst (v := 0) d_l_law_934 (by decide) ?_
        exact h
    · replace h := h.2 c_ m20 hm_
      refine ch_istore (i := 7) d_l_law_923 (Nat.le_of_ble_eq_true rfl) (ls' := [some (.inr (11, 0, 0)), some (.inr (0, 0, 0)), some (.inr (9, 0, 0)), some (.inr (10, 0, 1)), some (.inr (10, 0, 2)), some (.inl (.int x5)), some (.inl (.int 1)), some (.inl (.int 0)), o8, o9]) rfl ?_
      refine ch_aload_n (i := 2) d_l_law_925 rfl rfl ?_
      refine ch_callV (as := []) d_l_law_926 lk_l_129 mi_m_thrown me_m_thrown rfl rfl rfl (ch_hR hR (Nat.le_of_ble_eq_true rfl)) (Nat.le_of_ble_eq_true rfl) (ch_rc1 (k := k) (a := 1) (b := 0) hcs (Nat.le_of_ble_eq_true rfl)) (ch_mono (ch_Ki (fun r27 m28 q29 => ?_)) (s_m_thrown g (fun (r_ : Int32) (m_ : ch_M) => ((m20 (9, 0, 0) 19) = r_ ∧ m20 = m_))  m20 ⟨rfl, rfl⟩))
      obtain ⟨rfl, rfl⟩ := q29
      replace h := h
      refine ch_iload d_l_law_929 rfl ?_
      refine ch_icmp_eq (tgt := 936) d_l_law_931 (by decide) (fun c => ?_) (fun c => ?_)
      · replace h := h.1 c
        refine ch_iload d_l_law_936 rfl ?_
        refine ch_if_ne (tgt := 953) d_l_law_938 (by decide) (fun _ => ?_) (fun c => absurd c (by decide))
        refine ch_goto (tgt := 2096) d_l_law_953 (by decide) ?_
        exact h
      · replace h := h.2 c
        refine ch_iconst (v := 0) d_l_law_934 (by decide) ?_
        exact h
set_option maxHeartbeats 1600000 in
theorem g_l_law_956 (g : ch_G) (R : Room) (E : ch_En) (k : Nat) (hR : ch_RR R 18) (hcs : k + 40 ≤ R.cells ∧ 6 * k + 240 ≤ R.slots) (x5 : Int32) (o6 : Option ch_V) (o7 : Option ch_V) (o8 : Option ch_V) (o9 : Option ch_V) (m : ch_M) (h : (vp_in (x5 + 1) (ch_scr g).2.1) ∧ (((0 ≤ ((ch_scr g).2.2 (Int32.toNatClampNeg (x5 + 1))) ∧ ((ch_scr g).2.2 (Int32.toNatClampNeg (x5 + 1))) < m (1, 0, 0) 8) → (∀ m3 : ch_M, m3 = (ch_wr (ch_os m 8 0 (w_fl (ch_ob m 8 0) (w_l (ch_ob m 1 0) ((ch_scr g).2.2 (Int32.toNatClampNeg (x5 + 1)))) 12)) (10, 0, 1) 0 (w_fl (ch_ob m 8 0) (w_l (ch_ob m 1 0) ((ch_scr g).2.2 (Int32.toNatClampNeg (x5 + 1)))) 12 1 0)) → (∃ Y_5 : ch_B, (m_rel Y_5 (m3 (9, 0, 1))) ∧ (vp_in (Y_5 0 8) 6) ∧ (∀ i_, i_ < 12 → Y_5 1 i_ = -1 ∨ vp_in (Y_5 1 i_) 5) ∧ (((0 ≤ ((ch_scr g).2.2 (Int32.toNatClampNeg (x5 + 1))) ∧ ((ch_scr g).2.2 (Int32.toNatClampNeg (x5 + 1))) < Y_5 0 8) → (∀ (B6 : ch_B) (A7 : Nat → Nat) (C8 : Nat → Nat) (S9 : Nat → Nat), (w_sp (w_e Y_5 ((ch_scr g).2.2 (Int32.toNatClampNeg (x5 + 1)))) A7 C8 S9) → (∀ a_ i_, a_ ≠ 10 → a_ ≠ 11 → ¬ (a_ = 0 ∧ i_ = 19) → B6 a_ i_ = ch_ob m3 9 0 a_ i_) → (B6 0 19 = 0) → (∀ k_, k_ < 13 → B6 10 k_ = nI (A7 k_) ∧ B6 11 k_ = nI (C8 k_)) → (∀ m11 : ch_M, m11 = ch_os m3 9 0 B6 → ((((m11 (9, 0, 0) 19) = 0 → (((lg_cmp ((m11 (10, 0, 1) (0))).toInt64 ((nI (A7 0))).toInt64) = 0 → ch_J g m_l_law R E 2096 [some (.inr (11, 0, 0)), some (.inr (0, 0, 0)), some (.inr (9, 0, 0)), some (.inr (10, 0, 1)), some (.inr (10, 0, 2)), some (.inl (.int x5)), some (.inl (.int 0)), some (.inl (.int (nI (A7 0)))), o8, o9] [] m11 (k + 1)) ∧ (¬ (lg_cmp ((m11 (10, 0, 1) (0))).toInt64 ((nI (A7 0))).toInt64) = 0 → ch_J g m_l_law R E 1008 [some (.inr (11, 0, 0)), some (.inr (0, 0, 0)), some (.inr (9, 0, 0)), some (.inr (10, 0, 1)), some (.inr (10, 0, 2)), some (.inl (.int x5)), some (.inl (.int 0)), some (.inl (.int (nI (A7 0)))), o8, o9] [.inl (.int 0)] m11 (k + 1)))) ∧ (¬ (m11 (9, 0, 0) 19) = 0 → ch_J g m_l_law R E 991 [some (.inr (11, 0, 0)), some (.inr (0, 0, 0)), some (.inr (9, 0, 0)), some (.inr (10, 0, 1)), some (.inr (10, 0, 2)), some (.inl (.int x5)), some (.inl (.int 0)), some (.inl (.int (nI (A7 0)))), o8, o9] [.inl (.int 0)] m11 (k + 1))))))) ∧ ((¬ (0 ≤ ((ch_scr g).2.2 (Int32.toNatClampNeg (x5 + 1))) ∧ ((ch_scr g).2.2 (Int32.toNatClampNeg (x5 + 1))) < Y_5 0 8)) → (∀ m11 : ch_M, m11 = ch_wr m3 (9, 0, 0) 19 1 → ((((m11 (9, 0, 0) 19) = 0 → (((lg_cmp ((m11 (10, 0, 1) (0))).toInt64 (0).toInt64) = 0 → ch_J g m_l_law R E 2096 [some (.inr (11, 0, 0)), some (.inr (0, 0, 0)), some (.inr (9, 0, 0)), some (.inr (10, 0, 1)), some (.inr (10, 0, 2)), some (.inl (.int x5)), some (.inl (.int 0)), some (.inl (.int 0)), o8, o9] [] m11 (k + 1)) ∧ (¬ (lg_cmp ((m11 (10, 0, 1) (0))).toInt64 (0).toInt64) = 0 → ch_J g m_l_law R E 1008 [some (.inr (11, 0, 0)), some (.inr (0, 0, 0)), some (.inr (9, 0, 0)), some (.inr (10, 0, 1)), some (.inr (10, 0, 2)), some (.inl (.int x5)), some (.inl (.int 0)), some (.inl (.int 0)), o8, o9] [.inl (.int 0)] m11 (k + 1)))) ∧ (¬ (m11 (9, 0, 0) 19) = 0 → ch_J g m_l_law R E 991 [some (.inr (11, 0, 0)), some (.inr (0, 0, 0)), some (.inr (9, 0, 0)), some (.inr (10, 0, 1)), some (.inr (10, 0, 2)), some (.inl (.int x5)), some (.inl (.int 0)), some (.inl (.int 0)), o8, o9] [.inl (.int 0)] m11 (k + 1)))))))))) ∧ ((¬ (0 ≤ ((ch_scr g).2.2 (Int32.toNatClampNeg (x5 + 1))) ∧ ((ch_scr g).2.2 (Int32.toNatClampNeg (x5 + 1))) < m (1, 0, 0) 8)) → (∃ Y_22 : ch_B, (m_rel Y_22 (m (9, 0, 1))) ∧ (vp_in (Y_22 0 8) 6) ∧ (∀ i_, i_ < 12 → Y_22 1 i_ = -1 ∨ vp_in (Y_22 1 i_) 5) ∧ (((0 ≤ ((ch_scr g).2.2 (Int32.toNatClampNeg (x5 + 1))) ∧ ((ch_scr g).2.2 (Int32.toNatClampNeg (x5 + 1))) < Y_22 0 8) → (∀ (B23 : ch_B) (A24 : Nat → Nat) (C25 : Nat → Nat) (S26 : Nat → Nat), (w_sp (w_e Y_22 ((ch_scr g).2.2 (Int32.toNatClampNeg (x5 + 1)))) A24 C25 S26) → (∀ a_ i_, a_ ≠ 10 → a_ ≠ 11 → ¬ (a_ = 0 ∧ i_ = 19) → B23 a_ i_ = ch_ob m 9 0 a_ i_) → (B23 0 19 = 0) → (∀ k_, k_ < 13 → B23 10 k_ = nI (A24 k_) ∧ B23 11 k_ = nI (C25 k_)) → (∀ m28 : ch_M, m28 = ch_os m 9 0 B23 → ((((m28 (9, 0, 0) 19) = 1 → ch_J g m_l_law R E 2096 [some (.inr (11, 0, 0)), some (.inr (0, 0, 0)), some (.inr (9, 0, 0)), some (.inr (10, 0, 1)), some (.inr (10, 0, 2)), some (.inl (.int x5)), some (.inl (.int 1)), some (.inl (.int (nI (A24 0)))), o8, o9] [] m28 (k + 1)) ∧ (¬ (m28 (9, 0, 0) 19) = 1 → ch_J g m_l_law R E 991 [some (.inr (11, 0, 0)), some (.inr (0, 0, 0)), some (.inr (9, 0, 0)), some (.inr (10, 0, 1)), some (.inr (10, 0, 2)), some (.inl (.int x5)), some (.inl (.int 1)), some (.inl (.int (nI (A24 0)))), o8, o9] [.inl (.int 0)] m28 (k + 1))))))) ∧ ((¬ (0 ≤ ((ch_scr g).2.2 (Int32.toNatClampNeg (x5 + 1))) ∧ ((ch_scr g).2.2 (Int32.toNatClampNeg (x5 + 1))) < Y_22 0 8)) → (∀ m28 : ch_M, m28 = ch_wr m (9, 0, 0) 19 1 → ((((m28 (9, 0, 0) 19) = 1 → ch_J g m_l_law R E 2096 [some (.inr (11, 0, 0)), some (.inr (0, 0, 0)), some (.inr (9, 0, 0)), some (.inr (10, 0, 1)), some (.inr (10, 0, 2)), some (.inl (.int x5)), some (.inl (.int 1)), some (.inl (.int 0)), o8, o9] [] m28 (k + 1)) ∧ (¬ (m28 (9, 0, 0) 19) = 1 → ch_J g m_l_law R E 991 [some (.inr (11, 0, 0)), some (.inr (0, 0, 0)), some (.inr (9, 0, 0)), some (.inr (10, 0, 1)), some (.inr (10, 0, 2)), some (.inl (.int x5)), some (.inl (.int 1)), some (.inl (.int 0)), o8, o9] [.inl (.int 0)] m28 (k + 1))))))))))) : ch_J g m_l_law R E 956 [some (.inr (11, 0, 0)), some (.inr (0, 0, 0)), some (.inr (9, 0, 0)), some (.inr (10, 0, 1)), some (.inr (10, 0, 2)), some (.inl (.int x5)), o6, o7, o8, o9] [] m k := by
  refine ch_aload_n (i := 1) d_l_law_956 rfl rfl ?_
  refine ch_aload_n (i := 0) d_l_law_957 rfl rfl ?_
  refine ch_iload d_l_law_958 rfl ?_
  refine ch_iconst (v := 1) d_l_law_960 (by decide) ?_
  refine ch_iadd d_l_law_961 ?_
  have b1 := h.1
  replace h := h.2
  refine ch_sld d_l_law_962 b1 ?_
  refine ch_aload_n (i := 3) d_l_law_963 rfl rfl ?_
  refine ch_callSX (as := [.inr (0, 0, 0), .inl (.int ((ch_scr g).2.2 (Int32.toNatClampNeg (x5 + 1)))), .inr (10, 0, 1)]) d_l_law_964 lk_l_169 ms_l_fewest rfl rfl (ch_hR hR (Nat.le_of_ble_eq_true rfl)) (Nat.le_of_ble_eq_true rfl) (ch_rc0 (k := k) (b := 1) hcs (Nat.le_of_ble_eq_true rfl)) (ch_mono (ch_Ki (fun r2 m3 q4 => ?_)) (s_l_fewest g (fun (r_ : Int32) (m_ : ch_M) => ((0 ≤ ((ch_scr g).2.2 (Int32.toNatClampNeg (x5 + 1))) ∧ ((ch_scr g).2.2 (Int32.toNatClampNeg (x5 + 1))) < m (1, 0, 0) 8) ∧ 0 = r_ ∧ m_ = (ch_wr (ch_os m 8 0 (w_fl (ch_ob m 8 0) (w_l (ch_ob m 1 0) ((ch_scr g).2.2 (Int32.toNatClampNeg (x5 + 1)))) 12)) (10, 0, 1) 0 (w_fl (ch_ob m 8 0) (w_l (ch_ob m 1 0) ((ch_scr g).2.2 (Int32.toNatClampNeg (x5 + 1)))) 12 1 0))) ∨ ((¬ (0 ≤ ((ch_scr g).2.2 (Int32.toNatClampNeg (x5 + 1))) ∧ ((ch_scr g).2.2 (Int32.toNatClampNeg (x5 + 1))) < m (1, 0, 0) 8)) ∧ 1 = r_ ∧ m = m_)) (((ch_scr g).2.2 (Int32.toNatClampNeg (x5 + 1)))) m ⟨(fun c_ => (Or.inl ⟨c_, rfl, rfl⟩)), (fun c_ => (Or.inr ⟨c_, rfl, rfl⟩))⟩))
  rcases q4 with ⟨c_, rfl, hm_⟩ | ⟨c_, rfl, rfl⟩
  · replace h := h.1 c_ m3 hm_
    refine ch_istore (i := 6) d_l_law_967 (Nat.le_of_ble_eq_true rfl) (ls' := [some (.inr (11, 0, 0)), some (.inr (0, 0, 0)), some (.inr (9, 0, 0)), some (.inr (10, 0, 1)), some (.inr (10, 0, 2)), some (.inl (.int x5)), some (.inl (.int 0)), o7, o8, o9]) rfl ?_
    refine ch_aload_n (i := 2) d_l_law_969 rfl rfl ?_
    refine ch_aload_n (i := 0) d_l_law_970 rfl rfl ?_
    refine ch_iload d_l_law_971 rfl ?_
    refine ch_iconst (v := 1) d_l_law_973 (by decide) ?_
    refine ch_iadd d_l_law_974 ?_
    refine ch_sld d_l_law_975 b1 ?_
    obtain ⟨Y_5, h⟩ := h
    have b13 := h.1
    replace h := h.2
    have b14 := h.1
    replace h := h.2
    have b15 := h.1
    replace h := h.2
    refine ch_callV (as := [.inl (.int ((ch_scr g).2.2 (Int32.toNatClampNeg (x5 + 1))))]) d_l_law_976 lk_l_171 mi_m_fewest me_m_fewest rfl rfl rfl (ch_hR hR (Nat.le_of_ble_eq_true rfl)) (Nat.le_of_ble_eq_true rfl) (ch_rc1 (k := k) (a := 1) (b := 0) hcs (Nat.le_of_ble_eq_true rfl)) (ch_mono (ch_Ki (fun r10 m11 q12 => ?_)) (s_m_fewest g (fun (r_ : Int32) (m_ : ch_M) => (∃ (B6 : ch_B) (A7 : Nat → Nat) (C8 : Nat → Nat) (S9 : Nat → Nat), (0 ≤ ((ch_scr g).2.2 (Int32.toNatClampNeg (x5 + 1))) ∧ ((ch_scr g).2.2 (Int32.toNatClampNeg (x5 + 1))) < Y_5 0 8) ∧ (nI (A7 0)) = r_ ∧ (w_sp (w_e Y_5 ((ch_scr g).2.2 (Int32.toNatClampNeg (x5 + 1)))) A7 C8 S9) ∧ (∀ a_ i_, a_ ≠ 10 → a_ ≠ 11 → ¬ (a_ = 0 ∧ i_ = 19) → B6 a_ i_ = ch_ob m3 9 0 a_ i_) ∧ (B6 0 19 = 0) ∧ (∀ k_, k_ < 13 → B6 10 k_ = nI (A7 k_) ∧ B6 11 k_ = nI (C8 k_)) ∧ m_ = ch_os m3 9 0 B6) ∨ ((¬ (0 ≤ ((ch_scr g).2.2 (Int32.toNatClampNeg (x5 + 1))) ∧ ((ch_scr g).2.2 (Int32.toNatClampNeg (x5 + 1))) < Y_5 0 8)) ∧ 0 = r_ ∧ m_ = ch_wr m3 (9, 0, 0) 19 1)) (Y_5) (((ch_scr g).2.2 (Int32.toNatClampNeg (x5 + 1)))) m3 ⟨b13, b14, b15, (fun c_ B6 A7 C8 S9 f0_ f1_ f2_ f3_ => (Or.inl ⟨B6, A7, C8, S9, c_, rfl, f0_, f1_, f2_, f3_, rfl⟩)), (fun c_ => (Or.inr ⟨c_, rfl, rfl⟩))⟩))
    rcases q12 with ⟨B6, A7, C8, S9, c_, rfl, f0_, f1_, f2_, f3_, hm_⟩ | ⟨c_, rfl, hm_⟩
    · replace h := h.1 c_ B6 A7 C8 S9 f0_ f1_ f2_ f3_ m11 hm_
      refine ch_istore (i := 7) d_l_law_979 (Nat.le_of_ble_eq_true rfl) (ls' := [some (.inr (11, 0, 0)), some (.inr (0, 0, 0)), some (.inr (9, 0, 0)), some (.inr (10, 0, 1)), some (.inr (10, 0, 2)), some (.inl (.int x5)), some (.inl (.int 0)), some (.inl (.int (nI (A7 0)))), o8, o9]) rfl ?_
      refine ch_aload_n (i := 2) d_l_law_981 rfl rfl ?_
      refine ch_callV (as := []) d_l_law_982 lk_l_129 mi_m_thrown me_m_thrown rfl rfl rfl (ch_hR hR (Nat.le_of_ble_eq_true rfl)) (Nat.le_of_ble_eq_true rfl) (ch_rc1 (k := k) (a := 1) (b := 0) hcs (Nat.le_of_ble_eq_true rfl)) (ch_mono (ch_Ki (fun r16 m17 q18 => ?_)) (s_m_thrown g (fun (r_ : Int32) (m_ : ch_M) => ((m11 (9, 0, 0) 19) = r_ ∧ m11 = m_))  m11 ⟨rfl, rfl⟩))
      obtain ⟨rfl, rfl⟩ := q18
      replace h := h
      refine ch_iload d_l_law_985 rfl ?_
      refine ch_icmp_eq (tgt := 992) d_l_law_987 (by decide) (fun c => ?_) (fun c => ?_)
      · replace h := h.1 c
        refine ch_iload d_l_law_992 rfl ?_
        refine ch_if_ne (tgt := 1009) d_l_law_994 (by decide) (fun c => absurd c (by decide)) (fun _ => ?_)
        refine ch_aload_n (i := 3) d_l_law_997 rfl rfl ?_
        refine ch_iconst (v := 0) d_l_law_998 (by decide) ?_
        refine ch_lald (n := 1) d_l_law_999 (by decide) rfl (vp_in_nI (n := 0) (by decide) (by decide)) ?_
        refine ch_iload d_l_law_1000 rfl ?_
        refine ch_i2l d_l_law_1002 ?_
        refine ch_lcmp d_l_law_1003 ?_
        refine ch_if_eq (tgt := 1009) d_l_law_1004 (by decide) (fun c => ?_) (fun c => ?_)
        · replace h := h.1 c
          refine ch_goto (tgt := 2096) d_l_law_1009 (by decide) ?_
          exact h
        · replace h := h.2 c
          refine ch_iconst (v := 0) d_l_law_1007 (by decide) ?_
          exact h
      · replace h := h.2 c
        refine ch_iconst (v := 0) d_l_law_990 (by decide) ?_
        exact h
    · replace h := h.2 c_ m11 hm_
      refine ch_istore (i := 7) d_l_law_979 (Nat.le_of_ble_eq_true rfl) (ls' := [some (.inr (11, 0, 0)), some (.inr (0, 0, 0)), some (.inr (9, 0, 0)), some (.inr (10, 0, 1)), some (.inr (10, 0, 2)), some (.inl (.int x5)), some (.inl (.int 0)), some (.inl (.int 0)), o8, o9]) rfl ?_
      refine ch_aload_n (i := 2) d_l_law_981 rfl rfl ?_
      refine ch_callV (as := []) d_l_law_982 lk_l_129 mi_m_thrown me_m_thrown rfl rfl rfl (ch_hR hR (Nat.le_of_ble_eq_true rfl)) (Nat.le_of_ble_eq_true rfl) (ch_rc1 (k := k) (a := 1) (b := 0) hcs (Nat.le_of_ble_eq_true rfl)) (ch_mono (ch_Ki (fun r19 m20 q21 => ?_)) (s_m_thrown g (fun (r_ : Int32) (m_ : ch_M) => ((m11 (9, 0, 0) 19) = r_ ∧ m11 = m_))  m11 ⟨rfl, rfl⟩))
      obtain ⟨rfl, rfl⟩ := q21
      replace h := h
      refine ch_iload d_l_law_985 rfl ?_
      refine ch_icmp_eq (tgt := 992) d_l_law_987 (by decide) (fun c => ?_) (fun c => ?_)
      · replace h := h.1 c
        refine ch_iload d_l_law_992 rfl ?_
        refine ch_if_ne (tgt := 1009) d_l_law_994 (by decide) (fun c => absurd c (by decide)) (fun _ => ?_)
        refine ch_aload_n (i := 3) d_l_law_997 rfl rfl ?_
        refine ch_iconst (v := 0) d_l_law_998 (by decide) ?_
        refine ch_lald (n := 1) d_l_law_999 (by decide) rfl (vp_in_nI (n := 0) (by decide) (by decide)) ?_
        refine ch_iload d_l_law_1000 rfl ?_
        refine ch_i2l d_l_law_1002 ?_
        refine ch_lcmp d_l_law_1003 ?_
        refine ch_if_eq (tgt := 1009) d_l_law_1004 (by decide) (fun c => ?_) (fun c => ?_)
        · replace h := h.1 c
          refine ch_goto (tgt := 2096) d_l_law_1009 (by decide) ?_
          exact h
        · replace h := h.2 c
          refine ch_iconst (v := 0) d_l_law_1007 (by decide) ?_
          exact h
      · replace h := h.2 c
        refine ch_iconst (v := 0) d_l_law_990 (by decide) ?_
        exact h
  · replace h := h.2 c_
    refine ch_istore (i := 6) d_l_law_967 (Nat.le_of_ble_eq_true rfl) (ls' := [some (.inr (11, 0, 0)), some (.inr (0, 0, 0)), some (.inr (9, 0, 0)), some (.inr (10, 0, 1)), some (.inr (10, 0, 2)), some (.inl (.int x5)), some (.inl (.int 1)), o7, o8, o9]) rfl ?_
    refine ch_aload_n (i := 2) d_l_law_969 rfl rfl ?_
    refine ch_aload_n (i := 0) d_l_law_970 rfl rfl ?_
    refine ch_iload d_l_law_971 rfl ?_
    refine ch_iconst (v := 1) d_l_law_973 (by decide) ?_
    refine ch_iadd d_l_law_974 ?_
    refine ch_sld d_l_law_975 b1 ?_
    obtain ⟨Y_22, h⟩ := h
    have b30 := h.1
    replace h := h.2
    have b31 := h.1
    replace h := h.2
    have b32 := h.1
    replace h := h.2
    refine ch_callV (as := [.inl (.int ((ch_scr g).2.2 (Int32.toNatClampNeg (x5 + 1))))]) d_l_law_976 lk_l_171 mi_m_fewest me_m_fewest rfl rfl rfl (ch_hR hR (Nat.le_of_ble_eq_true rfl)) (Nat.le_of_ble_eq_true rfl) (ch_rc1 (k := k) (a := 1) (b := 0) hcs (Nat.le_of_ble_eq_true rfl)) (ch_mono (ch_Ki (fun r27 m28 q29 => ?_)) (s_m_fewest g (fun (r_ : Int32) (m_ : ch_M) => (∃ (B23 : ch_B) (A24 : Nat → Nat) (C25 : Nat → Nat) (S26 : Nat → Nat), (0 ≤ ((ch_scr g).2.2 (Int32.toNatClampNeg (x5 + 1))) ∧ ((ch_scr g).2.2 (Int32.toNatClampNeg (x5 + 1))) < Y_22 0 8) ∧ (nI (A24 0)) = r_ ∧ (w_sp (w_e Y_22 ((ch_scr g).2.2 (Int32.toNatClampNeg (x5 + 1)))) A24 C25 S26) ∧ (∀ a_ i_, a_ ≠ 10 → a_ ≠ 11 → ¬ (a_ = 0 ∧ i_ = 19) → B23 a_ i_ = ch_ob m 9 0 a_ i_) ∧ (B23 0 19 = 0) ∧ (∀ k_, k_ < 13 → B23 10 k_ = nI (A24 k_) ∧ B23 11 k_ = nI (C25 k_)) ∧ m_ = ch_os m 9 0 B23) ∨ ((¬ (0 ≤ ((ch_scr g).2.2 (Int32.toNatClampNeg (x5 + 1))) ∧ ((ch_scr g).2.2 (Int32.toNatClampNeg (x5 + 1))) < Y_22 0 8)) ∧ 0 = r_ ∧ m_ = ch_wr m (9, 0, 0) 19 1)) (Y_22) (((ch_scr g).2.2 (Int32.toNatClampNeg (x5 + 1)))) m ⟨b30, b31, b32, (fun c_ B23 A24 C25 S26 f0_ f1_ f2_ f3_ => (Or.inl ⟨B23, A24, C25, S26, c_, rfl, f0_, f1_, f2_, f3_, rfl⟩)), (fun c_ => (Or.inr ⟨c_, rfl, rfl⟩))⟩))
    rcases q29 with ⟨B23, A24, C25, S26, c_, rfl, f0_, f1_, f2_, f3_, hm_⟩ | ⟨c_, rfl, hm_⟩
    · replace h := h.1 c_ B23 A24 C25 S26 f0_ f1_ f2_ f3_ m28 hm_
      refine ch_istore (i := 7) d_l_law_979 (Nat.le_of_ble_eq_true rfl) (ls' := [some (.inr (11, 0, 0)), some (.inr (0, 0, 0)), some (.inr (9, 0, 0)), some (.inr (10, 0, 1)), some (.inr (10, 0, 2)), some (.inl (.int x5)), some (.inl (.int 1)), some (.inl (.int (nI (A24 0)))), o8, o9]) rfl ?_
      refine ch_aload_n (i := 2) d_l_law_981 rfl rfl ?_
      refine ch_callV (as := []) d_l_law_982 lk_l_129 mi_m_thrown me_m_thrown rfl rfl rfl (ch_hR hR (Nat.le_of_ble_eq_true rfl)) (Nat.le_of_ble_eq_true rfl) (ch_rc1 (k := k) (a := 1) (b := 0) hcs (Nat.le_of_ble_eq_true rfl)) (ch_mono (ch_Ki (fun r33 m34 q35 => ?_)) (s_m_thrown g (fun (r_ : Int32) (m_ : ch_M) => ((m28 (9, 0, 0) 19) = r_ ∧ m28 = m_))  m28 ⟨rfl, rfl⟩))
      obtain ⟨rfl, rfl⟩ := q35
      replace h := h
      refine ch_iload d_l_law_985 rfl ?_
      refine ch_icmp_eq (tgt := 992) d_l_law_987 (by decide) (fun c => ?_) (fun c => ?_)
      · replace h := h.1 c
        refine ch_iload d_l_law_992 rfl ?_
        refine ch_if_ne (tgt := 1009) d_l_law_994 (by decide) (fun _ => ?_) (fun c => absurd c (by decide))
        refine ch_goto (tgt := 2096) d_l_law_1009 (by decide) ?_
        exact h
      · replace h := h.2 c
        refine ch_iconst (v := 0) d_l_law_990 (by decide) ?_
        exact h
    · replace h := h.2 c_ m28 hm_
      refine ch_istore (i := 7) d_l_law_979 (Nat.le_of_ble_eq_true rfl) (ls' := [some (.inr (11, 0, 0)), some (.inr (0, 0, 0)), some (.inr (9, 0, 0)), some (.inr (10, 0, 1)), some (.inr (10, 0, 2)), some (.inl (.int x5)), some (.inl (.int 1)), some (.inl (.int 0)), o8, o9]) rfl ?_
      refine ch_aload_n (i := 2) d_l_law_981 rfl rfl ?_
      refine ch_callV (as := []) d_l_law_982 lk_l_129 mi_m_thrown me_m_thrown rfl rfl rfl (ch_hR hR (Nat.le_of_ble_eq_true rfl)) (Nat.le_of_ble_eq_true rfl) (ch_rc1 (k := k) (a := 1) (b := 0) hcs (Nat.le_of_ble_eq_true rfl)) (ch_mono (ch_Ki (fun r36 m37 q38 => ?_)) (s_m_thrown g (fun (r_ : Int32) (m_ : ch_M) => ((m28 (9, 0, 0) 19) = r_ ∧ m28 = m_))  m28 ⟨rfl, rfl⟩))
      obtain ⟨rfl, rfl⟩ := q38
      replace h := h
      refine ch_iload d_l_law_985 rfl ?_
      refine ch_icmp_eq (tgt := 992) d_l_law_987 (by decide) (fun c => ?_) (fun c => ?_)
      · replace h := h.1 c
        refine ch_iload d_l_law_992 rfl ?_
        refine ch_if_ne (tgt := 1009) d_l_law_994 (by decide) (fun _ => ?_) (fun c => absurd c (by decide))
        refine ch_goto (tgt := 2096) d_l_law_1009 (by decide) ?_
        exact h
      · replace h := h.2 c
        refine ch_iconst (v := 0) d_l_law_990 (by decide) ?_
        exact h
set_option maxHeartbeats 1600000 in
theorem g_l_law_1012 (g : ch_G) (R : Room) (E : ch_En) (k : Nat) (hR : ch_RR R 18) (hcs : k + 40 ≤ R.cells ∧ 6 * k + 240 ≤ R.slots) (x5 : Int32) (o6 : Option ch_V) (o7 : Option ch_V) (o8 : Option ch_V) (o9 : Option ch_V) (m : ch_M) (h : (vp_in (x5 + 1) (ch_scr g).2.1) ∧ (((0 ≤ ((ch_scr g).2.2 (Int32.toNatClampNeg (x5 + 1))) ∧ ((ch_scr g).2.2 (Int32.toNatClampNeg (x5 + 1))) < m (1, 0, 0) 8) → (∀ m3 : ch_M, m3 = (ch_wr (ch_os m 8 0 ((w_fo (ch_ob m 8 0) (w_l (ch_ob m 1 0) ((ch_scr g).2.2 (Int32.toNatClampNeg (x5 + 1)))) 14).1)) (10, 0, 1) 0 ((w_fo (ch_ob m 8 0) (w_l (ch_ob m 1 0) ((ch_scr g).2.2 (Int32.toNatClampNeg (x5 + 1)))) 14).2)) → (∃ Y_5 : ch_B, (m_rel Y_5 (m3 (9, 0, 1))) ∧ (vp_in (Y_5 0 8) 6) ∧ (∀ i_, i_ < 12 → Y_5 1 i_ = -1 ∨ vp_in (Y_5 1 i_) 5) ∧ (((0 ≤ ((ch_scr g).2.2 (Int32.toNatClampNeg (x5 + 1))) ∧ ((ch_scr g).2.2 (Int32.toNatClampNeg (x5 + 1))) < Y_5 0 8) → (∀ (B6 : ch_B) (A7 : Nat → Nat) (C8 : Nat → Nat) (S9 : Nat → Nat), (w_sp (w_e Y_5 ((ch_scr g).2.2 (Int32.toNatClampNeg (x5 + 1)))) A7 C8 S9) → (∀ a_ i_, a_ ≠ 10 → a_ ≠ 11 → ¬ (a_ = 0 ∧ i_ = 19) → B6 a_ i_ = ch_ob m3 9 0 a_ i_) → (B6 0 19 = 0) → (∀ k_, k_ < 13 → B6 10 k_ = nI (A7 k_) ∧ B6 11 k_ = nI (C8 k_)) → (∀ m11 : ch_M, m11 = ch_os m3 9 0 B6 → ((((m11 (9, 0, 0) 19) = 0 → (((lg_cmp ((m11 (10, 0, 1) (0))).toInt64 ((nI (A7 0))).toInt64) = 0 → ch_J g m_l_law R E 2096 [some (.inr (11, 0, 0)), some (.inr (0, 0, 0)), some (.inr (9, 0, 0)), some (.inr (10, 0, 1)), some (.inr (10, 0, 2)), some (.inl (.int x5)), some (.inl (.int 0)), some (.inl (.int (nI (A7 0)))), o8, o9] [] m11 (k + 1)) ∧ (¬ (lg_cmp ((m11 (10, 0, 1) (0))).toInt64 ((nI (A7 0))).toInt64) = 0 → ch_J g m_l_law R E 1064 [some (.inr (11, 0, 0)), some (.inr (0, 0, 0)), some (.inr (9, 0, 0)), some (.inr (10, 0, 1)), some (.inr (10, 0, 2)), some (.inl (.int x5)), some (.inl (.int 0)), some (.inl (.int (nI (A7 0)))), o8, o9] [.inl (.int 0)] m11 (k + 1)))) ∧ (¬ (m11 (9, 0, 0) 19) = 0 → ch_J g m_l_law R E 1047 [some (.inr (11, 0, 0)), some (.inr (0, 0, 0)), some (.inr (9, 0, 0)), some (.inr (10, 0, 1)), some (.inr (10, 0, 2)), some (.inl (.int x5)), some (.inl (.int 0)), some (.inl (.int (nI (A7 0)))), o8, o9] [.inl (.int 0)] m11 (k + 1))))))) ∧ ((¬ (0 ≤ ((ch_scr g).2.2 (Int32.toNatClampNeg (x5 + 1))) ∧ ((ch_scr g).2.2 (Int32.toNatClampNeg (x5 + 1))) < Y_5 0 8)) → (∀ m11 : ch_M, m11 = ch_wr m3 (9, 0, 0) 19 1 → ((((m11 (9, 0, 0) 19) = 0 → (((lg_cmp ((m11 (10, 0, 1) (0))).toInt64 (0).toInt64) = 0 → ch_J g m_l_law R E 2096 [some (.inr (11, 0, 0)), some (.inr (0, 0, 0)), some (.inr (9, 0, 0)), some (.inr (10, 0, 1)), some (.inr (10, 0, 2)), some (.inl (.int x5)), some (.inl (.int 0)), some (.inl (.int 0)), o8, o9] [] m11 (k + 1)) ∧ (¬ (lg_cmp ((m11 (10, 0, 1) (0))).toInt64 (0).toInt64) = 0 → ch_J g m_l_law R E 1064 [some (.inr (11, 0, 0)), some (.inr (0, 0, 0)), some (.inr (9, 0, 0)), some (.inr (10, 0, 1)), some (.inr (10, 0, 2)), some (.inl (.int x5)), some (.inl (.int 0)), some (.inl (.int 0)), o8, o9] [.inl (.int 0)] m11 (k + 1)))) ∧ (¬ (m11 (9, 0, 0) 19) = 0 → ch_J g m_l_law R E 1047 [some (.inr (11, 0, 0)), some (.inr (0, 0, 0)), some (.inr (9, 0, 0)), some (.inr (10, 0, 1)), some (.inr (10, 0, 2)), some (.inl (.int x5)), some (.inl (.int 0)), some (.inl (.int 0)), o8, o9] [.inl (.int 0)] m11 (k + 1)))))))))) ∧ ((¬ (0 ≤ ((ch_scr g).2.2 (Int32.toNatClampNeg (x5 + 1))) ∧ ((ch_scr g).2.2 (Int32.toNatClampNeg (x5 + 1))) < m (1, 0, 0) 8)) → (∃ Y_22 : ch_B, (m_rel Y_22 (m (9, 0, 1))) ∧ (vp_in (Y_22 0 8) 6) ∧ (∀ i_, i_ < 12 → Y_22 1 i_ = -1 ∨ vp_in (Y_22 1 i_) 5) ∧ (((0 ≤ ((ch_scr g).2.2 (Int32.toNatClampNeg (x5 + 1))) ∧ ((ch_scr g).2.2 (Int32.toNatClampNeg (x5 + 1))) < Y_22 0 8) → (∀ (B23 : ch_B) (A24 : Nat → Nat) (C25 : Nat → Nat) (S26 : Nat → Nat), (w_sp (w_e Y_22 ((ch_scr g).2.2 (Int32.toNatClampNeg (x5 + 1)))) A24 C25 S26) → (∀ a_ i_, a_ ≠ 10 → a_ ≠ 11 → ¬ (a_ = 0 ∧ i_ = 19) → B23 a_ i_ = ch_ob m 9 0 a_ i_) → (B23 0 19 = 0) → (∀ k_, k_ < 13 → B23 10 k_ = nI (A24 k_) ∧ B23 11 k_ = nI (C25 k_)) → (∀ m28 : ch_M, m28 = ch_os m 9 0 B23 → ((((m28 (9, 0, 0) 19) = 1 → ch_J g m_l_law R E 2096 [some (.inr (11, 0, 0)), some (.inr (0, 0, 0)), some (.inr (9, 0, 0)), some (.inr (10, 0, 1)), some (.inr (10, 0, 2)), some (.inl (.int x5)), some (.inl (.int 1)), some (.inl (.int (nI (A24 0)))), o8, o9] [] m28 (k + 1)) ∧ (¬ (m28 (9, 0, 0) 19) = 1 → ch_J g m_l_law R E 1047 [some (.inr (11, 0, 0)), some (.inr (0, 0, 0)), some (.inr (9, 0, 0)), some (.inr (10, 0, 1)), some (.inr (10, 0, 2)), some (.inl (.int x5)), some (.inl (.int 1)), some (.inl (.int (nI (A24 0)))), o8, o9] [.inl (.int 0)] m28 (k + 1))))))) ∧ ((¬ (0 ≤ ((ch_scr g).2.2 (Int32.toNatClampNeg (x5 + 1))) ∧ ((ch_scr g).2.2 (Int32.toNatClampNeg (x5 + 1))) < Y_22 0 8)) → (∀ m28 : ch_M, m28 = ch_wr m (9, 0, 0) 19 1 → ((((m28 (9, 0, 0) 19) = 1 → ch_J g m_l_law R E 2096 [some (.inr (11, 0, 0)), some (.inr (0, 0, 0)), some (.inr (9, 0, 0)), some (.inr (10, 0, 1)), some (.inr (10, 0, 2)), some (.inl (.int x5)), some (.inl (.int 1)), some (.inl (.int 0)), o8, o9] [] m28 (k + 1)) ∧ (¬ (m28 (9, 0, 0) 19) = 1 → ch_J g m_l_law R E 1047 [some (.inr (11, 0, 0)), some (.inr (0, 0, 0)), some (.inr (9, 0, 0)), some (.inr (10, 0, 1)), some (.inr (10, 0, 2)), some (.inl (.int x5)), some (.inl (.int 1)), some (.inl (.int 0)), o8, o9] [.inl (.int 0)] m28 (k + 1))))))))))) : ch_J g m_l_law R E 1012 [some (.inr (11, 0, 0)), some (.inr (0, 0, 0)), some (.inr (9, 0, 0)), some (.inr (10, 0, 1)), some (.inr (10, 0, 2)), some (.inl (.int x5)), o6, o7, o8, o9] [] m k := by
  refine ch_aload_n (i := 1) d_l_law_1012 rfl rfl ?_
  refine ch_aload_n (i := 0) d_l_law_1013 rfl rfl ?_
  refine ch_iload d_l_law_1014 rfl ?_
  refine ch_iconst (v := 1) d_l_law_1016 (by decide) ?_
  refine ch_iadd d_l_law_1017 ?_
  have b1 := h.1
  replace h := h.2
  refine ch_sld d_l_law_1018 b1 ?_
  refine ch_aload_n (i := 3) d_l_law_1019 rfl rfl ?_
  refine ch_callSX (as := [.inr (0, 0, 0), .inl (.int ((ch_scr g).2.2 (Int32.toNatClampNeg (x5 + 1)))), .inr (10, 0, 1)]) d_l_law_1020 lk_l_172 ms_l_fewestAgain rfl rfl (ch_hR hR (Nat.le_of_ble_eq_true rfl)) (Nat.le_of_ble_eq_true rfl) (ch_rc0 (k := k) (b := 1) hcs (Nat.le_of_ble_eq_true rfl)) (ch_mono (ch_Ki (fun r2 m3 q4 => ?_)) (s_l_fewestAgain g (fun (r_ : Int32) (m_ : ch_M) => ((0 ≤ ((ch_scr g).2.2 (Int32.toNatClampNeg (x5 + 1))) ∧ ((ch_scr g).2.2 (Int32.toNatClampNeg (x5 + 1))) < m (1, 0, 0) 8) ∧ 0 = r_ ∧ m_ = (ch_wr (ch_os m 8 0 ((w_fo (ch_ob m 8 0) (w_l (ch_ob m 1 0) ((ch_scr g).2.2 (Int32.toNatClampNeg (x5 + 1)))) 14).1)) (10, 0, 1) 0 ((w_fo (ch_ob m 8 0) (w_l (ch_ob m 1 0) ((ch_scr g).2.2 (Int32.toNatClampNeg (x5 + 1)))) 14).2))) ∨ ((¬ (0 ≤ ((ch_scr g).2.2 (Int32.toNatClampNeg (x5 + 1))) ∧ ((ch_scr g).2.2 (Int32.toNatClampNeg (x5 + 1))) < m (1, 0, 0) 8)) ∧ 1 = r_ ∧ m = m_)) (((ch_scr g).2.2 (Int32.toNatClampNeg (x5 + 1)))) m ⟨(fun c_ => (Or.inl ⟨c_, rfl, rfl⟩)), (fun c_ => (Or.inr ⟨c_, rfl, rfl⟩))⟩))
  rcases q4 with ⟨c_, rfl, hm_⟩ | ⟨c_, rfl, rfl⟩
  · replace h := h.1 c_ m3 hm_
    refine ch_istore (i := 6) d_l_law_1023 (Nat.le_of_ble_eq_true rfl) (ls' := [some (.inr (11, 0, 0)), some (.inr (0, 0, 0)), some (.inr (9, 0, 0)), some (.inr (10, 0, 1)), some (.inr (10, 0, 2)), some (.inl (.int x5)), some (.inl (.int 0)), o7, o8, o9]) rfl ?_
    refine ch_aload_n (i := 2) d_l_law_1025 rfl rfl ?_
    refine ch_aload_n (i := 0) d_l_law_1026 rfl rfl ?_
    refine ch_iload d_l_law_1027 rfl ?_
    refine ch_iconst (v := 1) d_l_law_1029 (by decide) ?_
    refine ch_iadd d_l_law_1030 ?_
    refine ch_sld d_l_law_1031 b1 ?_
    obtain ⟨Y_5, h⟩ := h
    have b13 := h.1
    replace h := h.2
    have b14 := h.1
    replace h := h.2
    have b15 := h.1
    replace h := h.2
    refine ch_callV (as := [.inl (.int ((ch_scr g).2.2 (Int32.toNatClampNeg (x5 + 1))))]) d_l_law_1032 lk_l_174 mi_m_fewestAgain me_m_fewestAgain rfl rfl rfl (ch_hR hR (Nat.le_of_ble_eq_true rfl)) (Nat.le_of_ble_eq_true rfl) (ch_rc1 (k := k) (a := 1) (b := 0) hcs (Nat.le_of_ble_eq_true rfl)) (ch_mono (ch_Ki (fun r10 m11 q12 => ?_)) (s_m_fewestAgain g (fun (r_ : Int32) (m_ : ch_M) => (∃ (B6 : ch_B) (A7 : Nat → Nat) (C8 : Nat → Nat) (S9 : Nat → Nat), (0 ≤ ((ch_scr g).2.2 (Int32.toNatClampNeg (x5 + 1))) ∧ ((ch_scr g).2.2 (Int32.toNatClampNeg (x5 + 1))) < Y_5 0 8) ∧ (nI (A7 0)) = r_ ∧ (w_sp (w_e Y_5 ((ch_scr g).2.2 (Int32.toNatClampNeg (x5 + 1)))) A7 C8 S9) ∧ (∀ a_ i_, a_ ≠ 10 → a_ ≠ 11 → ¬ (a_ = 0 ∧ i_ = 19) → B6 a_ i_ = ch_ob m3 9 0 a_ i_) ∧ (B6 0 19 = 0) ∧ (∀ k_, k_ < 13 → B6 10 k_ = nI (A7 k_) ∧ B6 11 k_ = nI (C8 k_)) ∧ m_ = ch_os m3 9 0 B6) ∨ ((¬ (0 ≤ ((ch_scr g).2.2 (Int32.toNatClampNeg (x5 + 1))) ∧ ((ch_scr g).2.2 (Int32.toNatClampNeg (x5 + 1))) < Y_5 0 8)) ∧ 0 = r_ ∧ m_ = ch_wr m3 (9, 0, 0) 19 1)) (Y_5) (((ch_scr g).2.2 (Int32.toNatClampNeg (x5 + 1)))) m3 ⟨b13, b14, b15, (fun c_ B6 A7 C8 S9 f0_ f1_ f2_ f3_ => (Or.inl ⟨B6, A7, C8, S9, c_, rfl, f0_, f1_, f2_, f3_, rfl⟩)), (fun c_ => (Or.inr ⟨c_, rfl, rfl⟩))⟩))
    rcases q12 with ⟨B6, A7, C8, S9, c_, rfl, f0_, f1_, f2_, f3_, hm_⟩ | ⟨c_, rfl, hm_⟩
    · replace h := h.1 c_ B6 A7 C8 S9 f0_ f1_ f2_ f3_ m11 hm_
      refine ch_istore (i := 7) d_l_law_1035 (Nat.le_of_ble_eq_true rfl) (ls' := [some (.inr (11, 0, 0)), some (.inr (0, 0, 0)), some (.inr (9, 0, 0)), some (.inr (10, 0, 1)), some (.inr (10, 0, 2)), some (.inl (.int x5)), some (.inl (.int 0)), some (.inl (.int (nI (A7 0)))), o8, o9]) rfl ?_
      refine ch_aload_n (i := 2) d_l_law_1037 rfl rfl ?_
      refine ch_callV (as := []) d_l_law_1038 lk_l_129 mi_m_thrown me_m_thrown rfl rfl rfl (ch_hR hR (Nat.le_of_ble_eq_true rfl)) (Nat.le_of_ble_eq_true rfl) (ch_rc1 (k := k) (a := 1) (b := 0) hcs (Nat.le_of_ble_eq_true rfl)) (ch_mono (ch_Ki (fun r16 m17 q18 => ?_)) (s_m_thrown g (fun (r_ : Int32) (m_ : ch_M) => ((m11 (9, 0, 0) 19) = r_ ∧ m11 = m_))  m11 ⟨rfl, rfl⟩))
      obtain ⟨rfl, rfl⟩ := q18
      replace h := h
      refine ch_iload d_l_law_1041 rfl ?_
      refine ch_icmp_eq (tgt := 1048) d_l_law_1043 (by decide) (fun c => ?_) (fun c => ?_)
      · replace h := h.1 c
        refine ch_iload d_l_law_1048 rfl ?_
        refine ch_if_ne (tgt := 1065) d_l_law_1050 (by decide) (fun c => absurd c (by decide)) (fun _ => ?_)
        refine ch_aload_n (i := 3) d_l_law_1053 rfl rfl ?_
        refine ch_iconst (v := 0) d_l_law_1054 (by decide) ?_
        refine ch_lald (n := 1) d_l_law_1055 (by decide) rfl (vp_in_nI (n := 0) (by decide) (by decide)) ?_
        refine ch_iload d_l_law_1056 rfl ?_
        refine ch_i2l d_l_law_1058 ?_
        refine ch_lcmp d_l_law_1059 ?_
        refine ch_if_eq (tgt := 1065) d_l_law_1060 (by decide) (fun c => ?_) (fun c => ?_)
        · replace h := h.1 c
          refine ch_goto (tgt := 2096) d_l_law_1065 (by decide) ?_
          exact h
        · replace h := h.2 c
          refine ch_iconst (v := 0) d_l_law_1063 (by decide) ?_
          exact h
      · replace h := h.2 c
        refine ch_iconst (v := 0) d_l_law_1046 (by decide) ?_
        exact h
    · replace h := h.2 c_ m11 hm_
      refine ch_istore (i := 7) d_l_law_1035 (Nat.le_of_ble_eq_true rfl) (ls' := [some (.inr (11, 0, 0)), some (.inr (0, 0, 0)), some (.inr (9, 0, 0)), some (.inr (10, 0, 1)), some (.inr (10, 0, 2)), some (.inl (.int x5)), some (.inl (.int 0)), some (.inl (.int 0)), o8, o9]) rfl ?_
      refine ch_aload_n (i := 2) d_l_law_1037 rfl rfl ?_
      refine ch_callV (as := []) d_l_law_1038 lk_l_129 mi_m_thrown me_m_thrown rfl rfl rfl (ch_hR hR (Nat.le_of_ble_eq_true rfl)) (Nat.le_of_ble_eq_true rfl) (ch_rc1 (k := k) (a := 1) (b := 0) hcs (Nat.le_of_ble_eq_true rfl)) (ch_mono (ch_Ki (fun r19 m20 q21 => ?_)) (s_m_thrown g (fun (r_ : Int32) (m_ : ch_M) => ((m11 (9, 0, 0) 19) = r_ ∧ m11 = m_))  m11 ⟨rfl, rfl⟩))
      obtain ⟨rfl, rfl⟩ := q21
      replace h := h
      refine ch_iload d_l_law_1041 rfl ?_
      refine ch_icmp_eq (tgt := 1048) d_l_law_1043 (by decide) (fun c => ?_) (fun c => ?_)
      · replace h := h.1 c
        refine ch_iload d_l_law_1048 rfl ?_
        refine ch_if_ne (tgt := 1065) d_l_law_1050 (by decide) (fun c => absurd c (by decide)) (fun _ => ?_)
        refine ch_aload_n (i := 3) d_l_law_1053 rfl rfl ?_
        refine ch_iconst (v := 0) d_l_law_1054 (by decide) ?_
        refine ch_lald (n := 1) d_l_law_1055 (by decide) rfl (vp_in_nI (n := 0) (by decide) (by decide)) ?_
        refine ch_iload d_l_law_1056 rfl ?_
        refine ch_i2l d_l_law_1058 ?_
        refine ch_lcmp d_l_law_1059 ?_
        refine ch_if_eq (tgt := 1065) d_l_law_1060 (by decide) (fun c => ?_) (fun c => ?_)
        · replace h := h.1 c
          refine ch_goto (tgt := 2096) d_l_law_1065 (by decide) ?_
          exact h
        · replace h := h.2 c
          refine ch_iconst (v := 0) d_l_law_1063 (by decide) ?_
          exact h
      · replace h := h.2 c
        refine ch_iconst (v := 0) d_l_law_1046 (by decide) ?_
        exact h
  · replace h := h.2 c_
    refine ch_istore (i := 6) d_l_law_1023 (Nat.le_of_ble_eq_true rfl) (ls' := [some (.inr (11, 0, 0)), some (.inr (0, 0, 0)), some (.inr (9, 0, 0)), some (.inr (10, 0, 1)), some (.inr (10, 0, 2)), some (.inl (.int x5)), some (.inl (.int 1)), o7, o8, o9]) rfl ?_
    refine ch_aload_n (i := 2) d_l_law_1025 rfl rfl ?_
    refine ch_aload_n (i := 0) d_l_law_1026 rfl rfl ?_
    refine ch_iload d_l_law_1027 rfl ?_
    refine ch_iconst (v := 1) d_l_law_1029 (by decide) ?_
    refine ch_iadd d_l_law_1030 ?_
    refine ch_sld d_l_law_1031 b1 ?_
    obtain ⟨Y_22, h⟩ := h
    have b30 := h.1
    replace h := h.2
    have b31 := h.1
    replace h := h.2
    have b32 := h.1
    replace h := h.2
    refine ch_callV (as := [.inl (.int ((ch_scr g).2.2 (Int32.toNatClampNeg (x5 + 1))))]) d_l_law_1032 lk_l_174 mi_m_fewestAgain me_m_fewestAgain rfl rfl rfl (ch_hR hR (Nat.le_of_ble_eq_true rfl)) (Nat.le_of_ble_eq_true rfl) (ch_rc1 (k := k) (a := 1) (b := 0) hcs (Nat.le_of_ble_eq_true rfl)) (ch_mono (ch_Ki (fun r27 m28 q29 => ?_)) (s_m_fewestAgain g (fun (r_ : Int32) (m_ : ch_M) => (∃ (B23 : ch_B) (A24 : Nat → Nat) (C25 : Nat → Nat) (S26 : Nat → Nat), (0 ≤ ((ch_scr g).2.2 (Int32.toNatClampNeg (x5 + 1))) ∧ ((ch_scr g).2.2 (Int32.toNatClampNeg (x5 + 1))) < Y_22 0 8) ∧ (nI (A24 0)) = r_ ∧ (w_sp (w_e Y_22 ((ch_scr g).2.2 (Int32.toNatClampNeg (x5 + 1)))) A24 C25 S26) ∧ (∀ a_ i_, a_ ≠ 10 → a_ ≠ 11 → ¬ (a_ = 0 ∧ i_ = 19) → B23 a_ i_ = ch_ob m 9 0 a_ i_) ∧ (B23 0 19 = 0) ∧ (∀ k_, k_ < 13 → B23 10 k_ = nI (A24 k_) ∧ B23 11 k_ = nI (C25 k_)) ∧ m_ = ch_os m 9 0 B23) ∨ ((¬ (0 ≤ ((ch_scr g).2.2 (Int32.toNatClampNeg (x5 + 1))) ∧ ((ch_scr g).2.2 (Int32.toNatClampNeg (x5 + 1))) < Y_22 0 8)) ∧ 0 = r_ ∧ m_ = ch_wr m (9, 0, 0) 19 1)) (Y_22) (((ch_scr g).2.2 (Int32.toNatClampNeg (x5 + 1)))) m ⟨b30, b31, b32, (fun c_ B23 A24 C25 S26 f0_ f1_ f2_ f3_ => (Or.inl ⟨B23, A24, C25, S26, c_, rfl, f0_, f1_, f2_, f3_, rfl⟩)), (fun c_ => (Or.inr ⟨c_, rfl, rfl⟩))⟩))
    rcases q29 with ⟨B23, A24, C25, S26, c_, rfl, f0_, f1_, f2_, f3_, hm_⟩ | ⟨c_, rfl, hm_⟩
    · replace h := h.1 c_ B23 A24 C25 S26 f0_ f1_ f2_ f3_ m28 hm_
      refine ch_istore (i := 7) d_l_law_1035 (Nat.le_of_ble_eq_true rfl) (ls' := [some (.inr (11, 0, 0)), some (.inr (0, 0, 0)), some (.inr (9, 0, 0)), some (.inr (10, 0, 1)), some (.inr (10, 0, 2)), some (.inl (.int x5)), some (.inl (.int 1)), some (.inl (.int (nI (A24 0)))), o8, o9]) rfl ?_
      refine ch_aload_n (i := 2) d_l_law_1037 rfl rfl ?_
      refine ch_callV (as := []) d_l_law_1038 lk_l_129 mi_m_thrown me_m_thrown rfl rfl rfl (ch_hR hR (Nat.le_of_ble_eq_true rfl)) (Nat.le_of_ble_eq_true rfl) (ch_rc1 (k := k) (a := 1) (b := 0) hcs (Nat.le_of_ble_eq_true rfl)) (ch_mono (ch_Ki (fun r33 m34 q35 => ?_)) (s_m_thrown g (fun (r_ : Int32) (m_ : ch_M) => ((m28 (9, 0, 0) 19) = r_ ∧ m28 = m_))  m28 ⟨rfl, rfl⟩))
      obtain ⟨rfl, rfl⟩ := q35
      replace h := h
      refine ch_iload d_l_law_1041 rfl ?_
      refine ch_icmp_eq (tgt := 1048) d_l_law_1043 (by decide) (fun c => ?_) (fun c => ?_)
      · replace h := h.1 c
        refine ch_iload d_l_law_1048 rfl ?_
        refine ch_if_ne (tgt := 1065) d_l_law_1050 (by decide) (fun _ => ?_) (fun c => absurd c (by decide))
        refine ch_goto (tgt := 2096) d_l_law_1065 (by decide) ?_
        exact h
      · replace h := h.2 c
        refine ch_iconst (v := 0) d_l_law_1046 (by decide) ?_
        exact h
    · replace h := h.2 c_ m28 hm_
      refine ch_istore (i := 7) d_l_law_1035 (Nat.le_of_ble_eq_true rfl) (ls' := [some (.inr (11, 0, 0)), some (.inr (0, 0, 0)), some (.inr (9, 0, 0)), some (.inr (10, 0, 1)), some (.inr (10, 0, 2)), some (.inl (.int x5)), some (.inl (.int 1)), some (.inl (.int 0)), o8, o9]) rfl ?_
      refine ch_aload_n (i := 2) d_l_law_1037 rfl rfl ?_
      refine ch_callV (as := []) d_l_law_1038 lk_l_129 mi_m_thrown me_m_thrown rfl rfl rfl (ch_hR hR (Nat.le_of_ble_eq_true rfl)) (Nat.le_of_ble_eq_true rfl) (ch_rc1 (k := k) (a := 1) (b := 0) hcs (Nat.le_of_ble_eq_true rfl)) (ch_mono (ch_Ki (fun r36 m37 q38 => ?_)) (s_m_thrown g (fun (r_ : Int32) (m_ : ch_M) => ((m28 (9, 0, 0) 19) = r_ ∧ m28 = m_))  m28 ⟨rfl, rfl⟩))
      obtain ⟨rfl, rfl⟩ := q38
      replace h := h
      refine ch_iload d_l_law_1041 rfl ?_
      refine ch_icmp_eq (tgt := 1048) d_l_law_1043 (by decide) (fun c => ?_) (fun c => ?_)
      · replace h := h.1 c
        refine ch_iload d_l_law_1048 rfl ?_
        refine ch_if_ne (tgt := 1065) d_l_law_1050 (by decide) (fun _ => ?_) (fun c => absurd c (by decide))
        refine ch_goto (tgt := 2096) d_l_law_1065 (by decide) ?_
        exact h
      · replace h := h.2 c
        refine ch_iconst (v := 0) d_l_law_1046 (by decide) ?_
        exact h
set_option maxHeartbeats 1600000 in
theorem g_l_law_1068 (g : ch_G) (R : Room) (E : ch_En) (k : Nat) (hR : ch_RR R 18) (hcs : k + 40 ≤ R.cells ∧ 6 * k + 240 ≤ R.slots) (x5 : Int32) (o6 : Option ch_V) (o7 : Option ch_V) (o8 : Option ch_V) (o9 : Option ch_V) (m : ch_M) (h : (vp_in (x5 + 1) (ch_scr g).2.1) ∧ (vp_in (x5 + 2) (ch_scr g).2.1) ∧ ((((0 ≤ ((ch_scr g).2.2 (Int32.toNatClampNeg (x5 + 1))) ∧ ((ch_scr g).2.2 (Int32.toNatClampNeg (x5 + 1))) < m (1, 0, 0) 8) ∧ 0 ≤ ((ch_scr g).2.2 (Int32.toNatClampNeg (x5 + 2))) ∧ ((ch_scr g).2.2 (Int32.toNatClampNeg (x5 + 2))) < x_sT (ch_ob m 5 1) (x_sW m ((ch_scr g).2.2 (Int32.toNatClampNeg (x5 + 1)))) 0 1) → (∀ m4 : ch_M, m4 = (ch_wr (ch_os (ch_os m 8 0 (x_sW m ((ch_scr g).2.2 (Int32.toNatClampNeg (x5 + 1))))) 5 1 (x_sT (ch_ob m 5 1) (x_sW m ((ch_scr g).2.2 (Int32.toNatClampNeg (x5 + 1)))))) (10, 0, 1) 0 (x_sT (ch_ob m 5 1) (x_sW m ((ch_scr g).2.2 (Int32.toNatClampNeg (x5 + 1)))) 1 (Int32.toNatClampNeg ((ch_scr g).2.2 (Int32.toNatClampNeg (x5 + 2)))))) → (∃ Y_6 : ch_B, (m_rel Y_6 (m4 (9, 0, 1))) ∧ (vp_in (Y_6 0 8) 6) ∧ (∀ i_, i_ < 12 → Y_6 1 i_ = -1 ∨ vp_in (Y_6 1 i_) 5) ∧ (((0 ≤ ((ch_scr g).2.2 (Int32.toNatClampNeg (x5 + 1))) ∧ ((ch_scr g).2.2 (Int32.toNatClampNeg (x5 + 1))) < Y_6 0 8) → (∀ (B7 : ch_B) (A8 : Nat → Nat) (C9 : Nat → Nat) (S10 : Nat → Nat), (w_sp (w_e Y_6 ((ch_scr g).2.2 (Int32.toNatClampNeg (x5 + 1)))) A8 C9 S10) → (0 ≤ ((ch_scr g).2.2 (Int32.toNatClampNeg (x5 + 2))) ∧ ((ch_scr g).2.2 (Int32.toNatClampNeg (x5 + 2))) < nI (C9 0)) → (∀ a_ i_, a_ ≠ 10 → a_ ≠ 11 → ¬ (a_ = 0 ∧ i_ = 19) → B7 a_ i_ = ch_ob m4 9 0 a_ i_) → (B7 0 19 = 0) → (∀ m16 : ch_M, m16 = ch_os m4 9 0 B7 → ((((m16 (9, 0, 0) 19) = 0 → (((lg_cmp ((m16 (10, 0, 1) (0))).toInt64 ((nI (S10 (w_pt S10 (Int32.toNatClampNeg ((ch_scr g).2.2 (Int32.toNatClampNeg (x5 + 2)))))))).toInt64) = 0 → ch_J g m_l_law R E 2096 [some (.inr (11, 0, 0)), some (.inr (0, 0, 0)), some (.inr (9, 0, 0)), some (.inr (10, 0, 1)), some (.inr (10, 0, 2)), some (.inl (.int x5)), some (.inl (.int 0)), some (.inl (.int (nI (S10 (w_pt S10 (Int32.toNatClampNeg ((ch_scr g).2.2 (Int32.toNatClampNeg (x5 + 2))))))))), o8, o9] [] m16 (k + 2)) ∧ (¬ (lg_cmp ((m16 (10, 0, 1) (0))).toInt64 ((nI (S10 (w_pt S10 (Int32.toNatClampNeg ((ch_scr g).2.2 (Int32.toNatClampNeg (x5 + 2)))))))).toInt64) = 0 → ch_J g m_l_law R E 1132 [some (.inr (11, 0, 0)), some (.inr (0, 0, 0)), some (.inr (9, 0, 0)), some (.inr (10, 0, 1)), some (.inr (10, 0, 2)), some (.inl (.int x5)), some (.inl (.int 0)), some (.inl (.int (nI (S10 (w_pt S10 (Int32.toNatClampNeg ((ch_scr g).2.2 (Int32.toNatClampNeg (x5 + 2))))))))), o8, o9] [.inl (.int 0)] m16 (k + 2)))) ∧ (¬ (m16 (9, 0, 0) 19) = 0 → ch_J g m_l_law R E 1115 [some (.inr (11, 0, 0)), some (.inr (0, 0, 0)), some (.inr (9, 0, 0)), some (.inr (10, 0, 1)), some (.inr (10, 0, 2)), some (.inl (.int x5)), some (.inl (.int 0)), some (.inl (.int (nI (S10 (w_pt S10 (Int32.toNatClampNeg ((ch_scr g).2.2 (Int32.toNatClampNeg (x5 + 2))))))))), o8, o9] [.inl (.int 0)] m16 (k + 2))))))) ∧ ((¬ (0 ≤ ((ch_scr g).2.2 (Int32.toNatClampNeg (x5 + 1))) ∧ ((ch_scr g).2.2 (Int32.toNatClampNeg (x5 + 1))) < Y_6 0 8)) → (∀ m16 : ch_M, m16 = ch_wr m4 (9, 0, 0) 19 1 → ((((m16 (9, 0, 0) 19) = 0 → (((lg_cmp ((m16 (10, 0, 1) (0))).toInt64 (0).toInt64) = 0 → ch_J g m_l_law R E 2096 [some (.inr (11, 0, 0)), some (.inr (0, 0, 0)), some (.inr (9, 0, 0)), some (.inr (10, 0, 1)), some (.inr (10, 0, 2)), some (.inl (.int x5)), some (.inl (.int 0)), some (.inl (.int 0)), o8, o9] [] m16 (k + 2)) ∧ (¬ (lg_cmp ((m16 (10, 0, 1) (0))).toInt64 (0).toInt64) = 0 → ch_J g m_l_law R E 1132 [some (.inr (11, 0, 0)), some (.inr (0, 0, 0)), some (.inr (9, 0, 0)), some (.inr (10, 0, 1)), some (.inr (10, 0, 2)), some (.inl (.int x5)), some (.inl (.int 0)), some (.inl (.int 0)), o8, o9] [.inl (.int 0)] m16 (k + 2)))) ∧ (¬ (m16 (9, 0, 0) 19) = 0 → ch_J g m_l_law R E 1115 [some (.inr (11, 0, 0)), some (.inr (0, 0, 0)), some (.inr (9, 0, 0)), some (.inr (10, 0, 1)), some (.inr (10, 0, 2)), some (.inl (.int x5)), some (.inl (.int 0)), some (.inl (.int 0)), o8, o9] [.inl (.int 0)] m16 (k + 2)))))) ∧ ((0 ≤ ((ch_scr g).2.2 (Int32.toNatClampNeg (x5 + 1))) ∧ ((ch_scr g).2.2 (Int32.toNatClampNeg (x5 + 1))) < Y_6 0 8) → (∀ (B11 : ch_B) (A12 : Nat → Nat) (C13 : Nat → Nat) (S14 : Nat → Nat), (w_sp (w_e Y_6 ((ch_scr g).2.2 (Int32.toNatClampNeg (x5 + 1)))) A12 C13 S14) → (¬ (0 ≤ ((ch_scr g).2.2 (Int32.toNatClampNeg (x5 + 2))) ∧ ((ch_scr g).2.2 (Int32.toNatClampNeg (x5 + 2))) < nI (C13 0))) → (∀ a_ i_, a_ ≠ 10 → a_ ≠ 11 → ¬ (a_ = 0 ∧ i_ = 19) → B11 a_ i_ = ch_ob m4 9 0 a_ i_) → (B11 0 19 = 2) → (∀ m16 : ch_M, m16 = ch_os m4 9 0 B11 → ((((m16 (9, 0, 0) 19) = 0 → (((lg_cmp ((m16 (10, 0, 1) (0))).toInt64 (0).toInt64) = 0 → ch_J g m_l_law R E 2096 [some (.inr (11, 0, 0)), some (.inr (0, 0, 0)), some (.inr (9, 0, 0)), some (.inr (10, 0, 1)), some (.inr (10, 0, 2)), some (.inl (.int x5)), some (.inl (.int 0)), some (.inl (.int 0)), o8, o9] [] m16 (k + 2)) ∧ (¬ (lg_cmp ((m16 (10, 0, 1) (0))).toInt64 (0).toInt64) = 0 → ch_J g m_l_law R E 1132 [some (.inr (11, 0, 0)), some (.inr (0, 0, 0)), some (.inr (9, 0, 0)), some (.inr (10, 0, 1)), some (.inr (10, 0, 2)), some (.inl (.int x5)), some (.inl (.int 0)), some (.inl (.int 0)), o8, o9] [.inl (.int 0)] m16 (k + 2)))) ∧ (¬ (m16 (9, 0, 0) 19) = 0 → ch_J g m_l_law R E 1115 [some (.inr (11, 0, 0)), some (.inr (0, 0, 0)), some (.inr (9, 0, 0)), some (.inr (10, 0, 1)), some (.inr (10, 0, 2)), some (.inl (.int x5)), some (.inl (.int 0)), some (.inl (.int 0)), o8, o9] [.inl (.int 0)] m16 (k + 2))))))))))) ∧ ((¬ (0 ≤ ((ch_scr g).2.2 (Int32.toNatClampNeg (x5 + 1))) ∧ ((ch_scr g).2.2 (Int32.toNatClampNeg (x5 + 1))) < m (1, 0, 0) 8)) → (∃ Y_30 : ch_B, (m_rel Y_30 (m (9, 0, 1))) ∧ (vp_in (Y_30 0 8) 6) ∧ (∀ i_, i_ < 12 → Y_30 1 i_ = -1 ∨ vp_in (Y_30 1 i_) 5) ∧ (((0 ≤ ((ch_scr g).2.2 (Int32.toNatClampNeg (x5 + 1))) ∧ ((ch_scr g).2.2 (Int32.toNatClampNeg (x5 + 1))) < Y_30 0 8) → (∀ (B31 : ch_B) (A32 : Nat → Nat) (C33 : Nat → Nat) (S34 : Nat → Nat), (w_sp (w_e Y_30 ((ch_scr g).2.2 (Int32.toNatClampNeg (x5 + 1)))) A32 C33 S34) → (0 ≤ ((ch_scr g).2.2 (Int32.toNatClampNeg (x5 + 2))) ∧ ((ch_scr g).2.2 (Int32.toNatClampNeg (x5 + 2))) < nI (C33 0)) → (∀ a_ i_, a_ ≠ 10 → a_ ≠ 11 → ¬ (a_ = 0 ∧ i_ = 19) → B31 a_ i_ = ch_ob m 9 0 a_ i_) → (B31 0 19 = 0) → (∀ m40 : ch_M, m40 = ch_os m 9 0 B31 → ((((m40 (9, 0, 0) 19) = 1 → ch_J g m_l_law R E 2096 [some (.inr (11, 0, 0)), some (.inr (0, 0, 0)), some (.inr (9, 0, 0)), some (.inr (10, 0, 1)), some (.inr (10, 0, 2)), some (.inl (.int x5)), some (.inl (.int 1)), some (.inl (.int (nI (S34 (w_pt S34 (Int32.toNatClampNeg ((ch_scr g).2.2 (Int32.toNatClampNeg (x5 + 2))))))))), o8, o9] [] m40 (k + 2)) ∧ (¬ (m40 (9, 0, 0) 19) = 1 → ch_J g m_l_law R E 1115 [some (.inr (11, 0, 0)), some (.inr (0, 0, 0)), some (.inr (9, 0, 0)), some (.inr (10, 0, 1)), some (.inr (10, 0, 2)), some (.inl (.int x5)), some (.inl (.int 1)), some (.inl (.int (nI (S34 (w_pt S34 (Int32.toNatClampNeg ((ch_scr g).2.2 (Int32.toNatClampNeg (x5 + 2))))))))), o8, o9] [.inl (.int 0)] m40 (k + 2))))))) ∧ ((¬ (0 ≤ ((ch_scr g).2.2 (Int32.toNatClampNeg (x5 + 1))) ∧ ((ch_scr g).2.2 (Int32.toNatClampNeg (x5 + 1))) < Y_30 0 8)) → (∀ m40 : ch_M, m40 = ch_wr m (9, 0, 0) 19 1 → ((((m40 (9, 0, 0) 19) = 1 → ch_J g m_l_law R E 2096 [some (.inr (11, 0, 0)), some (.inr (0, 0, 0)), some (.inr (9, 0, 0)), some (.inr (10, 0, 1)), some (.inr (10, 0, 2)), some (.inl (.int x5)), some (.inl (.int 1)), some (.inl (.int 0)), o8, o9] [] m40 (k + 2)) ∧ (¬ (m40 (9, 0, 0) 19) = 1 → ch_J g m_l_law R E 1115 [some (.inr (11, 0, 0)), some (.inr (0, 0, 0)), some (.inr (9, 0, 0)), some (.inr (10, 0, 1)), some (.inr (10, 0, 2)), some (.inl (.int x5)), some (.inl (.int 1)), some (.inl (.int 0)), o8, o9] [.inl (.int 0)] m40 (k + 2)))))) ∧ ((0 ≤ ((ch_scr g).2.2 (Int32.toNatClampNeg (x5 + 1))) ∧ ((ch_scr g).2.2 (Int32.toNatClampNeg (x5 + 1))) < Y_30 0 8) → (∀ (B35 : ch_B) (A36 : Nat → Nat) (C37 : Nat → Nat) (S38 : Nat → Nat), (w_sp (w_e Y_30 ((ch_scr g).2.2 (Int32.toNatClampNeg (x5 + 1)))) A36 C37 S38) → (¬ (0 ≤ ((ch_scr g).2.2 (Int32.toNatClampNeg (x5 + 2))) ∧ ((ch_scr g).2.2 (Int32.toNatClampNeg (x5 + 2))) < nI (C37 0))) → (∀ a_ i_, a_ ≠ 10 → a_ ≠ 11 → ¬ (a_ = 0 ∧ i_ = 19) → B35 a_ i_ = ch_ob m 9 0 a_ i_) → (B35 0 19 = 2) → (∀ m40 : ch_M, m40 = ch_os m 9 0 B35 → ((((m40 (9, 0, 0) 19) = 1 → ch_J g m_l_law R E 2096 [some (.inr (11, 0, 0)), some (.inr (0, 0, 0)), some (.inr (9, 0, 0)), some (.inr (10, 0, 1)), some (.inr (10, 0, 2)), some (.inl (.int x5)), some (.inl (.int 1)), some (.inl (.int 0)), o8, o9] [] m40 (k + 2)) ∧ (¬ (m40 (9, 0, 0) 19) = 1 → ch_J g m_l_law R E 1115 [some (.inr (11, 0, 0)), some (.inr (0, 0, 0)), some (.inr (9, 0, 0)), some (.inr (10, 0, 1)), some (.inr (10, 0, 2)), some (.inl (.int x5)), some (.inl (.int 1)), some (.inl (.int 0)), o8, o9] [.inl (.int 0)] m40 (k + 2)))))))))) ∧ (((0 ≤ ((ch_scr g).2.2 (Int32.toNatClampNeg (x5 + 1))) ∧ ((ch_scr g).2.2 (Int32.toNatClampNeg (x5 + 1))) < m (1, 0, 0) 8) ∧ ¬ (0 ≤ ((ch_scr g).2.2 (Int32.toNatClampNeg (x5 + 2))) ∧ ((ch_scr g).2.2 (Int32.toNatClampNeg (x5 + 2))) < x_sT (ch_ob m 5 1) (x_sW m ((ch_scr g).2.2 (Int32.toNatClampNeg (x5 + 1)))) 0 1)) → (∀ m4 : ch_M, m4 = ch_os (ch_os m 8 0 (x_sW m ((ch_scr g).2.2 (Int32.toNatClampNeg (x5 + 1))))) 5 1 (x_sT (ch_ob m 5 1) (x_sW m ((ch_scr g).2.2 (Int32.toNatClampNeg (x5 + 1))))) → (∃ Y_54 : ch_B, (m_rel Y_54 (m4 (9, 0, 1))) ∧ (vp_in (Y_54 0 8) 6) ∧ (∀ i_, i_ < 12 → Y_54 1 i_ = -1 ∨ vp_in (Y_54 1 i_) 5) ∧ (((0 ≤ ((ch_scr g).2.2 (Int32.toNatClampNeg (x5 + 1))) ∧ ((ch_scr g).2.2 (Int32.toNatClampNeg (x5 + 1))) < Y_54 0 8) → (∀ (B55 : ch_B) (A56 : Nat → Nat) (C57 : Nat → Nat) (S58 : Nat → Nat), (w_sp (w_e Y_54 ((ch_scr g).2.2 (Int32.toNatClampNeg (x5 + 1)))) A56 C57 S58) → (0 ≤ ((ch_scr g).2.2 (Int32.toNatClampNeg (x5 + 2))) ∧ ((ch_scr g).2.2 (Int32.toNatClampNeg (x5 + 2))) < nI (C57 0)) → (∀ a_ i_, a_ ≠ 10 → a_ ≠ 11 → ¬ (a_ = 0 ∧ i_ = 19) → B55 a_ i_ = ch_ob m4 9 0 a_ i_) → (B55 0 19 = 0) → (∀ m64 : ch_M, m64 = ch_os m4 9 0 B55 → ((((m64 (9, 0, 0) 19) = 2 → ch_J g m_l_law R E 2096 [some (.inr (11, 0, 0)), some (.inr (0, 0, 0)), some (.inr (9, 0, 0)), some (.inr (10, 0, 1)), some (.inr (10, 0, 2)), some (.inl (.int x5)), some (.inl (.int 2)), some (.inl (.int (nI (S58 (w_pt S58 (Int32.toNatClampNeg ((ch_scr g).2.2 (Int32.toNatClampNeg (x5 + 2))))))))), o8, o9] [] m64 (k + 2)) ∧ (¬ (m64 (9, 0, 0) 19) = 2 → ch_J g m_l_law R E 1115 [some (.inr (11, 0, 0)), some (.inr (0, 0, 0)), some (.inr (9, 0, 0)), some (.inr (10, 0, 1)), some (.inr (10, 0, 2)), some (.inl (.int x5)), some (.inl (.int 2)), some (.inl (.int (nI (S58 (w_pt S58 (Int32.toNatClampNeg ((ch_scr g).2.2 (Int32.toNatClampNeg (x5 + 2))))))))), o8, o9] [.inl (.int 0)] m64 (k + 2))))))) ∧ ((¬ (0 ≤ ((ch_scr g).2.2 (Int32.toNatClampNeg (x5 + 1))) ∧ ((ch_scr g).2.2 (Int32.toNatClampNeg (x5 + 1))) < Y_54 0 8)) → (∀ m64 : ch_M, m64 = ch_wr m4 (9, 0, 0) 19 1 → ((((m64 (9, 0, 0) 19) = 2 → ch_J g m_l_law R E 2096 [some (.inr (11, 0, 0)), some (.inr (0, 0, 0)), some (.inr (9, 0, 0)), some (.inr (10, 0, 1)), some (.inr (10, 0, 2)), some (.inl (.int x5)), some (.inl (.int 2)), some (.inl (.int 0)), o8, o9] [] m64 (k + 2)) ∧ (¬ (m64 (9, 0, 0) 19) = 2 → ch_J g m_l_law R E 1115 [some (.inr (11, 0, 0)), some (.inr (0, 0, 0)), some (.inr (9, 0, 0)), some (.inr (10, 0, 1)), some (.inr (10, 0, 2)), some (.inl (.int x5)), some (.inl (.int 2)), some (.inl (.int 0)), o8, o9] [.inl (.int 0)] m64 (k + 2)))))) ∧ ((0 ≤ ((ch_scr g).2.2 (Int32.toNatClampNeg (x5 + 1))) ∧ ((ch_scr g).2.2 (Int32.toNatClampNeg (x5 + 1))) < Y_54 0 8) → (∀ (B59 : ch_B) (A60 : Nat → Nat) (C61 : Nat → Nat) (S62 : Nat → Nat), (w_sp (w_e Y_54 ((ch_scr g).2.2 (Int32.toNatClampNeg (x5 + 1)))) A60 C61 S62) → (¬ (0 ≤ ((ch_scr g).2.2 (Int32.toNatClampNeg (x5 + 2))) ∧ ((ch_scr g).2.2 (Int32.toNatClampNeg (x5 + 2))) < nI (C61 0))) → (∀ a_ i_, a_ ≠ 10 → a_ ≠ 11 → ¬ (a_ = 0 ∧ i_ = 19) → B59 a_ i_ = ch_ob m4 9 0 a_ i_) → (B59 0 19 = 2) → (∀ m64 : ch_M, m64 = ch_os m4 9 0 B59 → ((((m64 (9, 0, 0) 19) = 2 → ch_J g m_l_law R E 2096 [some (.inr (11, 0, 0)), some (.inr (0, 0, 0)), some (.inr (9, 0, 0)), some (.inr (10, 0, 1)), some (.inr (10, 0, 2)), some (.inl (.int x5)), some (.inl (.int 2)), some (.inl (.int 0)), o8, o9] [] m64 (k + 2)) ∧ (¬ (m64 (9, 0, 0) 19) = 2 → ch_J g m_l_law R E 1115 [some (.inr (11, 0, 0)), some (.inr (0, 0, 0)), some (.inr (9, 0, 0)), some (.inr (10, 0, 1)), some (.inr (10, 0, 2)), some (.inl (.int x5)), some (.inl (.int 2)), some (.inl (.int 0)), o8, o9] [.inl (.int 0)] m64 (k + 2))))))))))))) : ch_J g m_l_law R E 1068 [some (.inr (11, 0, 0)), some (.inr (0, 0, 0)), some (.inr (9, 0, 0)), some (.inr (10, 0, 1)), some (.inr (10, 0, 2)), some (.inl (.int x5)), o6, o7, o8, o9] [] m k := by
  refine ch_aload_n (i := 1) d_l_law_1068 rfl rfl ?_
  refine ch_aload_n (i := 0) d_l_law_1069 rfl rfl ?_
  refine ch_iload d_l_law_1070 rfl ?_
  refine ch_iconst (v := 1) d_l_law_1072 (by decide) ?_
  refine ch_iadd d_l_law_1073 ?_
  have b1 := h.1
  replace h := h.2
  refine ch_sld d_l_law_1074 b1 ?_
  refine ch_aload_n (i := 0) d_l_law_1075 rfl rfl ?_
  refine ch_iload d_l_law_1076 rfl ?_
  refine ch_iconst (v := 2) d_l_law_1078 (by decide) ?_
  refine ch_iadd d_l_law_1079 ?_
  have b2 := h.1
  replace h := h.2
  refine ch_sld d_l_law_1080 b2 ?_
  refine ch_aload_n (i := 3) d_l_law_1081 rfl rfl ?_
  refine ch_callSX (as := [.inr (0, 0, 0), .inl (.int ((ch_scr g).2.2 (Int32.toNatClampNeg (x5 + 1)))), .inl (.int ((ch_scr g).2.2 (Int32.toNatClampNeg (x5 + 2)))), .inr (10, 0, 1)]) d_l_law_1082 lk_l_175 ms_l_step rfl rfl (ch_hR hR (Nat.le_of_ble_eq_true rfl)) (Nat.le_of_ble_eq_true rfl) (ch_rc0 (k := k) (b := 2) hcs (Nat.le_of_ble_eq_true rfl)) (ch_mono (ch_Ki (fun r3 m4 q5 => ?_)) (s_l_step g (fun (r_ : Int32) (m_ : ch_M) => (((0 ≤ ((ch_scr g).2.2 (Int32.toNatClampNeg (x5 + 1))) ∧ ((ch_scr g).2.2 (Int32.toNatClampNeg (x5 + 1))) < m (1, 0, 0) 8) ∧ 0 ≤ ((ch_scr g).2.2 (Int32.toNatClampNeg (x5 + 2))) ∧ ((ch_scr g).2.2 (Int32.toNatClampNeg (x5 + 2))) < x_sT (ch_ob m 5 1) (x_sW m ((ch_scr g).2.2 (Int32.toNatClampNeg (x5 + 1)))) 0 1) ∧ 0 = r_ ∧ m_ = (ch_wr (ch_os (ch_os m 8 0 (x_sW m ((ch_scr g).2.2 (Int32.toNatClampNeg (x5 + 1))))) 5 1 (x_sT (ch_ob m 5 1) (x_sW m ((ch_scr g).2.2 (Int32.toNatClampNeg (x5 + 1)))))) (10, 0, 1) 0 (x_sT (ch_ob m 5 1) (x_sW m ((ch_scr g).2.2 (Int32.toNatClampNeg (x5 + 1)))) 1 (Int32.toNatClampNeg ((ch_scr g).2.2 (Int32.toNatClampNeg (x5 + 2))))))) ∨ ((¬ (0 ≤ ((ch_scr g).2.2 (Int32.toNatClampNeg (x5 + 1))) ∧ ((ch_scr g).2.2 (Int32.toNatClampNeg (x5 + 1))) < m (1, 0, 0) 8)) ∧ 1 = r_ ∧ m = m_) ∨ (((0 ≤ ((ch_scr g).2.2 (Int32.toNatClampNeg (x5 + 1))) ∧ ((ch_scr g).2.2 (Int32.toNatClampNeg (x5 + 1))) < m (1, 0, 0) 8) ∧ ¬ (0 ≤ ((ch_scr g).2.2 (Int32.toNatClampNeg (x5 + 2))) ∧ ((ch_scr g).2.2 (Int32.toNatClampNeg (x5 + 2))) < x_sT (ch_ob m 5 1) (x_sW m ((ch_scr g).2.2 (Int32.toNatClampNeg (x5 + 1)))) 0 1)) ∧ 2 = r_ ∧ m_ = ch_os (ch_os m 8 0 (x_sW m ((ch_scr g).2.2 (Int32.toNatClampNeg (x5 + 1))))) 5 1 (x_sT (ch_ob m 5 1) (x_sW m ((ch_scr g).2.2 (Int32.toNatClampNeg (x5 + 1))))))) (((ch_scr g).2.2 (Int32.toNatClampNeg (x5 + 1)))) (((ch_scr g).2.2 (Int32.toNatClampNeg (x5 + 2)))) m ⟨(fun c_ => (Or.inl ⟨c_, rfl, rfl⟩)), (fun c_ => (Or.inr (Or.inl ⟨c_, rfl, rfl⟩))), (fun c_ => (Or.inr (Or.inr ⟨c_, rfl, rfl⟩)))⟩))
  rcases q5 with ⟨c_, rfl, hm_⟩ | ⟨c_, rfl, rfl⟩ | ⟨c_, rfl, hm_⟩
  · replace h := h.1 c_ m4 hm_
    refine ch_istore (i := 6) d_l_law_1085 (Nat.le_of_ble_eq_true rfl) (ls' := [some (.inr (11, 0, 0)), some (.inr (0, 0, 0)), some (.inr (9, 0, 0)), some (.inr (10, 0, 1)), some (.inr (10, 0, 2)), some (.inl (.int x5)), some (.inl (.int 0)), o7, o8, o9]) rfl ?_
    refine ch_aload_n (i := 2) d_l_law_1087 rfl rfl ?_
    refine ch_aload_n (i := 0) d_l_law_1088 rfl rfl ?_
    refine ch_iload d_l_law_1089 rfl ?_
    refine ch_iconst (v := 1) d_l_law_1091 (by decide) ?_
    refine ch_iadd d_l_law_1092 ?_
    refine ch_sld d_l_law_1093 b1 ?_
    refine ch_aload_n (i := 0) d_l_law_1094 rfl rfl ?_
    refine ch_iload d_l_law_1095 rfl ?_
    refine ch_iconst (v := 2) d_l_law_1097 (by decide) ?_
    refine ch_iadd d_l_law_1098 ?_
    refine ch_sld d_l_law_1099 b2 ?_
    obtain ⟨Y_6, h⟩ := h
    have b18 := h.1
    replace h := h.2
    have b19 := h.1
    replace h := h.2
    have b20 := h.1
    replace h := h.2
    refine ch_callV (as := [.inl (.int ((ch_scr g).2.2 (Int32.toNatClampNeg (x5 + 1)))), .inl (.int ((ch_scr g).2.2 (Int32.toNatClampNeg (x5 + 2))))]) d_l_law_1100 lk_l_177 mi_m_step me_m_step rfl rfl rfl (ch_hR hR (Nat.le_of_ble_eq_true rfl)) (Nat.le_of_ble_eq_true rfl) (ch_rc1 (k := k) (a := 2) (b := 0) hcs (Nat.le_of_ble_eq_true rfl)) (ch_mono (ch_Ki (fun r15 m16 q17 => ?_)) (s_m_step g (fun (r_ : Int32) (m_ : ch_M) => (∃ (B7 : ch_B) (A8 : Nat → Nat) (C9 : Nat → Nat) (S10 : Nat → Nat), (0 ≤ ((ch_scr g).2.2 (Int32.toNatClampNeg (x5 + 1))) ∧ ((ch_scr g).2.2 (Int32.toNatClampNeg (x5 + 1))) < Y_6 0 8) ∧ (nI (S10 (w_pt S10 (Int32.toNatClampNeg ((ch_scr g).2.2 (Int32.toNatClampNeg (x5 + 2))))))) = r_ ∧ (w_sp (w_e Y_6 ((ch_scr g).2.2 (Int32.toNatClampNeg (x5 + 1)))) A8 C9 S10) ∧ (0 ≤ ((ch_scr g).2.2 (Int32.toNatClampNeg (x5 + 2))) ∧ ((ch_scr g).2.2 (Int32.toNatClampNeg (x5 + 2))) < nI (C9 0)) ∧ (∀ a_ i_, a_ ≠ 10 → a_ ≠ 11 → ¬ (a_ = 0 ∧ i_ = 19) → B7 a_ i_ = ch_ob m4 9 0 a_ i_) ∧ (B7 0 19 = 0) ∧ m_ = ch_os m4 9 0 B7) ∨ ((¬ (0 ≤ ((ch_scr g).2.2 (Int32.toNatClampNeg (x5 + 1))) ∧ ((ch_scr g).2.2 (Int32.toNatClampNeg (x5 + 1))) < Y_6 0 8)) ∧ 0 = r_ ∧ m_ = ch_wr m4 (9, 0, 0) 19 1) ∨ (∃ (B11 : ch_B) (A12 : Nat → Nat) (C13 : Nat → Nat) (S14 : Nat → Nat), (0 ≤ ((ch_scr g).2.2 (Int32.toNatClampNeg (x5 + 1))) ∧ ((ch_scr g).2.2 (Int32.toNatClampNeg (x5 + 1))) < Y_6 0 8) ∧ 0 = r_ ∧ (w_sp (w_e Y_6 ((ch_scr g).2.2 (Int32.toNatClampNeg (x5 + 1)))) A12 C13 S14) ∧ (¬ (0 ≤ ((ch_scr g).2.2 (Int32.toNatClampNeg (x5 + 2))) ∧ ((ch_scr g).2.2 (Int32.toNatClampNeg (x5 + 2))) < nI (C13 0))) ∧ (∀ a_ i_, a_ ≠ 10 → a_ ≠ 11 → ¬ (a_ = 0 ∧ i_ = 19) → B11 a_ i_ = ch_ob m4 9 0 a_ i_) ∧ (B11 0 19 = 2) ∧ m_ = ch_os m4 9 0 B11)) (Y_6) (((ch_scr g).2.2 (Int32.toNatClampNeg (x5 + 1)))) (((ch_scr g).2.2 (Int32.toNatClampNeg (x5 + 2)))) m4 ⟨b18, b19, b20, (fun c_ B7 A8 C9 S10 f0_ f1_ f2_ f3_ => (Or.inl ⟨B7, A8, C9, S10, c_, rfl, f0_, f1_, f2_, f3_, rfl⟩)), (fun c_ => (Or.inr (Or.inl ⟨c_, rfl, rfl⟩))), (fun c_ B11 A12 C13 S14 f0_ f1_ f2_ f3_ => (Or.inr (Or.inr ⟨B11, A12, C13, S14, c_, rfl, f0_, f1_, f2_, f3_, rfl⟩)))⟩))
    rcases q17 with ⟨B7, A8, C9, S10, c_, rfl, f0_, f1_, f2_, f3_, hm_⟩ | ⟨c_, rfl, hm_⟩ | ⟨B11, A12, C13, S14, c_, rfl, f0_, f1_, f2_, f3_, hm_⟩
    · replace h := h.1 c_ B7 A8 C9 S10 f0_ f1_ f2_ f3_ m16 hm_
      refine ch_istore (i := 7) d_l_law_1103 (Nat.le_of_ble_eq_true rfl) (ls' := [some (.inr (11, 0, 0)), some (.inr (0, 0, 0)), some (.inr (9, 0, 0)), some (.inr (10, 0, 1)), some (.inr (10, 0, 2)), some (.inl (.int x5)), some (.inl (.int 0)), some (.inl (.int (nI (S10 (w_pt S10 (Int32.toNatClampNeg ((ch_scr g).2.2 (Int32.toNatClampNeg (x5 + 2))))))))), o8, o9]) rfl ?_
      refine ch_aload_n (i := 2) d_l_law_1105 rfl rfl ?_
      refine ch_callV (as := []) d_l_law_1106 lk_l_129 mi_m_thrown me_m_thrown rfl rfl rfl (ch_hR hR (Nat.le_of_ble_eq_true rfl)) (Nat.le_of_ble_eq_true rfl) (ch_rc1 (k := k) (a := 2) (b := 0) hcs (Nat.le_of_ble_eq_true rfl)) (ch_mono (ch_Ki (fun r21 m22 q23 => ?_)) (s_m_thrown g (fun (r_ : Int32) (m_ : ch_M) => ((m16 (9, 0, 0) 19) = r_ ∧ m16 = m_))  m16 ⟨rfl, rfl⟩))
      obtain ⟨rfl, rfl⟩ := q23
      replace h := h
      refine ch_iload d_l_law_1109 rfl ?_
      refine ch_icmp_eq (tgt := 1116) d_l_law_1111 (by decide) (fun c => ?_) (fun c => ?_)
      · replace h := h.1 c
        refine ch_iload d_l_law_1116 rfl ?_
        refine ch_if_ne (tgt := 1133) d_l_law_1118 (by decide) (fun c => absurd c (by decide)) (fun _ => ?_)
        refine ch_aload_n (i := 3) d_l_law_1121 rfl rfl ?_
        refine ch_iconst (v := 0) d_l_law_1122 (by decide) ?_
        refine ch_lald (n := 1) d_l_law_1123 (by decide) rfl (vp_in_nI (n := 0) (by decide) (by decide)) ?_
        refine ch_iload d_l_law_1124 rfl ?_
        refine ch_i2l d_l_law_1126 ?_
        refine ch_lcmp d_l_law_1127 ?_
        refine ch_if_eq (tgt := 1133) d_l_law_1128 (by decide) (fun c => ?_) (fun c => ?_)
        · replace h := h.1 c
          refine ch_goto (tgt := 2096) d_l_law_1133 (by decide) ?_
          exact h
        · replace h := h.2 c
          refine ch_iconst (v := 0) d_l_law_1131 (by decide) ?_
          exact h
      · replace h := h.2 c
        refine ch_iconst (v := 0) d_l_law_1114 (by decide) ?_
        exact h
    · replace h := h.2.1 c_ m16 hm_
      refine ch_istore (i := 7) d_l_law_1103 (Nat.le_of_ble_eq_true rfl) (ls' := [some (.inr (11, 0, 0)), some (.inr (0, 0, 0)), some (.inr (9, 0, 0)), some (.inr (10, 0, 1)), some (.inr (10, 0, 2)), some (.inl (.int x5)), some (.inl (.int 0)), some (.inl (.int 0)), o8, o9]) rfl ?_
      refine ch_aload_n (i := 2) d_l_law_1105 rfl rfl ?_
      refine ch_callV (as := []) d_l_law_1106 lk_l_129 mi_m_thrown me_m_thrown rfl rfl rfl (ch_hR hR (Nat.le_of_ble_eq_true rfl)) (Nat.le_of_ble_eq_true rfl) (ch_rc1 (k := k) (a := 2) (b := 0) hcs (Nat.le_of_ble_eq_true rfl)) (ch_mono (ch_Ki (fun r24 m25 q26 => ?_)) (s_m_thrown g (fun (r_ : Int32) (m_ : ch_M) => ((m16 (9, 0, 0) 19) = r_ ∧ m16 = m_))  m16 ⟨rfl, rfl⟩))
      obtain ⟨rfl, rfl⟩ := q26
      replace h := h
      refine ch_iload d_l_law_1109 rfl ?_
      refine ch_icmp_eq (tgt := 1116) d_l_law_1111 (by decide) (fun c => ?_) (fun c => ?_)
      · replace h := h.1 c
        refine ch_iload d_l_law_1116 rfl ?_
        refine ch_if_ne (tgt := 1133) d_l_law_1118 (by decide) (fun c => absurd c (by decide)) (fun _ => ?_)
        refine ch_aload_n (i := 3) d_l_law_1121 rfl rfl ?_
        refine ch_iconst (v := 0) d_l_law_1122 (by decide) ?_
        refine ch_lald (n := 1) d_l_law_1123 (by decide) rfl (vp_in_nI (n := 0) (by decide) (by decide)) ?_
        refine ch_iload d_l_law_1124 rfl ?_
        refine ch_i2l d_l_law_1126 ?_
        refine ch_lcmp d_l_law_1127 ?_
        refine ch_if_eq (tgt := 1133) d_l_law_1128 (by decide) (fun c => ?_) (fun c => ?_)
        · replace h := h.1 c
          refine ch_goto (tgt := 2096) d_l_law_1133 (by decide) ?_
          exact h
        · replace h := h.2 c
          refine ch_iconst (v := 0) d_l_law_1131 (by decide) ?_
          exact h
      · replace h := h.2 c
        refine ch_iconst (v := 0) d_l_law_1114 (by decide) ?_
        exact h
    · replace h := h.2.2 c_ B11 A12 C13 S14 f0_ f1_ f2_ f3_ m16 hm_
      refine ch_istore (i := 7) d_l_law_1103 (Nat.le_of_ble_eq_true rfl) (ls' := [some (.inr (11, 0, 0)), some (.inr (0, 0, 0)), some (.inr (9, 0, 0)), some (.inr (10, 0, 1)), some (.inr (10, 0, 2)), some (.inl (.int x5)), some (.inl (.int 0)), some (.inl (.int 0)), o8, o9]) rfl ?_
      refine ch_aload_n (i := 2) d_l_law_1105 rfl rfl ?_
      refine ch_callV (as := []) d_l_law_1106 lk_l_129 mi_m_thrown me_m_thrown rfl rfl rfl (ch_hR hR (Nat.le_of_ble_eq_true rfl)) (Nat.le_of_ble_eq_true rfl) (ch_rc1 (k := k) (a := 2) (b := 0) hcs (Nat.le_of_ble_eq_true rfl)) (ch_mono (ch_Ki (fun r27 m28 q29 => ?_)) (s_m_thrown g (fun (r_ : Int32) (m_ : ch_M) => ((m16 (9, 0, 0) 19) = r_ ∧ m16 = m_))  m16 ⟨rfl, rfl⟩))
      obtain ⟨rfl, rfl⟩ := q29
      replace h := h
      refine ch_iload d_l_law_1109 rfl ?_
      refine ch_icmp_eq (tgt := 1116) d_l_law_1111 (by decide) (fun c => ?_) (fun c => ?_)
      · replace h := h.1 c
        refine ch_iload d_l_law_1116 rfl ?_
        refine ch_if_ne (tgt := 1133) d_l_law_1118 (by decide) (fun c => absurd c (by decide)) (fun _ => ?_)
        refine ch_aload_n (i := 3) d_l_law_1121 rfl rfl ?_
        refine ch_iconst (v := 0) d_l_law_1122 (by decide) ?_
        refine ch_lald (n := 1) d_l_law_1123 (by decide) rfl (vp_in_nI (n := 0) (by decide) (by decide)) ?_
        refine ch_iload d_l_law_1124 rfl ?_
        refine ch_i2l d_l_law_1126 ?_
        refine ch_lcmp d_l_law_1127 ?_
        refine ch_if_eq (tgt := 1133) d_l_law_1128 (by decide) (fun c => ?_) (fun c => ?_)
        · replace h := h.1 c
          refine ch_goto (tgt := 2096) d_l_law_1133 (by decide) ?_
          exact h
        · replace h := h.2 c
          refine ch_iconst (v := 0) d_l_law_1131 (by decide) ?_
          exact h
      · replace h := h.2 c
        refine ch_iconst (v := 0) d_l_law_1114 (by decide) ?_
        exact h
  · replace h := h.2.1 c_
    refine ch_istore (i := 6) d_l_law_1085 (Nat.le_of_ble_eq_true rfl) (ls' := [some (.inr (11, 0, 0)), some (.inr (0, 0, 0)), some (.inr (9, 0, 0)), some (.inr (10, 0, 1)), some (.inr (10, 0, 2)), some (.inl (.int x5)), some (.inl (.int 1)), o7, o8, o9]) rfl ?_
    refine ch_aload_n (i := 2) d_l_law_1087 rfl rfl ?_
    refine ch_aload_n (i := 0) d_l_law_1088 rfl rfl ?_
    refine ch_iload d_l_law_1089 rfl ?_
    refine ch_iconst (v := 1) d_l_law_1091 (by decide) ?_
    refine ch_iadd d_l_law_1092 ?_
    refine ch_sld d_l_law_1093 b1 ?_
    refine ch_aload_n (i := 0) d_l_law_1094 rfl rfl ?_
    refine ch_iload d_l_law_1095 rfl ?_
    refine ch_iconst (v := 2) d_l_law_1097 (by decide) ?_
    refine ch_iadd d_l_law_1098 ?_
    refine ch_sld d_l_law_1099 b2 ?_
    obtain ⟨Y_30, h⟩ := h
    have b42 := h.1
    replace h := h.2
    have b43 := h.1
    replace h := h.2
    have b44 := h.1
    replace h := h.2
    refine ch_callV (as := [.inl (.int ((ch_scr g).2.2 (Int32.toNatClampNeg (x5 + 1)))), .inl (.int ((ch_scr g).2.2 (Int32.toNatClampNeg (x5 + 2))))]) d_l_law_1100 lk_l_177 mi_m_step me_m_step rfl rfl rfl (ch_hR hR (Nat.le_of_ble_eq_true rfl)) (Nat.le_of_ble_eq_true rfl) (ch_rc1 (k := k) (a := 2) (b := 0) hcs (Nat.le_of_ble_eq_true rfl)) (ch_mono (ch_Ki (fun r39 m40 q41 => ?_)) (s_m_step g (fun (r_ : Int32) (m_ : ch_M) => (∃ (B31 : ch_B) (A32 : Nat → Nat) (C33 : Nat → Nat) (S34 : Nat → Nat), (0 ≤ ((ch_scr g).2.2 (Int32.toNatClampNeg (x5 + 1))) ∧ ((ch_scr g).2.2 (Int32.toNatClampNeg (x5 + 1))) < Y_30 0 8) ∧ (nI (S34 (w_pt S34 (Int32.toNatClampNeg ((ch_scr g).2.2 (Int32.toNatClampNeg (x5 + 2))))))) = r_ ∧ (w_sp (w_e Y_30 ((ch_scr g).2.2 (Int32.toNatClampNeg (x5 + 1)))) A32 C33 S34) ∧ (0 ≤ ((ch_scr g).2.2 (Int32.toNatClampNeg (x5 + 2))) ∧ ((ch_scr g).2.2 (Int32.toNatClampNeg (x5 + 2))) < nI (C33 0)) ∧ (∀ a_ i_, a_ ≠ 10 → a_ ≠ 11 → ¬ (a_ = 0 ∧ i_ = 19) → B31 a_ i_ = ch_ob m 9 0 a_ i_) ∧ (B31 0 19 = 0) ∧ m_ = ch_os m 9 0 B31) ∨ ((¬ (0 ≤ ((ch_scr g).2.2 (Int32.toNatClampNeg (x5 + 1))) ∧ ((ch_scr g).2.2 (Int32.toNatClampNeg (x5 + 1))) < Y_30 0 8)) ∧ 0 = r_ ∧ m_ = ch_wr m (9, 0, 0) 19 1) ∨ (∃ (B35 : ch_B) (A36 : Nat → Nat) (C37 : Nat → Nat) (S38 : Nat → Nat), (0 ≤ ((ch_scr g).2.2 (Int32.toNatClampNeg (x5 + 1))) ∧ ((ch_scr g).2.2 (Int32.toNatClampNeg (x5 + 1))) < Y_30 0 8) ∧ 0 = r_ ∧ (w_sp (w_e Y_30 ((ch_scr g).2.2 (Int32.toNatClampNeg (x5 + 1)))) A36 C37 S38) ∧ (¬ (0 ≤ ((ch_scr g).2.2 (Int32.toNatClampNeg (x5 + 2))) ∧ ((ch_scr g).2.2 (Int32.toNatClampNeg (x5 + 2))) < nI (C37 0))) ∧ (∀ a_ i_, a_ ≠ 10 → a_ ≠ 11 → ¬ (a_ = 0 ∧ i_ = 19) → B35 a_ i_ = ch_ob m 9 0 a_ i_) ∧ (B35 0 19 = 2) ∧ m_ = ch_os m 9 0 B35)) (Y_30) (((ch_scr g).2.2 (Int32.toNatClampNeg (x5 + 1)))) (((ch_scr g).2.2 (Int32.toNatClampNeg (x5 + 2)))) m ⟨b42, b43, b44, (fun c_ B31 A32 C33 S34 f0_ f1_ f2_ f3_ => (Or.inl ⟨B31, A32, C33, S34, c_, rfl, f0_, f1_, f2_, f3_, rfl⟩)), (fun c_ => (Or.inr (Or.inl ⟨c_, rfl, rfl⟩))), (fun c_ B35 A36 C37 S38 f0_ f1_ f2_ f3_ => (Or.inr (Or.inr ⟨B35, A36, C37, S38, c_, rfl, f0_, f1_, f2_, f3_, rfl⟩)))⟩))
    rcases q41 with ⟨B31, A32, C33, S34, c_, rfl, f0_, f1_, f2_, f3_, hm_⟩ | ⟨c_, rfl, hm_⟩ | ⟨B35, A36, C37, S38, c_, rfl, f0_, f1_, f2_, f3_, hm_⟩
    · replace h := h.1 c_ B31 A32 C33 S34 f0_ f1_ f2_ f3_ m40 hm_
      refine ch_istore (i := 7) d_l_law_1103 (Nat.le_of_ble_eq_true rfl) (ls' := [some (.inr (11, 0, 0)), some (.inr (0, 0, 0)), some (.inr (9, 0, 0)), some (.inr (10, 0, 1)), some (.inr (10, 0, 2)), some (.inl (.int x5)), some (.inl (.int 1)), some (.inl (.int (nI (S34 (w_pt S34 (Int32.toNatClampNeg ((ch_scr g).2.2 (Int32.toNatClampNeg (x5 + 2))))))))), o8, o9]) rfl ?_
      refine ch_aload_n (i := 2) d_l_law_1105 rfl rfl ?_
      refine ch_callV (as := []) d_l_law_1106 lk_l_129 mi_m_thrown me_m_thrown rfl rfl rfl (ch_hR hR (Nat.le_of_ble_eq_true rfl)) (Nat.le_of_ble_eq_true rfl) (ch_rc1 (k := k) (a := 2) (b := 0) hcs (Nat.le_of_ble_eq_true rfl)) (ch_mono (ch_Ki (fun r45 m46 q47 => ?_)) (s_m_thrown g (fun (r_ : Int32) (m_ : ch_M) => ((m40 (9, 0, 0) 19) = r_ ∧ m40 = m_))  m40 ⟨rfl, rfl⟩))
      obtain ⟨rfl, rfl⟩ := q47
      replace h := h
      refine ch_iload d_l_law_1109 rfl ?_
      refine ch_icmp_eq (tgt := 1116) d_l_law_1111 (by decide) (fun c => ?_) (fun c => ?_)
      · replace h := h.1 c
        refine ch_iload d_l_law_1116 rfl ?_
        refine ch_if_ne (tgt := 1133) d_l_law_1118 (by decide) (fun _ => ?_) (fun c => absurd c (by decide))
        refine ch_goto (tgt := 2096) d_l_law_1133 (by decide) ?_
        exact h
      · replace h := h.2 c
        refine ch_iconst (v := 0) d_l_law_1114 (by decide) ?_
        exact h
    · replace h := h.2.1 c_ m40 hm_
      refine ch_istore (i := 7) d_l_law_1103 (Nat.le_of_ble_eq_true rfl) (ls' := [some (.inr (11, 0, 0)), some (.inr (0, 0, 0)), some (.inr (9, 0, 0)), some (.inr (10, 0, 1)), some (.inr (10, 0, 2)), some (.inl (.int x5)), some (.inl (.int 1)), some (.inl (.int 0)), o8, o9]) rfl ?_
      refine ch_aload_n (i := 2) d_l_law_1105 rfl rfl ?_
      refine ch_callV (as := []) d_l_law_1106 lk_l_129 mi_m_thrown me_m_thrown rfl rfl rfl (ch_hR hR (Nat.le_of_ble_eq_true rfl)) (Nat.le_of_ble_eq_true rfl) (ch_rc1 (k := k) (a := 2) (b := 0) hcs (Nat.le_of_ble_eq_true rfl)) (ch_mono (ch_Ki (fun r48 m49 q50 => ?_)) (s_m_thrown g (fun (r_ : Int32) (m_ : ch_M) => ((m40 (9, 0, 0) 19) = r_ ∧ m40 = m_))  m40 ⟨rfl, rfl⟩))
      obtain ⟨rfl, rfl⟩ := q50
      replace h := h
      refine ch_iload d_l_law_1109 rfl ?_
      refine ch_icmp_eq (tgt := 1116) d_l_law_1111 (by decide) (fun c => ?_) (fun c => ?_)
      · replace h := h.1 c
        refine ch_iload d_l_law_1116 rfl ?_
        refine ch_if_ne (tgt := 1133) d_l_law_1118 (by decide) (fun _ => ?_) (fun c => absurd c (by decide))
        refine ch_goto (tgt := 2096) d_l_law_1133 (by decide) ?_
        exact h
      · replace h := h.2 c
        refine ch_iconst (v := 0) d_l_law_1114 (by decide) ?_
        exact h
    · replace h := h.2.2 c_ B35 A36 C37 S38 f0_ f1_ f2_ f3_ m40 hm_
      refine ch_istore (i := 7) d_l_law_1103 (Nat.le_of_ble_eq_true rfl) (ls' := [some (.inr (11, 0, 0)), some (.inr (0, 0, 0)), some (.inr (9, 0, 0)), some (.inr (10, 0, 1)), some (.inr (10, 0, 2)), some (.inl (.int x5)), some (.inl (.int 1)), some (.inl (.int 0)), o8, o9]) rfl ?_
      refine ch_aload_n (i := 2) d_l_law_1105 rfl rfl ?_
      refine ch_callV (as := []) d_l_law_1106 lk_l_129 mi_m_thrown me_m_thrown rfl rfl rfl (ch_hR hR (Nat.le_of_ble_eq_true rfl)) (Nat.le_of_ble_eq_true rfl) (ch_rc1 (k := k) (a := 2) (b := 0) hcs (Nat.le_of_ble_eq_true rfl)) (ch_mono (ch_Ki (fun r51 m52 q53 => ?_)) (s_m_thrown g (fun (r_ : Int32) (m_ : ch_M) => ((m40 (9, 0, 0) 19) = r_ ∧ m40 = m_))  m40 ⟨rfl, rfl⟩))
      obtain ⟨rfl, rfl⟩ := q53
      replace h := h
      refine ch_iload d_l_law_1109 rfl ?_
      refine ch_icmp_eq (tgt := 1116) d_l_law_1111 (by decide) (fun c => ?_) (fun c => ?_)
      · replace h := h.1 c
        refine ch_iload d_l_law_1116 rfl ?_
        refine ch_if_ne (tgt := 1133) d_l_law_1118 (by decide) (fun _ => ?_) (fun c => absurd c (by decide))
        refine ch_goto (tgt := 2096) d_l_law_1133 (by decide) ?_
        exact h
      · replace h := h.2 c
        refine ch_iconst (v := 0) d_l_law_1114 (by decide) ?_
        exact h
  · replace h := h.2.2 c_ m4 hm_
    refine ch_istore (i := 6) d_l_law_1085 (Nat.le_of_ble_eq_true rfl) (ls' := [some (.inr (11, 0, 0)), some (.inr (0, 0, 0)), some (.inr (9, 0, 0)), some (.inr (10, 0, 1)), some (.inr (10, 0, 2)), some (.inl (.int x5)), some (.inl (.int 2)), o7, o8, o9]) rfl ?_
    refine ch_aload_n (i := 2) d_l_law_1087 rfl rfl ?_
    refine ch_aload_n (i := 0) d_l_law_1088 rfl rfl ?_
    refine ch_iload d_l_law_1089 rfl ?_
    refine ch_iconst (v := 1) d_l_law_1091 (by decide) ?_
    refine ch_iadd d_l_law_1092 ?_
    refine ch_sld d_l_law_1093 b1 ?_
    refine ch_aload_n (i := 0) d_l_law_1094 rfl rfl ?_
    refine ch_iload d_l_law_1095 rfl ?_
    refine ch_iconst (v := 2) d_l_law_1097 (by decide) ?_
    refine ch_iadd d_l_law_1098 ?_
    refine ch_sld d_l_law_1099 b2 ?_
    obtain ⟨Y_54, h⟩ := h
    have b66 := h.1
    replace h := h.2
    have b67 := h.1
    replace h := h.2
    have b68 := h.1
    replace h := h.2
    refine ch_callV (as := [.inl (.int ((ch_scr g).2.2 (Int32.toNatClampNeg (x5 + 1)))), .inl (.int ((ch_scr g).2.2 (Int32.toNatClampNeg (x5 + 2))))]) d_l_law_1100 lk_l_177 mi_m_step me_m_step rfl rfl rfl (ch_hR hR (Nat.le_of_ble_eq_true rfl)) (Nat.le_of_ble_eq_true rfl) (ch_rc1 (k := k) (a := 2) (b := 0) hcs (Nat.le_of_ble_eq_true rfl)) (ch_mono (ch_Ki (fun r63 m64 q65 => ?_)) (s_m_step g (fun (r_ : Int32) (m_ : ch_M) => (∃ (B55 : ch_B) (A56 : Nat → Nat) (C57 : Nat → Nat) (S58 : Nat → Nat), (0 ≤ ((ch_scr g).2.2 (Int32.toNatClampNeg (x5 + 1))) ∧ ((ch_scr g).2.2 (Int32.toNatClampNeg (x5 + 1))) < Y_54 0 8) ∧ (nI (S58 (w_pt S58 (Int32.toNatClampNeg ((ch_scr g).2.2 (Int32.toNatClampNeg (x5 + 2))))))) = r_ ∧ (w_sp (w_e Y_54 ((ch_scr g).2.2 (Int32.toNatClampNeg (x5 + 1)))) A56 C57 S58) ∧ (0 ≤ ((ch_scr g).2.2 (Int32.toNatClampNeg (x5 + 2))) ∧ ((ch_scr g).2.2 (Int32.toNatClampNeg (x5 + 2))) < nI (C57 0)) ∧ (∀ a_ i_, a_ ≠ 10 → a_ ≠ 11 → ¬ (a_ = 0 ∧ i_ = 19) → B55 a_ i_ = ch_ob m4 9 0 a_ i_) ∧ (B55 0 19 = 0) ∧ m_ = ch_os m4 9 0 B55) ∨ ((¬ (0 ≤ ((ch_scr g).2.2 (Int32.toNatClampNeg (x5 + 1))) ∧ ((ch_scr g).2.2 (Int32.toNatClampNeg (x5 + 1))) < Y_54 0 8)) ∧ 0 = r_ ∧ m_ = ch_wr m4 (9, 0, 0) 19 1) ∨ (∃ (B59 : ch_B) (A60 : Nat → Nat) (C61 : Nat → Nat) (S62 : Nat → Nat), (0 ≤ ((ch_scr g).2.2 (Int32.toNatClampNeg (x5 + 1))) ∧ ((ch_scr g).2.2 (Int32.toNatClampNeg (x5 + 1))) < Y_54 0 8) ∧ 0 = r_ ∧ (w_sp (w_e Y_54 ((ch_scr g).2.2 (Int32.toNatClampNeg (x5 + 1)))) A60 C61 S62) ∧ (¬ (0 ≤ ((ch_scr g).2.2 (Int32.toNatClampNeg (x5 + 2))) ∧ ((ch_scr g).2.2 (Int32.toNatClampNeg (x5 + 2))) < nI (C61 0))) ∧ (∀ a_ i_, a_ ≠ 10 → a_ ≠ 11 → ¬ (a_ = 0 ∧ i_ = 19) → B59 a_ i_ = ch_ob m4 9 0 a_ i_) ∧ (B59 0 19 = 2) ∧ m_ = ch_os m4 9 0 B59)) (Y_54) (((ch_scr g).2.2 (Int32.toNatClampNeg (x5 + 1)))) (((ch_scr g).2.2 (Int32.toNatClampNeg (x5 + 2)))) m4 ⟨b66, b67, b68, (fun c_ B55 A56 C57 S58 f0_ f1_ f2_ f3_ => (Or.inl ⟨B55, A56, C57, S58, c_, rfl, f0_, f1_, f2_, f3_, rfl⟩)), (fun c_ => (Or.inr (Or.inl ⟨c_, rfl, rfl⟩))), (fun c_ B59 A60 C61 S62 f0_ f1_ f2_ f3_ => (Or.inr (Or.inr ⟨B59, A60, C61, S62, c_, rfl, f0_, f1_, f2_, f3_, rfl⟩)))⟩))
    rcases q65 with ⟨B55, A56, C57, S58, c_, rfl, f0_, f1_, f2_, f3_, hm_⟩ | ⟨c_, rfl, hm_⟩ | ⟨B59, A60, C61, S62, c_, rfl, f0_, f1_, f2_, f3_, hm_⟩
    · replace h := h.1 c_ B55 A56 C57 S58 f0_ f1_ f2_ f3_ m64 hm_
      refine ch_istore (i := 7) d_l_law_1103 (Nat.le_of_ble_eq_true rfl) (ls' := [some (.inr (11, 0, 0)), some (.inr (0, 0, 0)), some (.inr (9, 0, 0)), some (.inr (10, 0, 1)), some (.inr (10, 0, 2)), some (.inl (.int x5)), some (.inl (.int 2)), some (.inl (.int (nI (S58 (w_pt S58 (Int32.toNatClampNeg ((ch_scr g).2.2 (Int32.toNatClampNeg (x5 + 2))))))))), o8, o9]) rfl ?_
      refine ch_aload_n (i := 2) d_l_law_1105 rfl rfl ?_
      refine ch_callV (as := []) d_l_law_1106 lk_l_129 mi_m_thrown me_m_thrown rfl rfl rfl (ch_hR hR (Nat.le_of_ble_eq_true rfl)) (Nat.le_of_ble_eq_true rfl) (ch_rc1 (k := k) (a := 2) (b := 0) hcs (Nat.le_of_ble_eq_true rfl)) (ch_mono (ch_Ki (fun r69 m70 q71 => ?_)) (s_m_thrown g (fun (r_ : Int32) (m_ : ch_M) => ((m64 (9, 0, 0) 19) = r_ ∧ m64 = m_))  m64 ⟨rfl, rfl⟩))
      obtain ⟨rfl, rfl⟩ := q71
      replace h := h
      refine ch_iload d_l_law_1109 rfl ?_
      refine ch_icmp_eq (tgt := 1116) d_l_law_1111 (by decide) (fun c => ?_) (fun c => ?_)
      · replace h := h.1 c
        refine ch_iload d_l_law_1116 rfl ?_
        refine ch_if_ne (tgt := 1133) d_l_law_1118 (by decide) (fun _ => ?_) (fun c => absurd c (by decide))
        refine ch_goto (tgt := 2096) d_l_law_1133 (by decide) ?_
        exact h
      · replace h := h.2 c
        refine ch_iconst (v := 0) d_l_law_1114 (by decide) ?_
        exact h
    · replace h := h.2.1 c_ m64 hm_
      refine ch_istore (i := 7) d_l_law_1103 (Nat.le_of_ble_eq_true rfl) (ls' := [some (.inr (11, 0, 0)), some (.inr (0, 0, 0)), some (.inr (9, 0, 0)), some (.inr (10, 0, 1)), some (.inr (10, 0, 2)), some (.inl (.int x5)), some (.inl (.int 2)), some (.inl (.int 0)), o8, o9]) rfl ?_
      refine ch_aload_n (i := 2) d_l_law_1105 rfl rfl ?_
      refine ch_callV (as := []) d_l_law_1106 lk_l_129 mi_m_thrown me_m_thrown rfl rfl rfl (ch_hR hR (Nat.le_of_ble_eq_true rfl)) (Nat.le_of_ble_eq_true rfl) (ch_rc1 (k := k) (a := 2) (b := 0) hcs (Nat.le_of_ble_eq_true rfl)) (ch_mono (ch_Ki (fun r72 m73 q74 => ?_)) (s_m_thrown g (fun (r_ : Int32) (m_ : ch_M) => ((m64 (9, 0, 0) 19) = r_ ∧ m64 = m_))  m64 ⟨rfl, rfl⟩))
      obtain ⟨rfl, rfl⟩ := q74
      replace h := h
      refine ch_iload d_l_law_1109 rfl ?_
      refine ch_icmp_eq (tgt := 1116) d_l_law_1111 (by decide) (fun c => ?_) (fun c => ?_)
      · replace h := h.1 c
        refine ch_iload d_l_law_1116 rfl ?_
        refine ch_if_ne (tgt := 1133) d_l_law_1118 (by decide) (fun _ => ?_) (fun c => absurd c (by decide))
        refine ch_goto (tgt := 2096) d_l_law_1133 (by decide) ?_
        exact h
      · replace h := h.2 c
        refine ch_iconst (v := 0) d_l_law_1114 (by decide) ?_
        exact h
    · replace h := h.2.2 c_ B59 A60 C61 S62 f0_ f1_ f2_ f3_ m64 hm_
      refine ch_istore (i := 7) d_l_law_1103 (Nat.le_of_ble_eq_true rfl) (ls' := [some (.inr (11, 0, 0)), some (.inr (0, 0, 0)), some (.inr (9, 0, 0)), some (.inr (10, 0, 1)), some (.inr (10, 0, 2)), some (.inl (.int x5)), some (.inl (.int 2)), some (.inl (.int 0)), o8, o9]) rfl ?_
      refine ch_aload_n (i := 2) d_l_law_1105 rfl rfl ?_
      refine ch_callV (as := []) d_l_law_1106 lk_l_129 mi_m_thrown me_m_thrown rfl rfl rfl (ch_hR hR (Nat.le_of_ble_eq_true rfl)) (Nat.le_of_ble_eq_true rfl) (ch_rc1 (k := k) (a := 2) (b := 0) hcs (Nat.le_of_ble_eq_true rfl)) (ch_mono (ch_Ki (fun r75 m76 q77 => ?_)) (s_m_thrown g (fun (r_ : Int32) (m_ : ch_M) => ((m64 (9, 0, 0) 19) = r_ ∧ m64 = m_))  m64 ⟨rfl, rfl⟩))
      obtain ⟨rfl, rfl⟩ := q77
      replace h := h
      refine ch_iload d_l_law_1109 rfl ?_
      refine ch_icmp_eq (tgt := 1116) d_l_law_1111 (by decide) (fun c => ?_) (fun c => ?_)
      · replace h := h.1 c
        refine ch_iload d_l_law_1116 rfl ?_
        refine ch_if_ne (tgt := 1133) d_l_law_1118 (by decide) (fun _ => ?_) (fun c => absurd c (by decide))
        refine ch_goto (tgt := 2096) d_l_law_1133 (by decide) ?_
        exact h
      · replace h := h.2 c
        refine ch_iconst (v := 0) d_l_law_1114 (by decide) ?_
        exact h
set_option maxHeartbeats 1600000 in
theorem g_l_law_1136 (g : ch_G) (R : Room) (E : ch_En) (k : Nat) (hR : ch_RR R 18) (hcs : k + 40 ≤ R.cells ∧ 6 * k + 240 ≤ R.slots) (x5 : Int32) (o6 : Option ch_V) (o7 : Option ch_V) (o8 : Option ch_V) (o9 : Option ch_V) (m : ch_M) (h : (vp_in (x5 + 1) (ch_scr g).2.1) ∧ (vp_in (x5 + 2) (ch_scr g).2.1) ∧ ((((0 ≤ ((ch_scr g).2.2 (Int32.toNatClampNeg (x5 + 1))) ∧ ((ch_scr g).2.2 (Int32.toNatClampNeg (x5 + 1))) < m (1, 0, 0) 8) ∧ x_wtP (s_rfB (ch_ob m 5 1) ((ch_scr g).2.2 (Int32.toNatClampNeg (x5 + 2)))) = true) → (∀ m4 : ch_M, m4 = (ch_wr (ch_os m 5 1 (s_rfB (ch_ob m 5 1) ((ch_scr g).2.2 (Int32.toNatClampNeg (x5 + 2))))) (10, 0, 1) 0 (y_ct (ch_ob m 1 0) ((ch_scr g).2.2 (Int32.toNatClampNeg (x5 + 1))) (s_rfB (ch_ob m 5 1) ((ch_scr g).2.2 (Int32.toNatClampNeg (x5 + 2))) 1) (Int32.toNatClampNeg (s_rfB (ch_ob m 5 1) ((ch_scr g).2.2 (Int32.toNatClampNeg (x5 + 2))) 0 1)))) → (∃ Y_6 : ch_B, (∃ A_7 : ch_B, (m_rel Y_6 (m4 (9, 0, 1))) ∧ (vp_in (Y_6 0 8) 6) ∧ (∀ i_, i_ < 12 → Y_6 1 i_ = -1 ∨ vp_in (Y_6 1 i_) 5) ∧ ((((0 ≤ ((ch_scr g).2.2 (Int32.toNatClampNeg (x5 + 1))) ∧ ((ch_scr g).2.2 (Int32.toNatClampNeg (x5 + 1))) < Y_6 0 8) ∧ x_wtP (s_rfB A_7 ((ch_scr g).2.2 (Int32.toNatClampNeg (x5 + 2)))) = true) → (∀ (B8 : ch_B), (∀ a_ i_, a_ ≠ 9 → ¬ (a_ = 0 ∧ (i_ = 21 ∨ i_ = 19)) → B8 a_ i_ = ch_ob m4 9 0 a_ i_) → (B8 0 19 = 0) → (∀ m11 : ch_M, m11 = ch_os m4 9 0 B8 → ((((m11 (9, 0, 0) 19) = 0 → (((lg_cmp ((m11 (10, 0, 1) (0))).toInt64 ((y_ct Y_6 ((ch_scr g).2.2 (Int32.toNatClampNeg (x5 + 1))) (s_rfB A_7 ((ch_scr g).2.2 (Int32.toNatClampNeg (x5 + 2))) 1) (Int32.toNatClampNeg (s_rfB A_7 ((ch_scr g).2.2 (Int32.toNatClampNeg (x5 + 2))) 0 1)))).toInt64) = 0 → ch_J g m_l_law R E 2096 [some (.inr (11, 0, 0)), some (.inr (0, 0, 0)), some (.inr (9, 0, 0)), some (.inr (10, 0, 1)), some (.inr (10, 0, 2)), some (.inl (.int x5)), some (.inl (.int 0)), some (.inl (.int (y_ct Y_6 ((ch_scr g).2.2 (Int32.toNatClampNeg (x5 + 1))) (s_rfB A_7 ((ch_scr g).2.2 (Int32.toNatClampNeg (x5 + 2))) 1) (Int32.toNatClampNeg (s_rfB A_7 ((ch_scr g).2.2 (Int32.toNatClampNeg (x5 + 2))) 0 1))))), o8, o9] [] m11 (k + 2)) ∧ (¬ (lg_cmp ((m11 (10, 0, 1) (0))).toInt64 ((y_ct Y_6 ((ch_scr g).2.2 (Int32.toNatClampNeg (x5 + 1))) (s_rfB A_7 ((ch_scr g).2.2 (Int32.toNatClampNeg (x5 + 2))) 1) (Int32.toNatClampNeg (s_rfB A_7 ((ch_scr g).2.2 (Int32.toNatClampNeg (x5 + 2))) 0 1)))).toInt64) = 0 → ch_J g m_l_law R E 1200 [some (.inr (11, 0, 0)), some (.inr (0, 0, 0)), some (.inr (9, 0, 0)), some (.inr (10, 0, 1)), some (.inr (10, 0, 2)), some (.inl (.int x5)), some (.inl (.int 0)), some (.inl (.int (y_ct Y_6 ((ch_scr g).2.2 (Int32.toNatClampNeg (x5 + 1))) (s_rfB A_7 ((ch_scr g).2.2 (Int32.toNatClampNeg (x5 + 2))) 1) (Int32.toNatClampNeg (s_rfB A_7 ((ch_scr g).2.2 (Int32.toNatClampNeg (x5 + 2))) 0 1))))), o8, o9] [.inl (.int 0)] m11 (k + 2)))) ∧ (¬ (m11 (9, 0, 0) 19) = 0 → ch_J g m_l_law R E 1183 [some (.inr (11, 0, 0)), some (.inr (0, 0, 0)), some (.inr (9, 0, 0)), some (.inr (10, 0, 1)), some (.inr (10, 0, 2)), some (.inl (.int x5)), some (.inl (.int 0)), some (.inl (.int (y_ct Y_6 ((ch_scr g).2.2 (Int32.toNatClampNeg (x5 + 1))) (s_rfB A_7 ((ch_scr g).2.2 (Int32.toNatClampNeg (x5 + 2))) 1) (Int32.toNatClampNeg (s_rfB A_7 ((ch_scr g).2.2 (Int32.toNatClampNeg (x5 + 2))) 0 1))))), o8, o9] [.inl (.int 0)] m11 (k + 2))))))) ∧ ((¬ (0 ≤ ((ch_scr g).2.2 (Int32.toNatClampNeg (x5 + 1))) ∧ ((ch_scr g).2.2 (Int32.toNatClampNeg (x5 + 1))) < Y_6 0 8)) → (∀ m11 : ch_M, m11 = ch_wr m4 (9, 0, 0) 19 1 → ((((m11 (9, 0, 0) 19) = 0 → (((lg_cmp ((m11 (10, 0, 1) (0))).toInt64 (0).toInt64) = 0 → ch_J g m_l_law R E 2096 [some (.inr (11, 0, 0)), some (.inr (0, 0, 0)), some (.inr (9, 0, 0)), some (.inr (10, 0, 1)), some (.inr (10, 0, 2)), some (.inl (.int x5)), some (.inl (.int 0)), some (.inl (.int 0)), o8, o9] [] m11 (k + 2)) ∧ (¬ (lg_cmp ((m11 (10, 0, 1) (0))).toInt64 (0).toInt64) = 0 → ch_J g m_l_law R E 1200 [some (.inr (11, 0, 0)), some (.inr (0, 0, 0)), some (.inr (9, 0, 0)), some (.inr (10, 0, 1)), some (.inr (10, 0, 2)), some (.inl (.int x5)), some (.inl (.int 0)), some (.inl (.int 0)), o8, o9] [.inl (.int 0)] m11 (k + 2)))) ∧ (¬ (m11 (9, 0, 0) 19) = 0 → ch_J g m_l_law R E 1183 [some (.inr (11, 0, 0)), some (.inr (0, 0, 0)), some (.inr (9, 0, 0)), some (.inr (10, 0, 1)), some (.inr (10, 0, 2)), some (.inl (.int x5)), some (.inl (.int 0)), some (.inl (.int 0)), o8, o9] [.inl (.int 0)] m11 (k + 2)))))) ∧ (((0 ≤ ((ch_scr g).2.2 (Int32.toNatClampNeg (x5 + 1))) ∧ ((ch_scr g).2.2 (Int32.toNatClampNeg (x5 + 1))) < Y_6 0 8) ∧ ¬ x_wtP (s_rfB A_7 ((ch_scr g).2.2 (Int32.toNatClampNeg (x5 + 2)))) = true) → (∀ (B9 : ch_B), (∀ a_ i_, a_ ≠ 9 → ¬ (a_ = 0 ∧ (i_ = 21 ∨ i_ = 19)) → B9 a_ i_ = ch_ob m4 9 0 a_ i_) → (B9 0 19 = 2) → (∀ m11 : ch_M, m11 = ch_os m4 9 0 B9 → ((((m11 (9, 0, 0) 19) = 0 → (((lg_cmp ((m11 (10, 0, 1) (0))).toInt64 (0).toInt64) = 0 → ch_J g m_l_law R E 2096 [some (.inr (11, 0, 0)), some (.inr (0, 0, 0)), some (.inr (9, 0, 0)), some (.inr (10, 0, 1)), some (.inr (10, 0, 2)), some (.inl (.int x5)), some (.inl (.int 0)), some (.inl (.int 0)), o8, o9] [] m11 (k + 2)) ∧ (¬ (lg_cmp ((m11 (10, 0, 1) (0))).toInt64 (0).toInt64) = 0 → ch_J g m_l_law R E 1200 [some (.inr (11, 0, 0)), some (.inr (0, 0, 0)), some (.inr (9, 0, 0)), some (.inr (10, 0, 1)), some (.inr (10, 0, 2)), some (.inl (.int x5)), some (.inl (.int 0)), some (.inl (.int 0)), o8, o9] [.inl (.int 0)] m11 (k + 2)))) ∧ (¬ (m11 (9, 0, 0) 19) = 0 → ch_J g m_l_law R E 1183 [some (.inr (11, 0, 0)), some (.inr (0, 0, 0)), some (.inr (9, 0, 0)), some (.inr (10, 0, 1)), some (.inr (10, 0, 2)), some (.inl (.int x5)), some (.inl (.int 0)), some (.inl (.int 0)), o8, o9] [.inl (.int 0)] m11 (k + 2)))))))))))) ∧ ((¬ (0 ≤ ((ch_scr g).2.2 (Int32.toNatClampNeg (x5 + 1))) ∧ ((ch_scr g).2.2 (Int32.toNatClampNeg (x5 + 1))) < m (1, 0, 0) 8)) → (∃ Y_25 : ch_B, (∃ A_26 : ch_B, (m_rel Y_25 (m (9, 0, 1))) ∧ (vp_in (Y_25 0 8) 6) ∧ (∀ i_, i_ < 12 → Y_25 1 i_ = -1 ∨ vp_in (Y_25 1 i_) 5) ∧ ((((0 ≤ ((ch_scr g).2.2 (Int32.toNatClampNeg (x5 + 1))) ∧ ((ch_scr g).2.2 (Int32.toNatClampNeg (x5 + 1))) < Y_25 0 8) ∧ x_wtP (s_rfB A_26 ((ch_scr g).2.2 (Int32.toNatClampNeg (x5 + 2)))) = true) → (∀ (B27 : ch_B), (∀ a_ i_, a_ ≠ 9 → ¬ (a_ = 0 ∧ (i_ = 21 ∨ i_ = 19)) → B27 a_ i_ = ch_ob m 9 0 a_ i_) → (B27 0 19 = 0) → (∀ m30 : ch_M, m30 = ch_os m 9 0 B27 → ((((m30 (9, 0, 0) 19) = 1 → ch_J g m_l_law R E 2096 [some (.inr (11, 0, 0)), some (.inr (0, 0, 0)), some (.inr (9, 0, 0)), some (.inr (10, 0, 1)), some (.inr (10, 0, 2)), some (.inl (.int x5)), some (.inl (.int 1)), some (.inl (.int (y_ct Y_25 ((ch_scr g).2.2 (Int32.toNatClampNeg (x5 + 1))) (s_rfB A_26 ((ch_scr g).2.2 (Int32.toNatClampNeg (x5 + 2))) 1) (Int32.toNatClampNeg (s_rfB A_26 ((ch_scr g).2.2 (Int32.toNatClampNeg (x5 + 2))) 0 1))))), o8, o9] [] m30 (k + 2)) ∧ (¬ (m30 (9, 0, 0) 19) = 1 → ch_J g m_l_law R E 1183 [some (.inr (11, 0, 0)), some (.inr (0, 0, 0)), some (.inr (9, 0, 0)), some (.inr (10, 0, 1)), some (.inr (10, 0, 2)), some (.inl (.int x5)), some (.inl (.int 1)), some (.inl (.int (y_ct Y_25 ((ch_scr g).2.2 (Int32.toNatClampNeg (x5 + 1))) (s_rfB A_26 ((ch_scr g).2.2 (Int32.toNatClampNeg (x5 + 2))) 1) (Int32.toNatClampNeg (s_rfB A_26 ((ch_scr g).2.2 (Int32.toNatClampNeg (x5 + 2))) 0 1))))), o8, o9] [.inl (.int 0)] m30 (k + 2))))))) ∧ ((¬ (0 ≤ ((ch_scr g).2.2 (Int32.toNatClampNeg (x5 + 1))) ∧ ((ch_scr g).2.2 (Int32.toNatClampNeg (x5 + 1))) < Y_25 0 8)) → (∀ m30 : ch_M, m30 = ch_wr m (9, 0, 0) 19 1 → ((((m30 (9, 0, 0) 19) = 1 → ch_J g m_l_law R E 2096 [some (.inr (11, 0, 0)), some (.inr (0, 0, 0)), some (.inr (9, 0, 0)), some (.inr (10, 0, 1)), some (.inr (10, 0, 2)), some (.inl (.int x5)), some (.inl (.int 1)), some (.inl (.int 0)), o8, o9] [] m30 (k + 2)) ∧ (¬ (m30 (9, 0, 0) 19) = 1 → ch_J g m_l_law R E 1183 [some (.inr (11, 0, 0)), some (.inr (0, 0, 0)), some (.inr (9, 0, 0)), some (.inr (10, 0, 1)), some (.inr (10, 0, 2)), some (.inl (.int x5)), some (.inl (.int 1)), some (.inl (.int 0)), o8, o9] [.inl (.int 0)] m30 (k + 2)))))) ∧ (((0 ≤ ((ch_scr g).2.2 (Int32.toNatClampNeg (x5 + 1))) ∧ ((ch_scr g).2.2 (Int32.toNatClampNeg (x5 + 1))) < Y_25 0 8) ∧ ¬ x_wtP (s_rfB A_26 ((ch_scr g).2.2 (Int32.toNatClampNeg (x5 + 2)))) = true) → (∀ (B28 : ch_B), (∀ a_ i_, a_ ≠ 9 → ¬ (a_ = 0 ∧ (i_ = 21 ∨ i_ = 19)) → B28 a_ i_ = ch_ob m 9 0 a_ i_) → (B28 0 19 = 2) → (∀ m30 : ch_M, m30 = ch_os m 9 0 B28 → ((((m30 (9, 0, 0) 19) = 1 → ch_J g m_l_law R E 2096 [some (.inr (11, 0, 0)), some (.inr (0, 0, 0)), some (.inr (9, 0, 0)), some (.inr (10, 0, 1)), some (.inr (10, 0, 2)), some (.inl (.int x5)), some (.inl (.int 1)), some (.inl (.int 0)), o8, o9] [] m30 (k + 2)) ∧ (¬ (m30 (9, 0, 0) 19) = 1 → ch_J g m_l_law R E 1183 [some (.inr (11, 0, 0)), some (.inr (0, 0, 0)), some (.inr (9, 0, 0)), some (.inr (10, 0, 1)), some (.inr (10, 0, 2)), some (.inl (.int x5)), some (.inl (.int 1)), some (.inl (.int 0)), o8, o9] [.inl (.int 0)] m30 (k + 2))))))))))) ∧ (((0 ≤ ((ch_scr g).2.2 (Int32.toNatClampNeg (x5 + 1))) ∧ ((ch_scr g).2.2 (Int32.toNatClampNeg (x5 + 1))) < m (1, 0, 0) 8) ∧ ¬ x_wtP (s_rfB (ch_ob m 5 1) ((ch_scr g).2.2 (Int32.toNatClampNeg (x5 + 2)))) = true) → (∀ m4 : ch_M, m4 = ch_os m 5 1 (s_rfB (ch_ob m 5 1) ((ch_scr g).2.2 (Int32.toNatClampNeg (x5 + 2)))) → (∃ Y_44 : ch_B, (∃ A_45 : ch_B, (m_rel Y_44 (m4 (9, 0, 1))) ∧ (vp_in (Y_44 0 8) 6) ∧ (∀ i_, i_ < 12 → Y_44 1 i_ = -1 ∨ vp_in (Y_44 1 i_) 5) ∧ ((((0 ≤ ((ch_scr g).2.2 (Int32.toNatClampNeg (x5 + 1))) ∧ ((ch_scr g).2.2 (Int32.toNatClampNeg (x5 + 1))) < Y_44 0 8) ∧ x_wtP (s_rfB A_45 ((ch_scr g).2.2 (Int32.toNatClampNeg (x5 + 2)))) = true) → (∀ (B46 : ch_B), (∀ a_ i_, a_ ≠ 9 → ¬ (a_ = 0 ∧ (i_ = 21 ∨ i_ = 19)) → B46 a_ i_ = ch_ob m4 9 0 a_ i_) → (B46 0 19 = 0) → (∀ m49 : ch_M, m49 = ch_os m4 9 0 B46 → ((((m49 (9, 0, 0) 19) = 2 → ch_J g m_l_law R E 2096 [some (.inr (11, 0, 0)), some (.inr (0, 0, 0)), some (.inr (9, 0, 0)), some (.inr (10, 0, 1)), some (.inr (10, 0, 2)), some (.inl (.int x5)), some (.inl (.int 2)), some (.inl (.int (y_ct Y_44 ((ch_scr g).2.2 (Int32.toNatClampNeg (x5 + 1))) (s_rfB A_45 ((ch_scr g).2.2 (Int32.toNatClampNeg (x5 + 2))) 1) (Int32.toNatClampNeg (s_rfB A_45 ((ch_scr g).2.2 (Int32.toNatClampNeg (x5 + 2))) 0 1))))), o8, o9] [] m49 (k + 2)) ∧ (¬ (m49 (9, 0, 0) 19) = 2 → ch_J g m_l_law R E 1183 [some (.inr (11, 0, 0)), some (.inr (0, 0, 0)), some (.inr (9, 0, 0)), some (.inr (10, 0, 1)), some (.inr (10, 0, 2)), some (.inl (.int x5)), some (.inl (.int 2)), some (.inl (.int (y_ct Y_44 ((ch_scr g).2.2 (Int32.toNatClampNeg (x5 + 1))) (s_rfB A_45 ((ch_scr g).2.2 (Int32.toNatClampNeg (x5 + 2))) 1) (Int32.toNatClampNeg (s_rfB A_45 ((ch_scr g).2.2 (Int32.toNatClampNeg (x5 + 2))) 0 1))))), o8, o9] [.inl (.int 0)] m49 (k + 2))))))) ∧ ((¬ (0 ≤ ((ch_scr g).2.2 (Int32.toNatClampNeg (x5 + 1))) ∧ ((ch_scr g).2.2 (Int32.toNatClampNeg (x5 + 1))) < Y_44 0 8)) → (∀ m49 : ch_M, m49 = ch_wr m4 (9, 0, 0) 19 1 → ((((m49 (9, 0, 0) 19) = 2 → ch_J g m_l_law R E 2096 [some (.inr (11, 0, 0)), some (.inr (0, 0, 0)), some (.inr (9, 0, 0)), some (.inr (10, 0, 1)), some (.inr (10, 0, 2)), some (.inl (.int x5)), some (.inl (.int 2)), some (.inl (.int 0)), o8, o9] [] m49 (k + 2)) ∧ (¬ (m49 (9, 0, 0) 19) = 2 → ch_J g m_l_law R E 1183 [some (.inr (11, 0, 0)), some (.inr (0, 0, 0)), some (.inr (9, 0, 0)), some (.inr (10, 0, 1)), some (.inr (10, 0, 2)), some (.inl (.int x5)), some (.inl (.int 2)), some (.inl (.int 0)), o8, o9] [.inl (.int 0)] m49 (k + 2)))))) ∧ (((0 ≤ ((ch_scr g).2.2 (Int32.toNatClampNeg (x5 + 1))) ∧ ((ch_scr g).2.2 (Int32.toNatClampNeg (x5 + 1))) < Y_44 0 8) ∧ ¬ x_wtP (s_rfB A_45 ((ch_scr g).2.2 (Int32.toNatClampNeg (x5 + 2)))) = true) → (∀ (B47 : ch_B), (∀ a_ i_, a_ ≠ 9 → ¬ (a_ = 0 ∧ (i_ = 21 ∨ i_ = 19)) → B47 a_ i_ = ch_ob m4 9 0 a_ i_) → (B47 0 19 = 2) → (∀ m49 : ch_M, m49 = ch_os m4 9 0 B47 → ((((m49 (9, 0, 0) 19) = 2 → ch_J g m_l_law R E 2096 [some (.inr (11, 0, 0)), some (.inr (0, 0, 0)), some (.inr (9, 0, 0)), some (.inr (10, 0, 1)), some (.inr (10, 0, 2)), some (.inl (.int x5)), some (.inl (.int 2)), some (.inl (.int 0)), o8, o9] [] m49 (k + 2)) ∧ (¬ (m49 (9, 0, 0) 19) = 2 → ch_J g m_l_law R E 1183 [some (.inr (11, 0, 0)), some (.inr (0, 0, 0)), some (.inr (9, 0, 0)), some (.inr (10, 0, 1)), some (.inr (10, 0, 2)), some (.inl (.int x5)), some (.inl (.int 2)), some (.inl (.int 0)), o8, o9] [.inl (.int 0)] m49 (k + 2)))))))))))))) : ch_J g m_l_law R E 1136 [some (.inr (11, 0, 0)), some (.inr (0, 0, 0)), some (.inr (9, 0, 0)), some (.inr (10, 0, 1)), some (.inr (10, 0, 2)), some (.inl (.int x5)), o6, o7, o8, o9] [] m k := by
  refine ch_aload_n (i := 1) d_l_law_1136 rfl rfl ?_
  refine ch_aload_n (i := 0) d_l_law_1137 rfl rfl ?_
  refine ch_iload d_l_law_1138 rfl ?_
  refine ch_iconst (v := 1) d_l_law_1140 (by decide) ?_
  refine ch_iadd d_l_law_1141 ?_
  have b1 := h.1
  replace h := h.2
  refine ch_sld d_l_law_1142 b1 ?_
  refine ch_aload_n (i := 0) d_l_law_1143 rfl rfl ?_
  refine ch_iload d_l_law_1144 rfl ?_
  refine ch_iconst (v := 2) d_l_law_1146 (by decide) ?_
  refine ch_iadd d_l_law_1147 ?_
  have b2 := h.1
  replace h := h.2
  refine ch_sld d_l_law_1148 b2 ?_
  refine ch_aload_n (i := 3) d_l_law_1149 rfl rfl ?_
  refine ch_callSX (as := [.inr (0, 0, 0), .inl (.int ((ch_scr g).2.2 (Int32.toNatClampNeg (x5 + 1)))), .inl (.int ((ch_scr g).2.2 (Int32.toNatClampNeg (x5 + 2)))), .inr (10, 0, 1)]) d_l_law_1150 lk_l_178 ms_l_wouldTread rfl rfl (ch_hR hR (Nat.le_of_ble_eq_true rfl)) (Nat.le_of_ble_eq_true rfl) (ch_rc0 (k := k) (b := 2) hcs (Nat.le_of_ble_eq_true rfl)) (ch_mono (ch_Ki (fun r3 m4 q5 => ?_)) (s_l_wouldTread g (fun (r_ : Int32) (m_ : ch_M) => (((0 ≤ ((ch_scr g).2.2 (Int32.toNatClampNeg (x5 + 1))) ∧ ((ch_scr g).2.2 (Int32.toNatClampNeg (x5 + 1))) < m (1, 0, 0) 8) ∧ x_wtP (s_rfB (ch_ob m 5 1) ((ch_scr g).2.2 (Int32.toNatClampNeg (x5 + 2)))) = true) ∧ 0 = r_ ∧ m_ = (ch_wr (ch_os m 5 1 (s_rfB (ch_ob m 5 1) ((ch_scr g).2.2 (Int32.toNatClampNeg (x5 + 2))))) (10, 0, 1) 0 (y_ct (ch_ob m 1 0) ((ch_scr g).2.2 (Int32.toNatClampNeg (x5 + 1))) (s_rfB (ch_ob m 5 1) ((ch_scr g).2.2 (Int32.toNatClampNeg (x5 + 2))) 1) (Int32.toNatClampNeg (s_rfB (ch_ob m 5 1) ((ch_scr g).2.2 (Int32.toNatClampNeg (x5 + 2))) 0 1))))) ∨ ((¬ (0 ≤ ((ch_scr g).2.2 (Int32.toNatClampNeg (x5 + 1))) ∧ ((ch_scr g).2.2 (Int32.toNatClampNeg (x5 + 1))) < m (1, 0, 0) 8)) ∧ 1 = r_ ∧ m = m_) ∨ (((0 ≤ ((ch_scr g).2.2 (Int32.toNatClampNeg (x5 + 1))) ∧ ((ch_scr g).2.2 (Int32.toNatClampNeg (x5 + 1))) < m (1, 0, 0) 8) ∧ ¬ x_wtP (s_rfB (ch_ob m 5 1) ((ch_scr g).2.2 (Int32.toNatClampNeg (x5 + 2)))) = true) ∧ 2 = r_ ∧ m_ = ch_os m 5 1 (s_rfB (ch_ob m 5 1) ((ch_scr g).2.2 (Int32.toNatClampNeg (x5 + 2)))))) (((ch_scr g).2.2 (Int32.toNatClampNeg (x5 + 1)))) (((ch_scr g).2.2 (Int32.toNatClampNeg (x5 + 2)))) m ⟨(fun c_ => (Or.inl ⟨c_, rfl, rfl⟩)), (fun c_ => (Or.inr (Or.inl ⟨c_, rfl, rfl⟩))), (fun c_ => (Or.inr (Or.inr ⟨c_, rfl, rfl⟩)))⟩))
  rcases q5 with ⟨c_, rfl, hm_⟩ | ⟨c_, rfl, rfl⟩ | ⟨c_, rfl, hm_⟩
  · replace h := h.1 c_ m4 hm_
    refine ch_istore (i := 6) d_l_law_1153 (Nat.le_of_ble_eq_true rfl) (ls' := [some (.inr (11, 0, 0)), some (.inr (0, 0, 0)), some (.inr (9, 0, 0)), some (.inr (10, 0, 1)), some (.inr (10, 0, 2)), some (.inl (.int x5)), some (.inl (.int 0)), o7, o8, o9]) rfl ?_
    refine ch_aload_n (i := 2) d_l_law_1155 rfl rfl ?_
    refine ch_aload_n (i := 0) d_l_law_1156 rfl rfl ?_
    refine ch_iload d_l_law_1157 rfl ?_
    refine ch_iconst (v := 1) d_l_law_1159 (by decide) ?_
    refine ch_iadd d_l_law_1160 ?_
    refine ch_sld d_l_law_1161 b1 ?_
    refine ch_aload_n (i := 0) d_l_law_1162 rfl rfl ?_
    refine ch_iload d_l_law_1163 rfl ?_
    refine ch_iconst (v := 2) d_l_law_1165 (by decide) ?_
    refine ch_iadd d_l_law_1166 ?_
    refine ch_sld d_l_law_1167 b2 ?_
    obtain ⟨Y_6, h⟩ := h
    obtain ⟨A_7, h⟩ := h
    have b13 := h.1
    replace h := h.2
    have b14 := h.1
    replace h := h.2
    have b15 := h.1
    replace h := h.2
    refine ch_callV (as := [.inl (.int ((ch_scr g).2.2 (Int32.toNatClampNeg (x5 + 1)))), .inl (.int ((ch_scr g).2.2 (Int32.toNatClampNeg (x5 + 2))))]) d_l_law_1168 lk_l_180 mi_m_wouldTread me_m_wouldTread rfl rfl rfl (ch_hR hR (Nat.le_of_ble_eq_true rfl)) (Nat.le_of_ble_eq_true rfl) (ch_rc1 (k := k) (a := 2) (b := 0) hcs (Nat.le_of_ble_eq_true rfl)) (ch_mono (ch_Ki (fun r10 m11 q12 => ?_)) (s_m_wouldTread g (fun (r_ : Int32) (m_ : ch_M) => (∃ (B8 : ch_B), ((0 ≤ ((ch_scr g).2.2 (Int32.toNatClampNeg (x5 + 1))) ∧ ((ch_scr g).2.2 (Int32.toNatClampNeg (x5 + 1))) < Y_6 0 8) ∧ x_wtP (s_rfB A_7 ((ch_scr g).2.2 (Int32.toNatClampNeg (x5 + 2)))) = true) ∧ (y_ct Y_6 ((ch_scr g).2.2 (Int32.toNatClampNeg (x5 + 1))) (s_rfB A_7 ((ch_scr g).2.2 (Int32.toNatClampNeg (x5 + 2))) 1) (Int32.toNatClampNeg (s_rfB A_7 ((ch_scr g).2.2 (Int32.toNatClampNeg (x5 + 2))) 0 1))) = r_ ∧ (∀ a_ i_, a_ ≠ 9 → ¬ (a_ = 0 ∧ (i_ = 21 ∨ i_ = 19)) → B8 a_ i_ = ch_ob m4 9 0 a_ i_) ∧ (B8 0 19 = 0) ∧ m_ = ch_os m4 9 0 B8) ∨ ((¬ (0 ≤ ((ch_scr g).2.2 (Int32.toNatClampNeg (x5 + 1))) ∧ ((ch_scr g).2.2 (Int32.toNatClampNeg (x5 + 1))) < Y_6 0 8)) ∧ 0 = r_ ∧ m_ = ch_wr m4 (9, 0, 0) 19 1) ∨ (∃ (B9 : ch_B), ((0 ≤ ((ch_scr g).2.2 (Int32.toNatClampNeg (x5 + 1))) ∧ ((ch_scr g).2.2 (Int32.toNatClampNeg (x5 + 1))) < Y_6 0 8) ∧ ¬ x_wtP (s_rfB A_7 ((ch_scr g).2.2 (Int32.toNatClampNeg (x5 + 2)))) = true) ∧ 0 = r_ ∧ (∀ a_ i_, a_ ≠ 9 → ¬ (a_ = 0 ∧ (i_ = 21 ∨ i_ = 19)) → B9 a_ i_ = ch_ob m4 9 0 a_ i_) ∧ (B9 0 19 = 2) ∧ m_ = ch_os m4 9 0 B9)) (Y_6) (A_7) (((ch_scr g).2.2 (Int32.toNatClampNeg (x5 + 1)))) (((ch_scr g).2.2 (Int32.toNatClampNeg (x5 + 2)))) m4 ⟨b13, b14, b15, (fun c_ B8 f0_ f1_ => (Or.inl ⟨B8, c_, rfl, f0_, f1_, rfl⟩)), (fun c_ => (Or.inr (Or.inl ⟨c_, rfl, rfl⟩))), (fun c_ B9 f0_ f1_ => (Or.inr (Or.inr ⟨B9, c_, rfl, f0_, f1_, rfl⟩)))⟩))
    rcases q12 with ⟨B8, c_, rfl, f0_, f1_, hm_⟩ | ⟨c_, rfl, hm_⟩ | ⟨B9, c_, rfl, f0_, f1_, hm_⟩
    · replace h := h.1 c_ B8 f0_ f1_ m11 hm_
      refine ch_istore (i := 7) d_l_law_1171 (Nat.le_of_ble_eq_true rfl) (ls' := [some (.inr (11, 0, 0)), some (.inr (0, 0, 0)), some (.inr (9, 0, 0)), some (.inr (10, 0, 1)), some (.inr (10, 0, 2)), some (.inl (.int x5)), some (.inl (.int 0)), some (.inl (.int (y_ct Y_6 ((ch_scr g).2.2 (Int32.toNatClampNeg (x5 + 1))) (s_rfB A_7 ((ch_scr g).2.2 (Int32.toNatClampNeg (x5 + 2))) 1) (Int32.toNatClampNeg (s_rfB A_7 ((ch_scr g).2.2 (Int32.toNatClampNeg (x5 + 2))) 0 1))))), o8, o9]) rfl ?_
      refine ch_aload_n (i := 2) d_l_law_1173 rfl rfl ?_
      refine ch_callV (as := []) d_l_law_1174 lk_l_129 mi_m_thrown me_m_thrown rfl rfl rfl (ch_hR hR (Nat.le_of_ble_eq_true rfl)) (Nat.le_of_ble_eq_true rfl) (ch_rc1 (k := k) (a := 2) (b := 0) hcs (Nat.le_of_ble_eq_true rfl)) (ch_mono (ch_Ki (fun r16 m17 q18 => ?_)) (s_m_thrown g (fun (r_ : Int32) (m_ : ch_M) => ((m11 (9, 0, 0) 19) = r_ ∧ m11 = m_))  m11 ⟨rfl, rfl⟩))
      obtain ⟨rfl, rfl⟩ := q18
      replace h := h
      refine ch_iload d_l_law_1177 rfl ?_
      refine ch_icmp_eq (tgt := 1184) d_l_law_1179 (by decide) (fun c => ?_) (fun c => ?_)
      · replace h := h.1 c
        refine ch_iload d_l_law_1184 rfl ?_
        refine ch_if_ne (tgt := 1201) d_l_law_1186 (by decide) (fun c => absurd c (by decide)) (fun _ => ?_)
        refine ch_aload_n (i := 3) d_l_law_1189 rfl rfl ?_
        refine ch_iconst (v := 0) d_l_law_1190 (by decide) ?_
        refine ch_lald (n := 1) d_l_law_1191 (by decide) rfl (vp_in_nI (n := 0) (by decide) (by decide)) ?_
        refine ch_iload d_l_law_1192 rfl ?_
        refine ch_i2l d_l_law_1194 ?_
        refine ch_lcmp d_l_law_1195 ?_
        refine ch_if_eq (tgt := 1201) d_l_law_1196 (by decide) (fun c => ?_) (fun c => ?_)
        · replace h := h.1 c
          refine ch_goto (tgt := 2096) d_l_law_1201 (by decide) ?_
          exact h
        · replace h := h.2 c
          refine ch_iconst (v := 0) d_l_law_1199 (by decide) ?_
          exact h
      · replace h := h.2 c
        refine ch_iconst (v := 0) d_l_law_1182 (by decide) ?_
        exact h
    · replace h := h.2.1 c_ m11 hm_
      refine ch_istore (i := 7) d_l_law_1171 (Nat.le_of_ble_eq_true rfl) (ls' := [some (.inr (11, 0, 0)), some (.inr (0, 0, 0)), some (.inr (9, 0, 0)), some (.inr (10, 0, 1)), some (.inr (10, 0, 2)), some (.inl (.int x5)), some (.inl (.int 0)), some (.inl (.int 0)), o8, o9]) rfl ?_
      refine ch_aload_n (i := 2) d_l_law_1173 rfl rfl ?_
      refine ch_callV (as := []) d_l_law_1174 lk_l_129 mi_m_thrown me_m_thrown rfl rfl rfl (ch_hR hR (Nat.le_of_ble_eq_true rfl)) (Nat.le_of_ble_eq_true rfl) (ch_rc1 (k := k) (a := 2) (b := 0) hcs (Nat.le_of_ble_eq_true rfl)) (ch_mono (ch_Ki (fun r19 m20 q21 => ?_)) (s_m_thrown g (fun (r_ : Int32) (m_ : ch_M) => ((m11 (9, 0, 0) 19) = r_ ∧ m11 = m_))  m11 ⟨rfl, rfl⟩))
      obtain ⟨rfl, rfl⟩ := q21
      replace h := h
      refine ch_iload d_l_law_1177 rfl ?_
      refine ch_icmp_eq (tgt := 1184) d_l_law_1179 (by decide) (fun c => ?_) (fun c => ?_)
      · replace h := h.1 c
        refine ch_iload d_l_law_1184 rfl ?_
        refine ch_if_ne (tgt := 1201) d_l_law_1186 (by decide) (fun c => absurd c (by decide)) (fun _ => ?_)
        refine ch_aload_n (i := 3) d_l_law_1189 rfl rfl ?_
        refine ch_iconst (v := 0) d_l_law_1190 (by decide) ?_
        refine ch_lald (n := 1) d_l_law_1191 (by decide) rfl (vp_in_nI (n := 0) (by decide) (by decide)) ?_
        refine ch_iload d_l_law_1192 rfl ?_
        refine ch_i2l d_l_law_1194 ?_
        refine ch_lcmp d_l_law_1195 ?_
        refine ch_if_eq (tgt := 1201) d_l_law_1196 (by decide) (fun c => ?_) (fun c => ?_)
        · replace h := h.1 c
          refine ch_goto (tgt := 2096) d_l_law_1201 (by decide) ?_
          exact h
        · replace h := h.2 c
          refine ch_iconst (v := 0) d_l_law_1199 (by decide) ?_
          exact h
      · replace h := h.2 c
        refine ch_iconst (v := 0) d_l_law_1182 (by decide) ?_
        exact h
    · replace h := h.2.2 c_ B9 f0_ f1_ m11 hm_
      refine ch_istore (i := 7) d_l_law_1171 (Nat.le_of_ble_eq_true rfl) (ls' := [some (.inr (11, 0, 0)), some (.inr (0, 0, 0)), some (.inr (9, 0, 0)), some (.inr (10, 0, 1)), some (.inr (10, 0, 2)), some (.inl (.int x5)), some (.inl (.int 0)), some (.inl (.int 0)), o8, o9]) rfl ?_
      refine ch_aload_n (i := 2) d_l_law_1173 rfl rfl ?_
      refine ch_callV (as := []) d_l_law_1174 lk_l_129 mi_m_thrown me_m_thrown rfl rfl rfl (ch_hR hR (Nat.le_of_ble_eq_true rfl)) (Nat.le_of_ble_eq_true rfl) (ch_rc1 (k := k) (a := 2) (b := 0) hcs (Nat.le_of_ble_eq_true rfl)) (ch_mono (ch_Ki (fun r22 m23 q24 => ?_)) (s_m_thrown g (fun (r_ : Int32) (m_ : ch_M) => ((m11 (9, 0, 0) 19) = r_ ∧ m11 = m_))  m11 ⟨rfl, rfl⟩))
      obtain ⟨rfl, rfl⟩ := q24
      replace h := h
      refine ch_iload d_l_law_1177 rfl ?_
      refine ch_icmp_eq (tgt := 1184) d_l_law_1179 (by decide) (fun c => ?_) (fun c => ?_)
      · replace h := h.1 c
        refine ch_iload d_l_law_1184 rfl ?_
        refine ch_if_ne (tgt := 1201) d_l_law_1186 (by decide) (fun c => absurd c (by decide)) (fun _ => ?_)
        refine ch_aload_n (i := 3) d_l_law_1189 rfl rfl ?_
        refine ch_iconst (v := 0) d_l_law_1190 (by decide) ?_
        refine ch_lald (n := 1) d_l_law_1191 (by decide) rfl (vp_in_nI (n := 0) (by decide) (by decide)) ?_
        refine ch_iload d_l_law_1192 rfl ?_
        refine ch_i2l d_l_law_1194 ?_
        refine ch_lcmp d_l_law_1195 ?_
        refine ch_if_eq (tgt := 1201) d_l_law_1196 (by decide) (fun c => ?_) (fun c => ?_)
        · replace h := h.1 c
          refine ch_goto (tgt := 2096) d_l_law_1201 (by decide) ?_
          exact h
        · replace h := h.2 c
          refine ch_iconst (v := 0) d_l_law_1199 (by decide) ?_
          exact h
      · replace h := h.2 c
        refine ch_iconst (v := 0) d_l_law_1182 (by decide) ?_
        exact h
  · replace h := h.2.1 c_
    refine ch_istore (i := 6) d_l_law_1153 (Nat.le_of_ble_eq_true rfl) (ls' := [some (.inr (11, 0, 0)), some (.inr (0, 0, 0)), some (.inr (9, 0, 0)), some (.inr (10, 0, 1)), some (.inr (10, 0, 2)), some (.inl (.int x5)), some (.inl (.int 1)), o7, o8, o9]) rfl ?_
    refine ch_aload_n (i := 2) d_l_law_1155 rfl rfl ?_
    refine ch_aload_n (i := 0) d_l_law_1156 rfl rfl ?_
    refine ch_iload d_l_law_1157 rfl ?_
    refine ch_iconst (v := 1) d_l_law_1159 (by decide) ?_
    refine ch_iadd d_l_law_1160 ?_
    refine ch_sld d_l_law_1161 b1 ?_
    refine ch_aload_n (i := 0) d_l_law_1162 rfl rfl ?_
    refine ch_iload d_l_law_1163 rfl ?_
    refine ch_iconst (v := 2) d_l_law_1165 (by decide) ?_
    refine ch_iadd d_l_law_1166 ?_
    refine ch_sld d_l_law_1167 b2 ?_
    obtain ⟨Y_25, h⟩ := h
    obtain ⟨A_26, h⟩ := h
    have b32 := h.1
    replace h := h.2
    have b33 := h.1
    replace h := h.2
    have b34 := h.1
    replace h := h.2
    refine ch_callV (as := [.inl (.int ((ch_scr g).2.2 (Int32.toNatClampNeg (x5 + 1)))), .inl (.int ((ch_scr g).2.2 (Int32.toNatClampNeg (x5 + 2))))]) d_l_law_1168 lk_l_180 mi_m_wouldTread me_m_wouldTread rfl rfl rfl (ch_hR hR (Nat.le_of_ble_eq_true rfl)) (Nat.le_of_ble_eq_true rfl) (ch_rc1 (k := k) (a := 2) (b := 0) hcs (Nat.le_of_ble_eq_true rfl)) (ch_mono (ch_Ki (fun r29 m30 q31 => ?_)) (s_m_wouldTread g (fun (r_ : Int32) (m_ : ch_M) => (∃ (B27 : ch_B), ((0 ≤ ((ch_scr g).2.2 (Int32.toNatClampNeg (x5 + 1))) ∧ ((ch_scr g).2.2 (Int32.toNatClampNeg (x5 + 1))) < Y_25 0 8) ∧ x_wtP (s_rfB A_26 ((ch_scr g).2.2 (Int32.toNatClampNeg (x5 + 2)))) = true) ∧ (y_ct Y_25 ((ch_scr g).2.2 (Int32.toNatClampNeg (x5 + 1))) (s_rfB A_26 ((ch_scr g).2.2 (Int32.toNatClampNeg (x5 + 2))) 1) (Int32.toNatClampNeg (s_rfB A_26 ((ch_scr g).2.2 (Int32.toNatClampNeg (x5 + 2))) 0 1))) = r_ ∧ (∀ a_ i_, a_ ≠ 9 → ¬ (a_ = 0 ∧ (i_ = 21 ∨ i_ = 19)) → B27 a_ i_ = ch_ob m 9 0 a_ i_) ∧ (B27 0 19 = 0) ∧ m_ = ch_os m 9 0 B27) ∨ ((¬ (0 ≤ ((ch_scr g).2.2 (Int32.toNatClampNeg (x5 + 1))) ∧ ((ch_scr g).2.2 (Int32.toNatClampNeg (x5 + 1))) < Y_25 0 8)) ∧ 0 = r_ ∧ m_ = ch_wr m (9, 0, 0) 19 1) ∨ (∃ (B28 : ch_B), ((0 ≤ ((ch_scr g).2.2 (Int32.toNatClampNeg (x5 + 1))) ∧ ((ch_scr g).2.2 (Int32.toNatClampNeg (x5 + 1))) < Y_25 0 8) ∧ ¬ x_wtP (s_rfB A_26 ((ch_scr g).2.2 (Int32.toNatClampNeg (x5 + 2)))) = true) ∧ 0 = r_ ∧ (∀ a_ i_, a_ ≠ 9 → ¬ (a_ = 0 ∧ (i_ = 21 ∨ i_ = 19)) → B28 a_ i_ = ch_ob m 9 0 a_ i_) ∧ (B28 0 19 = 2) ∧ m_ = ch_os m 9 0 B28)) (Y_25) (A_26) (((ch_scr g).2.2 (Int32.toNatClampNeg (x5 + 1)))) (((ch_scr g).2.2 (Int32.toNatClampNeg (x5 + 2)))) m ⟨b32, b33, b34, (fun c_ B27 f0_ f1_ => (Or.inl ⟨B27, c_, rfl, f0_, f1_, rfl⟩)), (fun c_ => (Or.inr (Or.inl ⟨c_, rfl, rfl⟩))), (fun c_ B28 f0_ f1_ => (Or.inr (Or.inr ⟨B28, c_, rfl, f0_, f1_, rfl⟩)))⟩))
    rcases q31 with ⟨B27, c_, rfl, f0_, f1_, hm_⟩ | ⟨c_, rfl, hm_⟩ | ⟨B28, c_, rfl, f0_, f1_, hm_⟩
    · replace h := h.1 c_ B27 f0_ f1_ m30 hm_
      refine ch_istore (i := 7) d_l_law_1171 (Nat.le_of_ble_eq_true rfl) (ls' := [some (.inr (11, 0, 0)), some (.inr (0, 0, 0)), some (.inr (9, 0, 0)), some (.inr (10, 0, 1)), some (.inr (10, 0, 2)), some (.inl (.int x5)), some (.inl (.int 1)), some (.inl (.int (y_ct Y_25 ((ch_scr g).2.2 (Int32.toNatClampNeg (x5 + 1))) (s_rfB A_26 ((ch_scr g).2.2 (Int32.toNatClampNeg (x5 + 2))) 1) (Int32.toNatClampNeg (s_rfB A_26 ((ch_scr g).2.2 (Int32.toNatClampNeg (x5 + 2))) 0 1))))), o8, o9]) rfl ?_
      refine ch_aload_n (i := 2) d_l_law_1173 rfl rfl ?_
      refine ch_callV (as := []) d_l_law_1174 lk_l_129 mi_m_thrown me_m_thrown rfl rfl rfl (ch_hR hR (Nat.le_of_ble_eq_true rfl)) (Nat.le_of_ble_eq_true rfl) (ch_rc1 (k := k) (a := 2) (b := 0) hcs (Nat.le_of_ble_eq_true rfl)) (ch_mono (ch_Ki (fun r35 m36 q37 => ?_)) (s_m_thrown g (fun (r_ : Int32) (m_ : ch_M) => ((m30 (9, 0, 0) 19) = r_ ∧ m30 = m_))  m30 ⟨rfl, rfl⟩))
      obtain ⟨rfl, rfl⟩ := q37
      replace h := h
      refine ch_iload d_l_law_1177 rfl ?_
      refine ch_icmp_eq (tgt := 1184) d_l_law_1179 (by decide) (fun c => ?_) (fun c => ?_)
      · replace h := h.1 c
        refine ch_iload d_l_law_1184 rfl ?_
        refine ch_if_ne (tgt := 1201) d_l_law_1186 (by decide) (fun _ => ?_) (fun c => absurd c (by decide))
        refine ch_goto (tgt := 2096) d_l_law_1201 (by decide) ?_
        exact h
      · replace h := h.2 c
        refine ch_iconst (v := 0) d_l_law_1182 (by decide) ?_
        exact h
    · replace h := h.2.1 c_ m30 hm_
      refine ch_istore (i := 7) d_l_law_1171 (Nat.le_of_ble_eq_true rfl) (ls' := [some (.inr (11, 0, 0)), some (.inr (0, 0, 0)), some (.inr (9, 0, 0)), some (.inr (10, 0, 1)), some (.inr (10, 0, 2)), some (.inl (.int x5)), some (.inl (.int 1)), some (.inl (.int 0)), o8, o9]) rfl ?_
      refine ch_aload_n (i := 2) d_l_law_1173 rfl rfl ?_
      refine ch_callV (as := []) d_l_law_1174 lk_l_129 mi_m_thrown me_m_thrown rfl rfl rfl (ch_hR hR (Nat.le_of_ble_eq_true rfl)) (Nat.le_of_ble_eq_true rfl) (ch_rc1 (k := k) (a := 2) (b := 0) hcs (Nat.le_of_ble_eq_true rfl)) (ch_mono (ch_Ki (fun r38 m39 q40 => ?_)) (s_m_thrown g (fun (r_ : Int32) (m_ : ch_M) => ((m30 (9, 0, 0) 19) = r_ ∧ m30 = m_))  m30 ⟨rfl, rfl⟩))
      obtain ⟨rfl, rfl⟩ := q40
      replace h := h
      refine ch_iload d_l_law_1177 rfl ?_
      refine ch_icmp_eq (tgt := 1184) d_l_law_1179 (by decide) (fun c => ?_) (fun c => ?_)
      · replace h := h.1 c
        refine ch_iload d_l_law_1184 rfl ?_
        refine ch_if_ne (tgt := 1201) d_l_law_1186 (by decide) (fun _ => ?_) (fun c => absurd c (by decide))
        refine ch_goto (tgt := 2096) d_l_law_1201 (by decide) ?_
        exact h
      · replace h := h.2 c
        refine ch_iconst (v := 0) d_l_law_1182 (by decide) ?_
        exact h
    · replace h := h.2.2 c_ B28 f0_ f1_ m30 hm_
      refine ch_istore (i := 7) d_l_law_1171 (Nat.le_of_ble_eq_true rfl) (ls' := [some (.inr (11, 0, 0)), some (.inr (0, 0, 0)), some (.inr (9, 0, 0)), some (.inr (10, 0, 1)), some (.inr (10, 0, 2)), some (.inl (.int x5)), some (.inl (.int 1)), some (.inl (.int 0)), o8, o9]) rfl ?_
      refine ch_aload_n (i := 2) d_l_law_1173 rfl rfl ?_
      refine ch_callV (as := []) d_l_law_1174 lk_l_129 mi_m_thrown me_m_thrown rfl rfl rfl (ch_hR hR (Nat.le_of_ble_eq_true rfl)) (Nat.le_of_ble_eq_true rfl) (ch_rc1 (k := k) (a := 2) (b := 0) hcs (Nat.le_of_ble_eq_true rfl)) (ch_mono (ch_Ki (fun r41 m42 q43 => ?_)) (s_m_thrown g (fun (r_ : Int32) (m_ : ch_M) => ((m30 (9, 0, 0) 19) = r_ ∧ m30 = m_))  m30 ⟨rfl, rfl⟩))
      obtain ⟨rfl, rfl⟩ := q43
      replace h := h
      refine ch_iload d_l_law_1177 rfl ?_
      refine ch_icmp_eq (tgt := 1184) d_l_law_1179 (by decide) (fun c => ?_) (fun c => ?_)
      · replace h := h.1 c
        refine ch_iload d_l_law_1184 rfl ?_
        refine ch_if_ne (tgt := 1201) d_l_law_1186 (by decide) (fun _ => ?_) (fun c => absurd c (by decide))
        refine ch_goto (tgt := 2096) d_l_law_1201 (by decide) ?_
        exact h
      · replace h := h.2 c
        refine ch_iconst (v := 0) d_l_law_1182 (by decide) ?_
        exact h
  · replace h := h.2.2 c_ m4 hm_
    refine ch_istore (i := 6) d_l_law_1153 (Nat.le_of_ble_eq_true rfl) (ls' := [some (.inr (11, 0, 0)), some (.inr (0, 0, 0)), some (.inr (9, 0, 0)), some (.inr (10, 0, 1)), some (.inr (10, 0, 2)), some (.inl (.int x5)), some (.inl (.int 2)), o7, o8, o9]) rfl ?_
    refine ch_aload_n (i := 2) d_l_law_1155 rfl rfl ?_
    refine ch_aload_n (i := 0) d_l_law_1156 rfl rfl ?_
    refine ch_iload d_l_law_1157 rfl ?_
    refine ch_iconst (v := 1) d_l_law_1159 (by decide) ?_
    refine ch_iadd d_l_law_1160 ?_
    refine ch_sld d_l_law_1161 b1 ?_
    refine ch_aload_n (i := 0) d_l_law_1162 rfl rfl ?_
    refine ch_iload d_l_law_1163 rfl ?_
    refine ch_iconst (v := 2) d_l_law_1165 (by decide) ?_
    refine ch_iadd d_l_law_1166 ?_
    refine ch_sld d_l_law_1167 b2 ?_
    obtain ⟨Y_44, h⟩ := h
    obtain ⟨A_45, h⟩ := h
    have b51 := h.1
    replace h := h.2
    have b52 := h.1
    replace h := h.2
    have b53 := h.1
    replace h := h.2
    refine ch_callV (as := [.inl (.int ((ch_scr g).2.2 (Int32.toNatClampNeg (x5 + 1)))), .inl (.int ((ch_scr g).2.2 (Int32.toNatClampNeg (x5 + 2))))]) d_l_law_1168 lk_l_180 mi_m_wouldTread me_m_wouldTread rfl rfl rfl (ch_hR hR (Nat.le_of_ble_eq_true rfl)) (Nat.le_of_ble_eq_true rfl) (ch_rc1 (k := k) (a := 2) (b := 0) hcs (Nat.le_of_ble_eq_true rfl)) (ch_mono (ch_Ki (fun r48 m49 q50 => ?_)) (s_m_wouldTread g (fun (r_ : Int32) (m_ : ch_M) => (∃ (B46 : ch_B), ((0 ≤ ((ch_scr g).2.2 (Int32.toNatClampNeg (x5 + 1))) ∧ ((ch_scr g).2.2 (Int32.toNatClampNeg (x5 + 1))) < Y_44 0 8) ∧ x_wtP (s_rfB A_45 ((ch_scr g).2.2 (Int32.toNatClampNeg (x5 + 2)))) = true) ∧ (y_ct Y_44 ((ch_scr g).2.2 (Int32.toNatClampNeg (x5 + 1))) (s_rfB A_45 ((ch_scr g).2.2 (Int32.toNatClampNeg (x5 + 2))) 1) (Int32.toNatClampNeg (s_rfB A_45 ((ch_scr g).2.2 (Int32.toNatClampNeg (x5 + 2))) 0 1))) = r_ ∧ (∀ a_ i_, a_ ≠ 9 → ¬ (a_ = 0 ∧ (i_ = 21 ∨ i_ = 19)) → B46 a_ i_ = ch_ob m4 9 0 a_ i_) ∧ (B46 0 19 = 0) ∧ m_ = ch_os m4 9 0 B46) ∨ ((¬ (0 ≤ ((ch_scr g).2.2 (Int32.toNatClampNeg (x5 + 1))) ∧ ((ch_scr g).2.2 (Int32.toNatClampNeg (x5 + 1))) < Y_44 0 8)) ∧ 0 = r_ ∧ m_ = ch_wr m4 (9, 0, 0) 19 1) ∨ (∃ (B47 : ch_B), ((0 ≤ ((ch_scr g).2.2 (Int32.toNatClampNeg (x5 + 1))) ∧ ((ch_scr g).2.2 (Int32.toNatClampNeg (x5 + 1))) < Y_44 0 8) ∧ ¬ x_wtP (s_rfB A_45 ((ch_scr g).2.2 (Int32.toNatClampNeg (x5 + 2)))) = true) ∧ 0 = r_ ∧ (∀ a_ i_, a_ ≠ 9 → ¬ (a_ = 0 ∧ (i_ = 21 ∨ i_ = 19)) → B47 a_ i_ = ch_ob m4 9 0 a_ i_) ∧ (B47 0 19 = 2) ∧ m_ = ch_os m4 9 0 B47)) (Y_44) (A_45) (((ch_scr g).2.2 (Int32.toNatClampNeg (x5 + 1)))) (((ch_scr g).2.2 (Int32.toNatClampNeg (x5 + 2)))) m4 ⟨b51, b52, b53, (fun c_ B46 f0_ f1_ => (Or.inl ⟨B46, c_, rfl, f0_, f1_, rfl⟩)), (fun c_ => (Or.inr (Or.inl ⟨c_, rfl, rfl⟩))), (fun c_ B47 f0_ f1_ => (Or.inr (Or.inr ⟨B47, c_, rfl, f0_, f1_, rfl⟩)))⟩))
    rcases q50 with ⟨B46, c_, rfl, f0_, f1_, hm_⟩ | ⟨c_, rfl, hm_⟩ | ⟨B47, c_, rfl, f0_, f1_, hm_⟩
    · replace h := h.1 c_ B46 f0_ f1_ m49 hm_
      refine ch_istore (i := 7) d_l_law_1171 (Nat.le_of_ble_eq_true rfl) (ls' := [some (.inr (11, 0, 0)), some (.inr (0, 0, 0)), some (.inr (9, 0, 0)), some (.inr (10, 0, 1)), some (.inr (10, 0, 2)), some (.inl (.int x5)), some (.inl (.int 2)), some (.inl (.int (y_ct Y_44 ((ch_scr g).2.2 (Int32.toNatClampNeg (x5 + 1))) (s_rfB A_45 ((ch_scr g).2.2 (Int32.toNatClampNeg (x5 + 2))) 1) (Int32.toNatClampNeg (s_rfB A_45 ((ch_scr g).2.2 (Int32.toNatClampNeg (x5 + 2))) 0 1))))), o8, o9]) rfl ?_
      refine ch_aload_n (i := 2) d_l_law_1173 rfl rfl ?_
      refine ch_callV (as := []) d_l_law_1174 lk_l_129 mi_m_thrown me_m_thrown rfl rfl rfl (ch_hR hR (Nat.le_of_ble_eq_true rfl)) (Nat.le_of_ble_eq_true rfl) (ch_rc1 (k := k) (a := 2) (b := 0) hcs (Nat.le_of_ble_eq_true rfl)) (ch_mono (ch_Ki (fun r54 m55 q56 => ?_)) (s_m_thrown g (fun (r_ : Int32) (m_ : ch_M) => ((m49 (9, 0, 0) 19) = r_ ∧ m49 = m_))  m49 ⟨rfl, rfl⟩))
      obtain ⟨rfl, rfl⟩ := q56
      replace h := h
      refine ch_iload d_l_law_1177 rfl ?_
      refine ch_icmp_eq (tgt := 1184) d_l_law_1179 (by decide) (fun c => ?_) (fun c => ?_)
      · replace h := h.1 c
        refine ch_iload d_l_law_1184 rfl ?_
        refine ch_if_ne (tgt := 1201) d_l_law_1186 (by decide) (fun _ => ?_) (fun c => absurd c (by decide))
        refine ch_goto (tgt := 2096) d_l_law_1201 (by decide) ?_
        exact h
      · replace h := h.2 c
        refine ch_iconst (v := 0) d_l_law_1182 (by decide) ?_
        exact h
    · replace h := h.2.1 c_ m49 hm_
      refine ch_istore (i := 7) d_l_law_1171 (Nat.le_of_ble_eq_true rfl) (ls' := [some (.inr (11, 0, 0)), some (.inr (0, 0, 0)), some (.inr (9, 0, 0)), some (.inr (10, 0, 1)), some (.inr (10, 0, 2)), some (.inl (.int x5)), some (.inl (.int 2)), some (.inl (.int 0)), o8, o9]) rfl ?_
      refine ch_aload_n (i := 2) d_l_law_1173 rfl rfl ?_
      refine ch_callV (as := []) d_l_law_1174 lk_l_129 mi_m_thrown me_m_thrown rfl rfl rfl (ch_hR hR (Nat.le_of_ble_eq_true rfl)) (Nat.le_of_ble_eq_true rfl) (ch_rc1 (k := k) (a := 2) (b := 0) hcs (Nat.le_of_ble_eq_true rfl)) (ch_mono (ch_Ki (fun r57 m58 q59 => ?_)) (s_m_thrown g (fun (r_ : Int32) (m_ : ch_M) => ((m49 (9, 0, 0) 19) = r_ ∧ m49 = m_))  m49 ⟨rfl, rfl⟩))
      obtain ⟨rfl, rfl⟩ := q59
      replace h := h
      refine ch_iload d_l_law_1177 rfl ?_
      refine ch_icmp_eq (tgt := 1184) d_l_law_1179 (by decide) (fun c => ?_) (fun c => ?_)
      · replace h := h.1 c
        refine ch_iload d_l_law_1184 rfl ?_
        refine ch_if_ne (tgt := 1201) d_l_law_1186 (by decide) (fun _ => ?_) (fun c => absurd c (by decide))
        refine ch_goto (tgt := 2096) d_l_law_1201 (by decide) ?_
        exact h
      · replace h := h.2 c
        refine ch_iconst (v := 0) d_l_law_1182 (by decide) ?_
        exact h
    · replace h := h.2.2 c_ B47 f0_ f1_ m49 hm_
      refine ch_istore (i := 7) d_l_law_1171 (Nat.le_of_ble_eq_true rfl) (ls' := [some (.inr (11, 0, 0)), some (.inr (0, 0, 0)), some (.inr (9, 0, 0)), some (.inr (10, 0, 1)), some (.inr (10, 0, 2)), some (.inl (.int x5)), some (.inl (.int 2)), some (.inl (.int 0)), o8, o9]) rfl ?_
      refine ch_aload_n (i := 2) d_l_law_1173 rfl rfl ?_
      refine ch_callV (as := []) d_l_law_1174 lk_l_129 mi_m_thrown me_m_thrown rfl rfl rfl (ch_hR hR (Nat.le_of_ble_eq_true rfl)) (Nat.le_of_ble_eq_true rfl) (ch_rc1 (k := k) (a := 2) (b := 0) hcs (Nat.le_of_ble_eq_true rfl)) (ch_mono (ch_Ki (fun r60 m61 q62 => ?_)) (s_m_thrown g (fun (r_ : Int32) (m_ : ch_M) => ((m49 (9, 0, 0) 19) = r_ ∧ m49 = m_))  m49 ⟨rfl, rfl⟩))
      obtain ⟨rfl, rfl⟩ := q62
      replace h := h
      refine ch_iload d_l_law_1177 rfl ?_
      refine ch_icmp_eq (tgt := 1184) d_l_law_1179 (by decide) (fun c => ?_) (fun c => ?_)
      · replace h := h.1 c
        refine ch_iload d_l_law_1184 rfl ?_
        refine ch_if_ne (tgt := 1201) d_l_law_1186 (by decide) (fun _ => ?_) (fun c => absurd c (by decide))
        refine ch_goto (tgt := 2096) d_l_law_1201 (by decide) ?_
        exact h
      · replace h := h.2 c
        refine ch_iconst (v := 0) d_l_law_1182 (by decide) ?_
        exact h
set_option maxHeartbeats 1600000 in
theorem g_l_law_1204 (g : ch_G) (R : Room) (E : ch_En) (k : Nat) (hR : ch_RR R 18) (hcs : k + 40 ≤ R.cells ∧ 6 * k + 240 ≤ R.slots) (x5 : Int32) (o6 : Option ch_V) (o7 : Option ch_V) (o8 : Option ch_V) (o9 : Option ch_V) (m : ch_M) (h : (vp_in (x5 + 1) (ch_scr g).2.1) ∧ (((0 ≤ ((ch_scr g).2.2 (Int32.toNatClampNeg (x5 + 1))) ∧ ((ch_scr g).2.2 (Int32.toNatClampNeg (x5 + 1))) < m (1, 0, 0) 8) → (∀ m3 : ch_M, m3 = (ch_wr m (10, 0, 1) 0 ((y_lr (m (1, 0, 1)) ((ch_scr g).2.2 (Int32.toNatClampNeg (x5 + 1))) 12).1)) → (∃ Y_5 : ch_B, (m_rel Y_5 (m3 (9, 0, 1))) ∧ (vp_in (Y_5 0 8) 6) ∧ (((0 ≤ ((ch_scr g).2.2 (Int32.toNatClampNeg (x5 + 1))) ∧ ((ch_scr g).2.2 (Int32.toNatClampNeg (x5 + 1))) < Y_5 0 8) → (∀ m7 : ch_M, m7 = ch_wr m3 (9, 0, 0) 19 0 → ((((m7 (9, 0, 0) 19) = 0 → (((lg_cmp ((m7 (10, 0, 1) (0))).toInt64 (((y_lr (Y_5 1) ((ch_scr g).2.2 (Int32.toNatClampNeg (x5 + 1))) 12).1)).toInt64) = 0 → ch_J g m_l_law R E 2096 [some (.inr (11, 0, 0)), some (.inr (0, 0, 0)), some (.inr (9, 0, 0)), some (.inr (10, 0, 1)), some (.inr (10, 0, 2)), some (.inl (.int x5)), some (.inl (.int 0)), some (.inl (.int ((y_lr (Y_5 1) ((ch_scr g).2.2 (Int32.toNatClampNeg (x5 + 1))) 12).1))), o8, o9] [] m7 (k + 1)) ∧ (¬ (lg_cmp ((m7 (10, 0, 1) (0))).toInt64 (((y_lr (Y_5 1) ((ch_scr g).2.2 (Int32.toNatClampNeg (x5 + 1))) 12).1)).toInt64) = 0 → ch_J g m_l_law R E 1256 [some (.inr (11, 0, 0)), some (.inr (0, 0, 0)), some (.inr (9, 0, 0)), some (.inr (10, 0, 1)), some (.inr (10, 0, 2)), some (.inl (.int x5)), some (.inl (.int 0)), some (.inl (.int ((y_lr (Y_5 1) ((ch_scr g).2.2 (Int32.toNatClampNeg (x5 + 1))) 12).1))), o8, o9] [.inl (.int 0)] m7 (k + 1)))) ∧ (¬ (m7 (9, 0, 0) 19) = 0 → ch_J g m_l_law R E 1239 [some (.inr (11, 0, 0)), some (.inr (0, 0, 0)), some (.inr (9, 0, 0)), some (.inr (10, 0, 1)), some (.inr (10, 0, 2)), some (.inl (.int x5)), some (.inl (.int 0)), some (.inl (.int ((y_lr (Y_5 1) ((ch_scr g).2.2 (Int32.toNatClampNeg (x5 + 1))) 12).1))), o8, o9] [.inl (.int 0)] m7 (k + 1)))))) ∧ ((¬ (0 ≤ ((ch_scr g).2.2 (Int32.toNatClampNeg (x5 + 1))) ∧ ((ch_scr g).2.2 (Int32.toNatClampNeg (x5 + 1))) < Y_5 0 8)) → (∀ m7 : ch_M, m7 = ch_wr m3 (9, 0, 0) 19 1 → ((((m7 (9, 0, 0) 19) = 0 → (((lg_cmp ((m7 (10, 0, 1) (0))).toInt64 (0).toInt64) = 0 → ch_J g m_l_law R E 2096 [some (.inr (11, 0, 0)), some (.inr (0, 0, 0)), some (.inr (9, 0, 0)), some (.inr (10, 0, 1)), some (.inr (10, 0, 2)), some (.inl (.int x5)), some (.inl (.int 0)), some (.inl (.int 0)), o8, o9] [] m7 (k + 1)) ∧ (¬ (lg_cmp ((m7 (10, 0, 1) (0))).toInt64 (0).toInt64) = 0 → ch_J g m_l_law R E 1256 [some (.inr (11, 0, 0)), some (.inr (0, 0, 0)), some (.inr (9, 0, 0)), some (.inr (10, 0, 1)), some (.inr (10, 0, 2)), some (.inl (.int x5)), some (.inl (.int 0)), some (.inl (.int 0)), o8, o9] [.inl (.int 0)] m7 (k + 1)))) ∧ (¬ (m7 (9, 0, 0) 19) = 0 → ch_J g m_l_law R E 1239 [some (.inr (11, 0, 0)), some (.inr (0, 0, 0)), some (.inr (9, 0, 0)), some (.inr (10, 0, 1)), some (.inr (10, 0, 2)), some (.inl (.int x5)), some (.inl (.int 0)), some (.inl (.int 0)), o8, o9] [.inl (.int 0)] m7 (k + 1)))))))))) ∧ ((¬ (0 ≤ ((ch_scr g).2.2 (Int32.toNatClampNeg (x5 + 1))) ∧ ((ch_scr g).2.2 (Int32.toNatClampNeg (x5 + 1))) < m (1, 0, 0) 8)) → (∃ Y_17 : ch_B, (m_rel Y_17 (m (9, 0, 1))) ∧ (vp_in (Y_17 0 8) 6) ∧ (((0 ≤ ((ch_scr g).2.2 (Int32.toNatClampNeg (x5 + 1))) ∧ ((ch_scr g).2.2 (Int32.toNatClampNeg (x5 + 1))) < Y_17 0 8) → (∀ m19 : ch_M, m19 = ch_wr m (9, 0, 0) 19 0 → ((((m19 (9, 0, 0) 19) = 1 → ch_J g m_l_law R E 2096 [some (.inr (11, 0, 0)), some (.inr (0, 0, 0)), some (.inr (9, 0, 0)), some (.inr (10, 0, 1)), some (.inr (10, 0, 2)), some (.inl (.int x5)), some (.inl (.int 1)), some (.inl (.int ((y_lr (Y_17 1) ((ch_scr g).2.2 (Int32.toNatClampNeg (x5 + 1))) 12).1))), o8, o9] [] m19 (k + 1)) ∧ (¬ (m19 (9, 0, 0) 19) = 1 → ch_J g m_l_law R E 1239 [some (.inr (11, 0, 0)), some (.inr (0, 0, 0)), some (.inr (9, 0, 0)), some (.inr (10, 0, 1)), some (.inr (10, 0, 2)), some (.inl (.int x5)), some (.inl (.int 1)), some (.inl (.int ((y_lr (Y_17 1) ((ch_scr g).2.2 (Int32.toNatClampNeg (x5 + 1))) 12).1))), o8, o9] [.inl (.int 0)] m19 (k + 1)))))) ∧ ((¬ (0 ≤ ((ch_scr g).2.2 (Int32.toNatClampNeg (x5 + 1))) ∧ ((ch_scr g).2.2 (Int32.toNatClampNeg (x5 + 1))) < Y_17 0 8)) → (∀ m19 : ch_M, m19 = ch_wr m (9, 0, 0) 19 1 → ((((m19 (9, 0, 0) 19) = 1 → ch_J g m_l_law R E 2096 [some (.inr (11, 0, 0)), some (.inr (0, 0, 0)), some (.inr (9, 0, 0)), some (.inr (10, 0, 1)), some (.inr (10, 0, 2)), some (.inl (.int x5)), some (.inl (.int 1)), some (.inl (.int 0)), o8, o9] [] m19 (k + 1)) ∧ (¬ (m19 (9, 0, 0) 19) = 1 → ch_J g m_l_law R E 1239 [some (.inr (11, 0, 0)), some (.inr (0, 0, 0)), some (.inr (9, 0, 0)), some (.inr (10, 0, 1)), some (.inr (10, 0, 2)), some (.inl (.int x5)), some (.inl (.int 1)), some (.inl (.int 0)), o8, o9] [.inl (.int 0)] m19 (k + 1))))))))))) : ch_J g m_l_law R E 1204 [some (.inr (11, 0, 0)), some (.inr (0, 0, 0)), some (.inr (9, 0, 0)), some (.inr (10, 0, 1)), some (.inr (10, 0, 2)), some (.inl (.int x5)), o6, o7, o8, o9] [] m k := by
  refine ch_aload_n (i := 1) d_l_law_1204 rfl rfl ?_
  refine ch_aload_n (i := 0) d_l_law_1205 rfl rfl ?_
  refine ch_iload d_l_law_1206 rfl ?_
  refine ch_iconst (v := 1) d_l_law_1208 (by decide) ?_
  refine ch_iadd d_l_law_1209 ?_
  have b1 := h.1
  replace h := h.2
  refine ch_sld d_l_law_1210 b1 ?_
  refine ch_aload_n (i := 3) d_l_law_1211 rfl rfl ?_
  refine ch_callSX (as := [.inr (0, 0, 0), .inl (.int ((ch_scr g).2.2 (Int32.toNatClampNeg (x5 + 1)))), .inr (10, 0, 1)]) d_l_law_1212 lk_l_181 ms_l_longest rfl rfl (ch_hR hR (Nat.le_of_ble_eq_true rfl)) (Nat.le_of_ble_eq_true rfl) (ch_rc0 (k := k) (b := 1) hcs (Nat.le_of_ble_eq_true rfl)) (ch_mono (ch_Ki (fun r2 m3 q4 => ?_)) (s_l_longest g (fun (r_ : Int32) (m_ : ch_M) => ((0 ≤ ((ch_scr g).2.2 (Int32.toNatClampNeg (x5 + 1))) ∧ ((ch_scr g).2.2 (Int32.toNatClampNeg (x5 + 1))) < m (1, 0, 0) 8) ∧ 0 = r_ ∧ m_ = (ch_wr m (10, 0, 1) 0 ((y_lr (m (1, 0, 1)) ((ch_scr g).2.2 (Int32.toNatClampNeg (x5 + 1))) 12).1))) ∨ ((¬ (0 ≤ ((ch_scr g).2.2 (Int32.toNatClampNeg (x5 + 1))) ∧ ((ch_scr g).2.2 (Int32.toNatClampNeg (x5 + 1))) < m (1, 0, 0) 8)) ∧ 1 = r_ ∧ m = m_)) (((ch_scr g).2.2 (Int32.toNatClampNeg (x5 + 1)))) m ⟨(fun c_ => (Or.inl ⟨c_, rfl, rfl⟩)), (fun c_ => (Or.inr ⟨c_, rfl, rfl⟩))⟩))
  rcases q4 with ⟨c_, rfl, hm_⟩ | ⟨c_, rfl, rfl⟩
  · replace h := h.1 c_ m3 hm_
    refine ch_istore (i := 6) d_l_law_1215 (Nat.le_of_ble_eq_true rfl) (ls' := [some (.inr (11, 0, 0)), some (.inr (0, 0, 0)), some (.inr (9, 0, 0)), some (.inr (10, 0, 1)), some (.inr (10, 0, 2)), some (.inl (.int x5)), some (.inl (.int 0)), o7, o8, o9]) rfl ?_
    refine ch_aload_n (i := 2) d_l_law_1217 rfl rfl ?_
    refine ch_aload_n (i := 0) d_l_law_1218 rfl rfl ?_
    refine ch_iload d_l_law_1219 rfl ?_
    refine ch_iconst (v := 1) d_l_law_1221 (by decide) ?_
    refine ch_iadd d_l_law_1222 ?_
    refine ch_sld d_l_law_1223 b1 ?_
    obtain ⟨Y_5, h⟩ := h
    have b9 := h.1
    replace h := h.2
    have b10 := h.1
    replace h := h.2
    refine ch_callV (as := [.inl (.int ((ch_scr g).2.2 (Int32.toNatClampNeg (x5 + 1))))]) d_l_law_1224 lk_l_183 mi_m_longest me_m_longest rfl rfl rfl (ch_hR hR (Nat.le_of_ble_eq_true rfl)) (Nat.le_of_ble_eq_true rfl) (ch_rc1 (k := k) (a := 1) (b := 0) hcs (Nat.le_of_ble_eq_true rfl)) (ch_mono (ch_Ki (fun r6 m7 q8 => ?_)) (s_m_longest g (fun (r_ : Int32) (m_ : ch_M) => ((0 ≤ ((ch_scr g).2.2 (Int32.toNatClampNeg (x5 + 1))) ∧ ((ch_scr g).2.2 (Int32.toNatClampNeg (x5 + 1))) < Y_5 0 8) ∧ ((y_lr (Y_5 1) ((ch_scr g).2.2 (Int32.toNatClampNeg (x5 + 1))) 12).1) = r_ ∧ m_ = ch_wr m3 (9, 0, 0) 19 0) ∨ ((¬ (0 ≤ ((ch_scr g).2.2 (Int32.toNatClampNeg (x5 + 1))) ∧ ((ch_scr g).2.2 (Int32.toNatClampNeg (x5 + 1))) < Y_5 0 8)) ∧ 0 = r_ ∧ m_ = ch_wr m3 (9, 0, 0) 19 1)) (Y_5) (((ch_scr g).2.2 (Int32.toNatClampNeg (x5 + 1)))) m3 ⟨b9, b10, (fun c_ => (Or.inl ⟨c_, rfl, rfl⟩)), (fun c_ => (Or.inr ⟨c_, rfl, rfl⟩))⟩))
    rcases q8 with ⟨c_, rfl, hm_⟩ | ⟨c_, rfl, hm_⟩
    · replace h := h.1 c_ m7 hm_
      refine ch_istore (i := 7) d_l_law_1227 (Nat.le_of_ble_eq_true rfl) (ls' := [some (.inr (11, 0, 0)), some (.inr (0, 0, 0)), some (.inr (9, 0, 0)), some (.inr (10, 0, 1)), some (.inr (10, 0, 2)), some (.inl (.int x5)), some (.inl (.int 0)), some (.inl (.int ((y_lr (Y_5 1) ((ch_scr g).2.2 (Int32.toNatClampNeg (x5 + 1))) 12).1))), o8, o9]) rfl ?_
      refine ch_aload_n (i := 2) d_l_law_1229 rfl rfl ?_
      refine ch_callV (as := []) d_l_law_1230 lk_l_129 mi_m_thrown me_m_thrown rfl rfl rfl (ch_hR hR (Nat.le_of_ble_eq_true rfl)) (Nat.le_of_ble_eq_true rfl) (ch_rc1 (k := k) (a := 1) (b := 0) hcs (Nat.le_of_ble_eq_true rfl)) (ch_mono (ch_Ki (fun r11 m12 q13 => ?_)) (s_m_thrown g (fun (r_ : Int32) (m_ : ch_M) => ((m7 (9, 0, 0) 19) = r_ ∧ m7 = m_))  m7 ⟨rfl, rfl⟩))
      obtain ⟨rfl, rfl⟩ := q13
      replace h := h
      refine ch_iload d_l_law_1233 rfl ?_
      refine ch_icmp_eq (tgt := 1240) d_l_law_1235 (by decide) (fun c => ?_) (fun c => ?_)
      · replace h := h.1 c
        refine ch_iload d_l_law_1240 rfl ?_
        refine ch_if_ne (tgt := 1257) d_l_law_1242 (by decide) (fun c => absurd c (by decide)) (fun _ => ?_)
        refine ch_aload_n (i := 3) d_l_law_1245 rfl rfl ?_
        refine ch_iconst (v := 0) d_l_law_1246 (by decide) ?_
        refine ch_lald (n := 1) d_l_law_1247 (by decide) rfl (vp_in_nI (n := 0) (by decide) (by decide)) ?_
        refine ch_iload d_l_law_1248 rfl ?_
        refine ch_i2l d_l_law_1250 ?_
        refine ch_lcmp d_l_law_1251 ?_
        refine ch_if_eq (tgt := 1257) d_l_law_1252 (by decide) (fun c => ?_) (fun c => ?_)
        · replace h := h.1 c
          refine ch_goto (tgt := 2096) d_l_law_1257 (by decide) ?_
          exact h
        · replace h := h.2 c
          refine ch_iconst (v := 0) d_l_law_1255 (by decide) ?_
          exact h
      · replace h := h.2 c
        refine ch_iconst (v := 0) d_l_law_1238 (by decide) ?_
        exact h
    · replace h := h.2 c_ m7 hm_
      refine ch_istore (i := 7) d_l_law_1227 (Nat.le_of_ble_eq_true rfl) (ls' := [some (.inr (11, 0, 0)), some (.inr (0, 0, 0)), some (.inr (9, 0, 0)), some (.inr (10, 0, 1)), some (.inr (10, 0, 2)), some (.inl (.int x5)), some (.inl (.int 0)), some (.inl (.int 0)), o8, o9]) rfl ?_
      refine ch_aload_n (i := 2) d_l_law_1229 rfl rfl ?_
      refine ch_callV (as := []) d_l_law_1230 lk_l_129 mi_m_thrown me_m_thrown rfl rfl rfl (ch_hR hR (Nat.le_of_ble_eq_true rfl)) (Nat.le_of_ble_eq_true rfl) (ch_rc1 (k := k) (a := 1) (b := 0) hcs (Nat.le_of_ble_eq_true rfl)) (ch_mono (ch_Ki (fun r14 m15 q16 => ?_)) (s_m_thrown g (fun (r_ : Int32) (m_ : ch_M) => ((m7 (9, 0, 0) 19) = r_ ∧ m7 = m_))  m7 ⟨rfl, rfl⟩))
      obtain ⟨rfl, rfl⟩ := q16
      replace h := h
      refine ch_iload d_l_law_1233 rfl ?_
      refine ch_icmp_eq (tgt := 1240) d_l_law_1235 (by decide) (fun c => ?_) (fun c => ?_)
      · replace h := h.1 c
        refine ch_iload d_l_law_1240 rfl ?_
        refine ch_if_ne (tgt := 1257) d_l_law_1242 (by decide) (fun c => absurd c (by decide)) (fun _ => ?_)
        refine ch_aload_n (i := 3) d_l_law_1245 rfl rfl ?_
        refine ch_iconst (v := 0) d_l_law_1246 (by decide) ?_
        refine ch_lald (n := 1) d_l_law_1247 (by decide) rfl (vp_in_nI (n := 0) (by decide) (by decide)) ?_
        refine ch_iload d_l_law_1248 rfl ?_
        refine ch_i2l d_l_law_1250 ?_
        refine ch_lcmp d_l_law_1251 ?_
        refine ch_if_eq (tgt := 1257) d_l_law_1252 (by decide) (fun c => ?_) (fun c => ?_)
        · replace h := h.1 c
          refine ch_goto (tgt := 2096) d_l_law_1257 (by decide) ?_
          exact h
        · replace h := h.2 c
          refine ch_iconst (v := 0) d_l_law_1255 (by decide) ?_
          exact h
      · replace h := h.2 c
        refine ch_iconst (v := 0) d_l_law_1238 (by decide) ?_
        exact h
  · replace h := h.2 c_
    refine ch_istore (i := 6) d_l_law_1215 (Nat.le_of_ble_eq_true rfl) (ls' := [some (.inr (11, 0, 0)), some (.inr (0, 0, 0)), some (.inr (9, 0, 0)), some (.inr (10, 0, 1)), some (.inr (10, 0, 2)), some (.inl (.int x5)), some (.inl (.int 1)), o7, o8, o9]) rfl ?_
    refine ch_aload_n (i := 2) d_l_law_1217 rfl rfl ?_
    refine ch_aload_n (i := 0) d_l_law_1218 rfl rfl ?_
    refine ch_iload d_l_law_1219 rfl ?_
    refine ch_iconst (v := 1) d_l_law_1221 (by decide) ?_
    refine ch_iadd d_l_law_1222 ?_
    refine ch_sld d_l_law_1223 b1 ?_
    obtain ⟨Y_17, h⟩ := h
    have b21 := h.1
    replace h := h.2
    have b22 := h.1
    replace h := h.2
    refine ch_callV (as := [.inl (.int ((ch_scr g).2.2 (Int32.toNatClampNeg (x5 + 1))))]) d_l_law_1224 lk_l_183 mi_m_longest me_m_longest rfl rfl rfl (ch_hR hR (Nat.le_of_ble_eq_true rfl)) (Nat.le_of_ble_eq_true rfl) (ch_rc1 (k := k) (a := 1) (b := 0) hcs (Nat.le_of_ble_eq_true rfl)) (ch_mono (ch_Ki (fun r18 m19 q20 => ?_)) (s_m_longest g (fun (r_ : Int32) (m_ : ch_M) => ((0 ≤ ((ch_scr g).2.2 (Int32.toNatClampNeg (x5 + 1))) ∧ ((ch_scr g).2.2 (Int32.toNatClampNeg (x5 + 1))) < Y_17 0 8) ∧ ((y_lr (Y_17 1) ((ch_scr g).2.2 (Int32.toNatClampNeg (x5 + 1))) 12).1) = r_ ∧ m_ = ch_wr m (9, 0, 0) 19 0) ∨ ((¬ (0 ≤ ((ch_scr g).2.2 (Int32.toNatClampNeg (x5 + 1))) ∧ ((ch_scr g).2.2 (Int32.toNatClampNeg (x5 + 1))) < Y_17 0 8)) ∧ 0 = r_ ∧ m_ = ch_wr m (9, 0, 0) 19 1)) (Y_17) (((ch_scr g).2.2 (Int32.toNatClampNeg (x5 + 1)))) m ⟨b21, b22, (fun c_ => (Or.inl ⟨c_, rfl, rfl⟩)), (fun c_ => (Or.inr ⟨c_, rfl, rfl⟩))⟩))
    rcases q20 with ⟨c_, rfl, hm_⟩ | ⟨c_, rfl, hm_⟩
    · replace h := h.1 c_ m19 hm_
      refine ch_istore (i := 7) d_l_law_1227 (Nat.le_of_ble_eq_true rfl) (ls' := [some (.inr (11, 0, 0)), some (.inr (0, 0, 0)), some (.inr (9, 0, 0)), some (.inr (10, 0, 1)), some (.inr (10, 0, 2)), some (.inl (.int x5)), some (.inl (.int 1)), some (.inl (.int ((y_lr (Y_17 1) ((ch_scr g).2.2 (Int32.toNatClampNeg (x5 + 1))) 12).1))), o8, o9]) rfl ?_
      refine ch_aload_n (i := 2) d_l_law_1229 rfl rfl ?_
      refine ch_callV (as := []) d_l_law_1230 lk_l_129 mi_m_thrown me_m_thrown rfl rfl rfl (ch_hR hR (Nat.le_of_ble_eq_true rfl)) (Nat.le_of_ble_eq_true rfl) (ch_rc1 (k := k) (a := 1) (b := 0) hcs (Nat.le_of_ble_eq_true rfl)) (ch_mono (ch_Ki (fun r23 m24 q25 => ?_)) (s_m_thrown g (fun (r_ : Int32) (m_ : ch_M) => ((m19 (9, 0, 0) 19) = r_ ∧ m19 = m_))  m19 ⟨rfl, rfl⟩))
      obtain ⟨rfl, rfl⟩ := q25
      replace h := h
      refine ch_iload d_l_law_1233 rfl ?_
      refine ch_icmp_eq (tgt := 1240) d_l_law_1235 (by decide) (fun c => ?_) (fun c => ?_)
      · replace h := h.1 c
        refine ch_iload d_l_law_1240 rfl ?_
        refine ch_if_ne (tgt := 1257) d_l_law_1242 (by decide) (fun _ => ?_) (fun c => absurd c (by decide))
        refine ch_goto (tgt := 2096) d_l_law_1257 (by decide) ?_
        exact h
      · replace h := h.2 c
        refine ch_iconst (v := 0) d_l_law_1238 (by decide) ?_
        exact h
    · replace h := h.2 c_ m19 hm_
      refine ch_istore (i := 7) d_l_law_1227 (Nat.le_of_ble_eq_true rfl) (ls' := [some (.inr (11, 0, 0)), some (.inr (0, 0, 0)), some (.inr (9, 0, 0)), some (.inr (10, 0, 1)), some (.inr (10, 0, 2)), some (.inl (.int x5)), some (.inl (.int 1)), some (.inl (.int 0)), o8, o9]) rfl ?_
      refine ch_aload_n (i := 2) d_l_law_1229 rfl rfl ?_
      refine ch_callV (as := []) d_l_law_1230 lk_l_129 mi_m_thrown me_m_thrown rfl rfl rfl (ch_hR hR (Nat.le_of_ble_eq_true rfl)) (Nat.le_of_ble_eq_true rfl) (ch_rc1 (k := k) (a := 1) (b := 0) hcs (Nat.le_of_ble_eq_true rfl)) (ch_mono (ch_Ki (fun r26 m27 q28 => ?_)) (s_m_thrown g (fun (r_ : Int32) (m_ : ch_M) => ((m19 (9, 0, 0) 19) = r_ ∧ m19 = m_))  m19 ⟨rfl, rfl⟩))
      obtain ⟨rfl, rfl⟩ := q28
      replace h := h
      refine ch_iload d_l_law_1233 rfl ?_
      refine ch_icmp_eq (tgt := 1240) d_l_law_1235 (by decide) (fun c => ?_) (fun c => ?_)
      · replace h := h.1 c
        refine ch_iload d_l_law_1240 rfl ?_
        refine ch_if_ne (tgt := 1257) d_l_law_1242 (by decide) (fun _ => ?_) (fun c => absurd c (by decide))
        refine ch_goto (tgt := 2096) d_l_law_1257 (by decide) ?_
        exact h
      · replace h := h.2 c
        refine ch_iconst (v := 0) d_l_law_1238 (by decide) ?_
        exact h
set_option maxHeartbeats 1600000 in
theorem g_l_law_1260 (g : ch_G) (R : Room) (E : ch_En) (k : Nat) (hR : ch_RR R 18) (hcs : k + 40 ≤ R.cells ∧ 6 * k + 240 ≤ R.slots) (x5 : Int32) (o6 : Option ch_V) (o7 : Option ch_V) (o8 : Option ch_V) (o9 : Option ch_V) (m : ch_M) (h : ((∃ Y_4 : ch_B, (m_rel Y_4 (m (9, 0, 1))) ∧ ((∀ m6 : ch_M, m6 = ch_wr m (9, 0, 0) 19 0 → ((((y_lr (m (1, 0, 1)) (-1) 12).1) = ((y_lr (Y_4 1) (-1) 12).1) → ch_J g m_l_law R E 2096 [some (.inr (11, 0, 0)), some (.inr (0, 0, 0)), some (.inr (9, 0, 0)), some (.inr (10, 0, 1)), some (.inr (10, 0, 2)), some (.inl (.int x5)), o6, o7, o8, o9] [] m6 k) ∧ (¬ ((y_lr (m (1, 0, 1)) (-1) 12).1) = ((y_lr (Y_4 1) (-1) 12).1) → ch_J g m_l_law R E 1272 [some (.inr (11, 0, 0)), some (.inr (0, 0, 0)), some (.inr (9, 0, 0)), some (.inr (10, 0, 1)), some (.inr (10, 0, 2)), some (.inl (.int x5)), o6, o7, o8, o9] [.inl (.int 0)] m6 k))))))) : ch_J g m_l_law R E 1260 [some (.inr (11, 0, 0)), some (.inr (0, 0, 0)), some (.inr (9, 0, 0)), some (.inr (10, 0, 1)), some (.inr (10, 0, 2)), some (.inl (.int x5)), o6, o7, o8, o9] [] m k := by
  refine ch_aload_n (i := 1) d_l_law_1260 rfl rfl ?_
  refine ch_callV (as := []) d_l_law_1261 lk_l_184 mi_x_gap me_x_gap rfl rfl rfl (ch_hR hR (Nat.le_of_ble_eq_true rfl)) (Nat.le_of_ble_eq_true rfl) (ch_rc0 (k := k) (b := 0) hcs (Nat.le_of_ble_eq_true rfl)) (ch_mono (ch_Ki (fun r1 m2 q3 => ?_)) (s_x_gap g (fun (r_ : Int32) (m_ : ch_M) => (((y_lr (m (1, 0, 1)) (-1) 12).1) = r_ ∧ m = m_))  m ⟨rfl, rfl⟩))
  obtain ⟨rfl, rfl⟩ := q3
  replace h := h
  refine ch_aload_n (i := 2) d_l_law_1264 rfl rfl ?_
  obtain ⟨Y_4, h⟩ := h
  have b8 := h.1
  replace h := h.2
  refine ch_callV (as := []) d_l_law_1265 lk_l_187 mi_m_gap me_m_gap rfl rfl rfl (ch_hR hR (Nat.le_of_ble_eq_true rfl)) (Nat.le_of_ble_eq_true rfl) (ch_rc0 (k := k) (b := 0) hcs (Nat.le_of_ble_eq_true rfl)) (ch_mono (ch_Ki (fun r5 m6 q7 => ?_)) (s_m_gap g (fun (r_ : Int32) (m_ : ch_M) => (((y_lr (Y_4 1) (-1) 12).1) = r_ ∧ m_ = ch_wr m (9, 0, 0) 19 0)) (Y_4) m ⟨b8, ⟨rfl, rfl⟩⟩))
  obtain ⟨rfl, hm_⟩ := q7
  replace h := h m6 hm_
  refine ch_icmp_eq (tgt := 2096) d_l_law_1268 (by decide) (fun c => ?_) (fun c => ?_)
  · replace h := h.1 c
    exact h
  · replace h := h.2 c
    refine ch_iconst (v := 0) d_l_law_1271 (by decide) ?_
    exact h
set_option maxHeartbeats 1600000 in
theorem g_l_law_1273 (g : ch_G) (R : Room) (E : ch_En) (k : Nat) (hR : ch_RR R 18) (hcs : k + 40 ≤ R.cells ∧ 6 * k + 240 ≤ R.slots) (x5 : Int32) (o6 : Option ch_V) (o7 : Option ch_V) (o8 : Option ch_V) (o9 : Option ch_V) (m : ch_M) (h : (vp_in (x5 + 1) (ch_scr g).2.1) ∧ (vp_in (m (1, 0, 0) 9) 6) ∧ (∀ i_, i_ < 5 → vp_in (m (1, 0, 8) i_) 5) ∧ (((1 ≤ ((ch_scr g).2.2 (Int32.toNatClampNeg (x5 + 1))) ∧ ((ch_scr g).2.2 (Int32.toNatClampNeg (x5 + 1))) ≤ 9) → (∀ m3 : ch_M, m3 = (ch_wr (ch_os m 1 2 (y_washB (y_cp (ch_ob m 1 0) (ch_ob m 1 2)) ((ch_scr g).2.2 (Int32.toNatClampNeg (x5 + 1))))) (10, 0, 1) 0 (y_washR (y_cp (ch_ob m 1 0) (ch_ob m 1 2)) ((ch_scr g).2.2 (Int32.toNatClampNeg (x5 + 1))))) → (∃ Y_7 : ch_B, (m_rel Y_7 (m3 (9, 0, 1))) ∧ (vp_in (Y_7 0 8) 6) ∧ (((1 ≤ ((ch_scr g).2.2 (Int32.toNatClampNeg (x5 + 1))) ∧ ((ch_scr g).2.2 (Int32.toNatClampNeg (x5 + 1))) ≤ 9) → (∀ m9 : ch_M, m9 = ch_wr m3 (9, 0, 0) 19 0 → ((((m9 (9, 0, 0) 19) = 0 → (((lg_cmp ((m9 (10, 0, 1) (0))).toInt64 ((m_ci (Y_7 2) ((ch_scr g).2.2 (Int32.toNatClampNeg (x5 + 1))) 12 + m_ci (Y_7 5) ((ch_scr g).2.2 (Int32.toNatClampNeg (x5 + 1))) (Int32.toNatClampNeg (Y_7 0 8)))).toInt64) = 0 → ch_J g m_l_law R E 2096 [some (.inr (11, 0, 0)), some (.inr (0, 0, 0)), some (.inr (9, 0, 0)), some (.inr (10, 0, 1)), some (.inr (10, 0, 2)), some (.inl (.int x5)), some (.inl (.int 0)), some (.inl (.int (m_ci (Y_7 2) ((ch_scr g).2.2 (Int32.toNatClampNeg (x5 + 1))) 12 + m_ci (Y_7 5) ((ch_scr g).2.2 (Int32.toNatClampNeg (x5 + 1))) (Int32.toNatClampNeg (Y_7 0 8))))), o8, o9] [] m9 (k + 1)) ∧ (¬ (lg_cmp ((m9 (10, 0, 1) (0))).toInt64 ((m_ci (Y_7 2) ((ch_scr g).2.2 (Int32.toNatClampNeg (x5 + 1))) 12 + m_ci (Y_7 5) ((ch_scr g).2.2 (Int32.toNatClampNeg (x5 + 1))) (Int32.toNatClampNeg (Y_7 0 8)))).toInt64) = 0 → ch_J g m_l_law R E 1325 [some (.inr (11, 0, 0)), some (.inr (0, 0, 0)), some (.inr (9, 0, 0)), some (.inr (10, 0, 1)), some (.inr (10, 0, 2)), some (.inl (.int x5)), some (.inl (.int 0)), some (.inl (.int (m_ci (Y_7 2) ((ch_scr g).2.2 (Int32.toNatClampNeg (x5 + 1))) 12 + m_ci (Y_7 5) ((ch_scr g).2.2 (Int32.toNatClampNeg (x5 + 1))) (Int32.toNatClampNeg (Y_7 0 8))))), o8, o9] [.inl (.int 0)] m9 (k + 1)))) ∧ (¬ (m9 (9, 0, 0) 19) = 0 → ch_J g m_l_law R E 1308 [some (.inr (11, 0, 0)), some (.inr (0, 0, 0)), some (.inr (9, 0, 0)), some (.inr (10, 0, 1)), some (.inr (10, 0, 2)), some (.inl (.int x5)), some (.inl (.int 0)), some (.inl (.int (m_ci (Y_7 2) ((ch_scr g).2.2 (Int32.toNatClampNeg (x5 + 1))) 12 + m_ci (Y_7 5) ((ch_scr g).2.2 (Int32.toNatClampNeg (x5 + 1))) (Int32.toNatClampNeg (Y_7 0 8))))), o8, o9] [.inl (.int 0)] m9 (k + 1)))))) ∧ ((¬ (1 ≤ ((ch_scr g).2.2 (Int32.toNatClampNeg (x5 + 1))) ∧ ((ch_scr g).2.2 (Int32.toNatClampNeg (x5 + 1))) ≤ 9)) → (∀ m9 : ch_M, m9 = ch_wr m3 (9, 0, 0) 19 1 → ((((m9 (9, 0, 0) 19) = 0 → (((lg_cmp ((m9 (10, 0, 1) (0))).toInt64 (0).toInt64) = 0 → ch_J g m_l_law R E 2096 [some (.inr (11, 0, 0)), some (.inr (0, 0, 0)), some (.inr (9, 0, 0)), some (.inr (10, 0, 1)), some (.inr (10, 0, 2)), some (.inl (.int x5)), some (.inl (.int 0)), some (.inl (.int 0)), o8, o9] [] m9 (k + 1)) ∧ (¬ (lg_cmp ((m9 (10, 0, 1) (0))).toInt64 (0).toInt64) = 0 → ch_J g m_l_law R E 1325 [some (.inr (11, 0, 0)), some (.inr (0, 0, 0)), some (.inr (9, 0, 0)), some (.inr (10, 0, 1)), some (.inr (10, 0, 2)), some (.inl (.int x5)), some (.inl (.int 0)), some (.inl (.int 0)), o8, o9] [.inl (.int 0)] m9 (k + 1)))) ∧ (¬ (m9 (9, 0, 0) 19) = 0 → ch_J g m_l_law R E 1308 [some (.inr (11, 0, 0)), some (.inr (0, 0, 0)), some (.inr (9, 0, 0)), some (.inr (10, 0, 1)), some (.inr (10, 0, 2)), some (.inl (.int x5)), some (.inl (.int 0)), some (.inl (.int 0)), o8, o9] [.inl (.int 0)] m9 (k + 1)))))))))) ∧ ((¬ (1 ≤ ((ch_scr g).2.2 (Int32.toNatClampNeg (x5 + 1))) ∧ ((ch_scr g).2.2 (Int32.toNatClampNeg (x5 + 1))) ≤ 9)) → (∃ Y_19 : ch_B, (m_rel Y_19 (m (9, 0, 1))) ∧ (vp_in (Y_19 0 8) 6) ∧ (((1 ≤ ((ch_scr g).2.2 (Int32.toNatClampNeg (x5 + 1))) ∧ ((ch_scr g).2.2 (Int32.toNatClampNeg (x5 + 1))) ≤ 9) → (∀ m21 : ch_M, m21 = ch_wr m (9, 0, 0) 19 0 → ((((m21 (9, 0, 0) 19) = 1 → ch_J g m_l_law R E 2096 [some (.inr (11, 0, 0)), some (.inr (0, 0, 0)), some (.inr (9, 0, 0)), some (.inr (10, 0, 1)), some (.inr (10, 0, 2)), some (.inl (.int x5)), some (.inl (.int 1)), some (.inl (.int (m_ci (Y_19 2) ((ch_scr g).2.2 (Int32.toNatClampNeg (x5 + 1))) 12 + m_ci (Y_19 5) ((ch_scr g).2.2 (Int32.toNatClampNeg (x5 + 1))) (Int32.toNatClampNeg (Y_19 0 8))))), o8, o9] [] m21 (k + 1)) ∧ (¬ (m21 (9, 0, 0) 19) = 1 → ch_J g m_l_law R E 1308 [some (.inr (11, 0, 0)), some (.inr (0, 0, 0)), some (.inr (9, 0, 0)), some (.inr (10, 0, 1)), some (.inr (10, 0, 2)), some (.inl (.int x5)), some (.inl (.int 1)), some (.inl (.int (m_ci (Y_19 2) ((ch_scr g).2.2 (Int32.toNatClampNeg (x5 + 1))) 12 + m_ci (Y_19 5) ((ch_scr g).2.2 (Int32.toNatClampNeg (x5 + 1))) (Int32.toNatClampNeg (Y_19 0 8))))), o8, o9] [.inl (.int 0)] m21 (k + 1)))))) ∧ ((¬ (1 ≤ ((ch_scr g).2.2 (Int32.toNatClampNeg (x5 + 1))) ∧ ((ch_scr g).2.2 (Int32.toNatClampNeg (x5 + 1))) ≤ 9)) → (∀ m21 : ch_M, m21 = ch_wr m (9, 0, 0) 19 1 → ((((m21 (9, 0, 0) 19) = 1 → ch_J g m_l_law R E 2096 [some (.inr (11, 0, 0)), some (.inr (0, 0, 0)), some (.inr (9, 0, 0)), some (.inr (10, 0, 1)), some (.inr (10, 0, 2)), some (.inl (.int x5)), some (.inl (.int 1)), some (.inl (.int 0)), o8, o9] [] m21 (k + 1)) ∧ (¬ (m21 (9, 0, 0) 19) = 1 → ch_J g m_l_law R E 1308 [some (.inr (11, 0, 0)), some (.inr (0, 0, 0)), some (.inr (9, 0, 0)), some (.inr (10, 0, 1)), some (.inr (10, 0, 2)), some (.inl (.int x5)), some (.inl (.int 1)), some (.inl (.int 0)), o8, o9] [.inl (.int 0)] m21 (k + 1))))))))))) : ch_J g m_l_law R E 1273 [some (.inr (11, 0, 0)), some (.inr (0, 0, 0)), some (.inr (9, 0, 0)), some (.inr (10, 0, 1)), some (.inr (10, 0, 2)), some (.inl (.int x5)), o6, o7, o8, o9] [] m k := by
  refine ch_aload_n (i := 1) d_l_law_1273 rfl rfl ?_
  refine ch_aload_n (i := 0) d_l_law_1274 rfl rfl ?_
  refine ch_iload d_l_law_1275 rfl ?_
  refine ch_iconst (v := 1) d_l_law_1277 (by decide) ?_
  refine ch_iadd d_l_law_1278 ?_
  have b1 := h.1
  replace h := h.2
  refine ch_sld d_l_law_1279 b1 ?_
  refine ch_aload_n (i := 3) d_l_law_1280 rfl rfl ?_
  have b5 := h.1
  replace h := h.2
  have b6 := h.1
  replace h := h.2
  refine ch_callSX (as := [.inr (0, 0, 0), .inl (.int ((ch_scr g).2.2 (Int32.toNatClampNeg (x5 + 1)))), .inr (10, 0, 1)]) d_l_law_1281 lk_l_188 ms_l_wouldEnd rfl rfl (ch_hR hR (Nat.le_of_ble_eq_true rfl)) (Nat.le_of_ble_eq_true rfl) (ch_rc0 (k := k) (b := 1) hcs (Nat.le_of_ble_eq_true rfl)) (ch_mono (ch_Ki (fun r2 m3 q4 => ?_)) (s_l_wouldEnd g (fun (r_ : Int32) (m_ : ch_M) => ((1 ≤ ((ch_scr g).2.2 (Int32.toNatClampNeg (x5 + 1))) ∧ ((ch_scr g).2.2 (Int32.toNatClampNeg (x5 + 1))) ≤ 9) ∧ 0 = r_ ∧ m_ = (ch_wr (ch_os m 1 2 (y_washB (y_cp (ch_ob m 1 0) (ch_ob m 1 2)) ((ch_scr g).2.2 (Int32.toNatClampNeg (x5 + 1))))) (10, 0, 1) 0 (y_washR (y_cp (ch_ob m 1 0) (ch_ob m 1 2)) ((ch_scr g).2.2 (Int32.toNatClampNeg (x5 + 1)))))) ∨ ((¬ (1 ≤ ((ch_scr g).2.2 (Int32.toNatClampNeg (x5 + 1))) ∧ ((ch_scr g).2.2 (Int32.toNatClampNeg (x5 + 1))) ≤ 9)) ∧ 1 = r_ ∧ m = m_)) (((ch_scr g).2.2 (Int32.toNatClampNeg (x5 + 1)))) m ⟨b5, b6, (fun c_ => (Or.inl ⟨c_, rfl, rfl⟩)), (fun c_ => (Or.inr ⟨c_, rfl, rfl⟩))⟩))
  rcases q4 with ⟨c_, rfl, hm_⟩ | ⟨c_, rfl, rfl⟩
  · replace h := h.1 c_ m3 hm_
    refine ch_istore (i := 6) d_l_law_1284 (Nat.le_of_ble_eq_true rfl) (ls' := [some (.inr (11, 0, 0)), some (.inr (0, 0, 0)), some (.inr (9, 0, 0)), some (.inr (10, 0, 1)), some (.inr (10, 0, 2)), some (.inl (.int x5)), some (.inl (.int 0)), o7, o8, o9]) rfl ?_
    refine ch_aload_n (i := 2) d_l_law_1286 rfl rfl ?_
    refine ch_aload_n (i := 0) d_l_law_1287 rfl rfl ?_
    refine ch_iload d_l_law_1288 rfl ?_
    refine ch_iconst (v := 1) d_l_law_1290 (by decide) ?_
    refine ch_iadd d_l_law_1291 ?_
    refine ch_sld d_l_law_1292 b1 ?_
    obtain ⟨Y_7, h⟩ := h
    have b11 := h.1
    replace h := h.2
    have b12 := h.1
    replace h := h.2
    refine ch_callV (as := [.inl (.int ((ch_scr g).2.2 (Int32.toNatClampNeg (x5 + 1))))]) d_l_law_1293 lk_l_190 mi_m_wouldEnd me_m_wouldEnd rfl rfl rfl (ch_hR hR (Nat.le_of_ble_eq_true rfl)) (Nat.le_of_ble_eq_true rfl) (ch_rc1 (k := k) (a := 1) (b := 0) hcs (Nat.le_of_ble_eq_true rfl)) (ch_mono (ch_Ki (fun r8 m9 q10 => ?_)) (s_m_wouldEnd g (fun (r_ : Int32) (m_ : ch_M) => ((1 ≤ ((ch_scr g).2.2 (Int32.toNatClampNeg (x5 + 1))) ∧ ((ch_scr g).2.2 (Int32.toNatClampNeg (x5 + 1))) ≤ 9) ∧ (m_ci (Y_7 2) ((ch_scr g).2.2 (Int32.toNatClampNeg (x5 + 1))) 12 + m_ci (Y_7 5) ((ch_scr g).2.2 (Int32.toNatClampNeg (x5 + 1))) (Int32.toNatClampNeg (Y_7 0 8))) = r_ ∧ m_ = ch_wr m3 (9, 0, 0) 19 0) ∨ ((¬ (1 ≤ ((ch_scr g).2.2 (Int32.toNatClampNeg (x5 + 1))) ∧ ((ch_scr g).2.2 (Int32.toNatClampNeg (x5 + 1))) ≤ 9)) ∧ 0 = r_ ∧ m_ = ch_wr m3 (9, 0, 0) 19 1)) (Y_7) (((ch_scr g).2.2 (Int32.toNatClampNeg (x5 + 1)))) m3 ⟨b11, b12, (fun c_ => (Or.inl ⟨c_, rfl, rfl⟩)), (fun c_ => (Or.inr ⟨c_, rfl, rfl⟩))⟩))
    rcases q10 with ⟨c_, rfl, hm_⟩ | ⟨c_, rfl, hm_⟩
    · replace h := h.1 c_ m9 hm_
      refine ch_istore (i := 7) d_l_law_1296 (Nat.le_of_ble_eq_true rfl) (ls' := [some (.inr (11, 0, 0)), some (.inr (0, 0, 0)), some (.inr (9, 0, 0)), some (.inr (10, 0, 1)), some (.inr (10, 0, 2)), some (.inl (.int x5)), some (.inl (.int 0)), some (.inl (.int (m_ci (Y_7 2) ((ch_scr g).2.2 (Int32.toNatClampNeg (x5 + 1))) 12 + m_ci (Y_7 5) ((ch_scr g).2.2 (Int32.toNatClampNeg (x5 + 1))) (Int32.toNatClampNeg (Y_7 0 8))))), o8, o9]) rfl ?_
      refine ch_aload_n (i := 2) d_l_law_1298 rfl rfl ?_
      refine ch_callV (as := []) d_l_law_1299 lk_l_129 mi_m_thrown me_m_thrown rfl rfl rfl (ch_hR hR (Nat.le_of_ble_eq_true rfl)) (Nat.le_of_ble_eq_true rfl) (ch_rc1 (k := k) (a := 1) (b := 0) hcs (Nat.le_of_ble_eq_true rfl)) (ch_mono (ch_Ki (fun r13 m14 q15 => ?_)) (s_m_thrown g (fun (r_ : Int32) (m_ : ch_M) => ((m9 (9, 0, 0) 19) = r_ ∧ m9 = m_))  m9 ⟨rfl, rfl⟩))
      obtain ⟨rfl, rfl⟩ := q15
      replace h := h
      refine ch_iload d_l_law_1302 rfl ?_
      refine ch_icmp_eq (tgt := 1309) d_l_law_1304 (by decide) (fun c => ?_) (fun c => ?_)
      · replace h := h.1 c
        refine ch_iload d_l_law_1309 rfl ?_
        refine ch_if_ne (tgt := 1326) d_l_law_1311 (by decide) (fun c => absurd c (by decide)) (fun _ => ?_)
        refine ch_aload_n (i := 3) d_l_law_1314 rfl rfl ?_
        refine ch_iconst (v := 0) d_l_law_1315 (by decide) ?_
        refine ch_lald (n := 1) d_l_law_1316 (by decide) rfl (vp_in_nI (n := 0) (by decide) (by decide)) ?_
        refine ch_iload d_l_law_1317 rfl ?_
        refine ch_i2l d_l_law_1319 ?_
        refine ch_lcmp d_l_law_1320 ?_
        refine ch_if_eq (tgt := 1326) d_l_law_1321 (by decide) (fun c => ?_) (fun c => ?_)
        · replace h := h.1 c
          refine ch_goto (tgt := 2096) d_l_law_1326 (by decide) ?_
          exact h
        · replace h := h.2 c
          refine ch_iconst (v := 0) d_l_law_1324 (by decide) ?_
          exact h
      · replace h := h.2 c
        refine ch_iconst (v := 0) d_l_law_1307 (by decide) ?_
        exact h
    · replace h := h.2 c_ m9 hm_
      refine ch_istore (i := 7) d_l_law_1296 (Nat.le_of_ble_eq_true rfl) (ls' := [some (.inr (11, 0, 0)), some (.inr (0, 0, 0)), some (.inr (9, 0, 0)), some (.inr (10, 0, 1)), some (.inr (10, 0, 2)), some (.inl (.int x5)), some (.inl (.int 0)), some (.inl (.int 0)), o8, o9]) rfl ?_
      refine ch_aload_n (i := 2) d_l_law_1298 rfl rfl ?_
      refine ch_callV (as := []) d_l_law_1299 lk_l_129 mi_m_thrown me_m_thrown rfl rfl rfl (ch_hR hR (Nat.le_of_ble_eq_true rfl)) (Nat.le_of_ble_eq_true rfl) (ch_rc1 (k := k) (a := 1) (b := 0) hcs (Nat.le_of_ble_eq_true rfl)) (ch_mono (ch_Ki (fun r16 m17 q18 => ?_)) (s_m_thrown g (fun (r_ : Int32) (m_ : ch_M) => ((m9 (9, 0, 0) 19) = r_ ∧ m9 = m_))  m9 ⟨rfl, rfl⟩))
      obtain ⟨rfl, rfl⟩ := q18
      replace h := h
      refine ch_iload d_l_law_1302 rfl ?_
      refine ch_icmp_eq (tgt := 1309) d_l_law_1304 (by decide) (fun c => ?_) (fun c => ?_)
      · replace h := h.1 c
        refine ch_iload d_l_law_1309 rfl ?_
        refine ch_if_ne (tgt := 1326) d_l_law_1311 (by decide) (fun c => absurd c (by decide)) (fun _ => ?_)
        refine ch_aload_n (i := 3) d_l_law_1314 rfl rfl ?_
        refine ch_iconst (v := 0) d_l_law_1315 (by decide) ?_
        refine ch_lald (n := 1) d_l_law_1316 (by decide) rfl (vp_in_nI (n := 0) (by decide) (by decide)) ?_
        refine ch_iload d_l_law_1317 rfl ?_
        refine ch_i2l d_l_law_1319 ?_
        refine ch_lcmp d_l_law_1320 ?_
        refine ch_if_eq (tgt := 1326) d_l_law_1321 (by decide) (fun c => ?_) (fun c => ?_)
        · replace h := h.1 c
          refine ch_goto (tgt := 2096) d_l_law_1326 (by decide) ?_
          exact h
        · replace h := h.2 c
          refine ch_iconst (v := 0) d_l_law_1324 (by decide) ?_
          exact h
      · replace h := h.2 c
        refine ch_iconst (v := 0) d_l_law_1307 (by decide) ?_
        exact h
  · replace h := h.2 c_
    refine ch_istore (i := 6) d_l_law_1284 (Nat.le_of_ble_eq_true rfl) (ls' := [some (.inr (11, 0, 0)), some (.inr (0, 0, 0)), some (.inr (9, 0, 0)), some (.inr (10, 0, 1)), some (.inr (10, 0, 2)), some (.inl (.int x5)), some (.inl (.int 1)), o7, o8, o9]) rfl ?_
    refine ch_aload_n (i := 2) d_l_law_1286 rfl rfl ?_
    refine ch_aload_n (i := 0) d_l_law_1287 rfl rfl ?_
    refine ch_iload d_l_law_1288 rfl ?_
    refine ch_iconst (v := 1) d_l_law_1290 (by decide) ?_
    refine ch_iadd d_l_law_1291 ?_
    refine ch_sld d_l_law_1292 b1 ?_
    obtain ⟨Y_19, h⟩ := h
    have b23 := h.1
    replace h := h.2
    have b24 := h.1
    replace h := h.2
    refine ch_callV (as := [.inl (.int ((ch_scr g).2.2 (Int32.toNatClampNeg (x5 + 1))))]) d_l_law_1293 lk_l_190 mi_m_wouldEnd me_m_wouldEnd rfl rfl rfl (ch_hR hR (Nat.le_of_ble_eq_true rfl)) (Nat.le_of_ble_eq_true rfl) (ch_rc1 (k := k) (a := 1) (b := 0) hcs (Nat.le_of_ble_eq_true rfl)) (ch_mono (ch_Ki (fun r20 m21 q22 => ?_)) (s_m_wouldEnd g (fun (r_ : Int32) (m_ : ch_M) => ((1 ≤ ((ch_scr g).2.2 (Int32.toNatClampNeg (x5 + 1))) ∧ ((ch_scr g).2.2 (Int32.toNatClampNeg (x5 + 1))) ≤ 9) ∧ (m_ci (Y_19 2) ((ch_scr g).2.2 (Int32.toNatClampNeg (x5 + 1))) 12 + m_ci (Y_19 5) ((ch_scr g).2.2 (Int32.toNatClampNeg (x5 + 1))) (Int32.toNatClampNeg (Y_19 0 8))) = r_ ∧ m_ = ch_wr m (9, 0, 0) 19 0) ∨ ((¬ (1 ≤ ((ch_scr g).2.2 (Int32.toNatClampNeg (x5 + 1))) ∧ ((ch_scr g).2.2 (Int32.toNatClampNeg (x5 + 1))) ≤ 9)) ∧ 0 = r_ ∧ m_ = ch_wr m (9, 0, 0) 19 1)) (Y_19) (((ch_scr g).2.2 (Int32.toNatClampNeg (x5 + 1)))) m ⟨b23, b24, (fun c_ => (Or.inl ⟨c_, rfl, rfl⟩)), (fun c_ => (Or.inr ⟨c_, rfl, rfl⟩))⟩))
    rcases q22 with ⟨c_, rfl, hm_⟩ | ⟨c_, rfl, hm_⟩
    · replace h := h.1 c_ m21 hm_
      refine ch_istore (i := 7) d_l_law_1296 (Nat.le_of_ble_eq_true rfl) (ls' := [some (.inr (11, 0, 0)), some (.inr (0, 0, 0)), some (.inr (9, 0, 0)), some (.inr (10, 0, 1)), some (.inr (10, 0, 2)), some (.inl (.int x5)), some (.inl (.int 1)), some (.inl (.int (m_ci (Y_19 2) ((ch_scr g).2.2 (Int32.toNatClampNeg (x5 + 1))) 12 + m_ci (Y_19 5) ((ch_scr g).2.2 (Int32.toNatClampNeg (x5 + 1))) (Int32.toNatClampNeg (Y_19 0 8))))), o8, o9]) rfl ?_
      refine ch_aload_n (i := 2) d_l_law_1298 rfl rfl ?_
      refine ch_callV (as := []) d_l_law_1299 lk_l_129 mi_m_thrown me_m_thrown rfl rfl rfl (ch_hR hR (Nat.le_of_ble_eq_true rfl)) (Nat.le_of_ble_eq_true rfl) (ch_rc1 (k := k) (a := 1) (b := 0) hcs (Nat.le_of_ble_eq_true rfl)) (ch_mono (ch_Ki (fun r25 m26 q27 => ?_)) (s_m_thrown g (fun (r_ : Int32) (m_ : ch_M) => ((m21 (9, 0, 0) 19) = r_ ∧ m21 = m_))  m21 ⟨rfl, rfl⟩))
      obtain ⟨rfl, rfl⟩ := q27
      replace h := h
      refine ch_iload d_l_law_1302 rfl ?_
      refine ch_icmp_eq (tgt := 1309) d_l_law_1304 (by decide) (fun c => ?_) (fun c => ?_)
      · replace h := h.1 c
        refine ch_iload d_l_law_1309 rfl ?_
        refine ch_if_ne (tgt := 1326) d_l_law_1311 (by decide) (fun _ => ?_) (fun c => absurd c (by decide))
        refine ch_goto (tgt := 2096) d_l_law_1326 (by decide) ?_
        exact h
      · replace h := h.2 c
        refine ch_iconst (v := 0) d_l_law_1307 (by decide) ?_
        exact h
    · replace h := h.2 c_ m21 hm_
      refine ch_istore (i := 7) d_l_law_1296 (Nat.le_of_ble_eq_true rfl) (ls' := [some (.inr (11, 0, 0)), some (.inr (0, 0, 0)), some (.inr (9, 0, 0)), some (.inr (10, 0, 1)), some (.inr (10, 0, 2)), some (.inl (.int x5)), some (.inl (.int 1)), some (.inl (.int 0)), o8, o9]) rfl ?_
      refine ch_aload_n (i := 2) d_l_law_1298 rfl rfl ?_
      refine ch_callV (as := []) d_l_law_1299 lk_l_129 mi_m_thrown me_m_thrown rfl rfl rfl (ch_hR hR (Nat.le_of_ble_eq_true rfl)) (Nat.le_of_ble_eq_true rfl) (ch_rc1 (k := k) (a := 1) (b := 0) hcs (Nat.le_of_ble_eq_true rfl)) (ch_mono (ch_Ki (fun r28 m29 q30 => ?_)) (s_m_thrown g (fun (r_ : Int32) (m_ : ch_M) => ((m21 (9, 0, 0) 19) = r_ ∧ m21 = m_))  m21 ⟨rfl, rfl⟩))
      obtain ⟨rfl, rfl⟩ := q30
      replace h := h
      refine ch_iload d_l_law_1302 rfl ?_
      refine ch_icmp_eq (tgt := 1309) d_l_law_1304 (by decide) (fun c => ?_) (fun c => ?_)
      · replace h := h.1 c
        refine ch_iload d_l_law_1309 rfl ?_
        refine ch_if_ne (tgt := 1326) d_l_law_1311 (by decide) (fun _ => ?_) (fun c => absurd c (by decide))
        refine ch_goto (tgt := 2096) d_l_law_1326 (by decide) ?_
        exact h
      · replace h := h.2 c
        refine ch_iconst (v := 0) d_l_law_1307 (by decide) ?_
        exact h
set_option maxHeartbeats 1600000 in
theorem g_l_law_1329 (g : ch_G) (R : Room) (E : ch_En) (k : Nat) (hR : ch_RR R 18) (hcs : k + 40 ≤ R.cells ∧ 6 * k + 240 ≤ R.slots) (x5 : Int32) (o6 : Option ch_V) (o7 : Option ch_V) (o8 : Option ch_V) (o9 : Option ch_V) (m : ch_M) (h : (vp_in (x5 + 1) (ch_scr g).2.1) ∧ (vp_in (m (1, 0, 0) 8) 6) ∧ ((((0 ≤ ((ch_scr g).2.2 (Int32.toNatClampNeg (x5 + 1))) ∧ ((ch_scr g).2.2 (Int32.toNatClampNeg (x5 + 1))) < m (1, 0, 0) 8) ∧ ¬ m (1, 0, 5) (Int32.toNatClampNeg ((ch_scr g).2.2 (Int32.toNatClampNeg (x5 + 1)))) = 0) → (∀ m3 : ch_M, m3 = (ch_wr m (10, 0, 1) 0 (m (1, 0, 5) (Int32.toNatClampNeg ((ch_scr g).2.2 (Int32.toNatClampNeg (x5 + 1)))))) → (∃ Y_6 : ch_B, (m_rel Y_6 (m3 (9, 0, 1))) ∧ (vp_in (Y_6 0 8) 6) ∧ ((((0 ≤ ((ch_scr g).2.2 (Int32.toNatClampNeg (x5 + 1))) ∧ ((ch_scr g).2.2 (Int32.toNatClampNeg (x5 + 1))) < Y_6 0 8) ∧ ¬ Y_6 5 (Int32.toNatClampNeg ((ch_scr g).2.2 (Int32.toNatClampNeg (x5 + 1)))) = 0) → (∀ m8 : ch_M, m8 = ch_wr m3 (9, 0, 0) 19 0 → ((((m8 (9, 0, 0) 19) = 0 → (((lg_cmp ((m8 (10, 0, 1) (0))).toInt64 ((Y_6 5 (Int32.toNatClampNeg ((ch_scr g).2.2 (Int32.toNatClampNeg (x5 + 1)))))).toInt64) = 0 → ch_J g m_l_law R E 2096 [some (.inr (11, 0, 0)), some (.inr (0, 0, 0)), some (.inr (9, 0, 0)), some (.inr (10, 0, 1)), some (.inr (10, 0, 2)), some (.inl (.int x5)), some (.inl (.int 0)), some (.inl (.int (Y_6 5 (Int32.toNatClampNeg ((ch_scr g).2.2 (Int32.toNatClampNeg (x5 + 1))))))), o8, o9] [] m8 (k + 2)) ∧ (¬ (lg_cmp ((m8 (10, 0, 1) (0))).toInt64 ((Y_6 5 (Int32.toNatClampNeg ((ch_scr g).2.2 (Int32.toNatClampNeg (x5 + 1)))))).toInt64) = 0 → ch_J g m_l_law R E 1381 [some (.inr (11, 0, 0)), some (.inr (0, 0, 0)), some (.inr (9, 0, 0)), some (.inr (10, 0, 1)), some (.inr (10, 0, 2)), some (.inl (.int x5)), some (.inl (.int 0)), some (.inl (.int (Y_6 5 (Int32.toNatClampNeg ((ch_scr g).2.2 (Int32.toNatClampNeg (x5 + 1))))))), o8, o9] [.inl (.int 0)] m8 (k + 2)))) ∧ (¬ (m8 (9, 0, 0) 19) = 0 → ch_J g m_l_law R E 1364 [some (.inr (11, 0, 0)), some (.inr (0, 0, 0)), some (.inr (9, 0, 0)), some (.inr (10, 0, 1)), some (.inr (10, 0, 2)), some (.inl (.int x5)), some (.inl (.int 0)), some (.inl (.int (Y_6 5 (Int32.toNatClampNeg ((ch_scr g).2.2 (Int32.toNatClampNeg (x5 + 1))))))), o8, o9] [.inl (.int 0)] m8 (k + 2)))))) ∧ ((¬ (0 ≤ ((ch_scr g).2.2 (Int32.toNatClampNeg (x5 + 1))) ∧ ((ch_scr g).2.2 (Int32.toNatClampNeg (x5 + 1))) < Y_6 0 8)) → (∀ m8 : ch_M, m8 = ch_wr m3 (9, 0, 0) 19 1 → ((((m8 (9, 0, 0) 19) = 0 → (((lg_cmp ((m8 (10, 0, 1) (0))).toInt64 (0).toInt64) = 0 → ch_J g m_l_law R E 2096 [some (.inr (11, 0, 0)), some (.inr (0, 0, 0)), some (.inr (9, 0, 0)), some (.inr (10, 0, 1)), some (.inr (10, 0, 2)), some (.inl (.int x5)), some (.inl (.int 0)), some (.inl (.int 0)), o8, o9] [] m8 (k + 2)) ∧ (¬ (lg_cmp ((m8 (10, 0, 1) (0))).toInt64 (0).toInt64) = 0 → ch_J g m_l_law R E 1381 [some (.inr (11, 0, 0)), some (.inr (0, 0, 0)), some (.inr (9, 0, 0)), some (.inr (10, 0, 1)), some (.inr (10, 0, 2)), some (.inl (.int x5)), some (.inl (.int 0)), some (.inl (.int 0)), o8, o9] [.inl (.int 0)] m8 (k + 2)))) ∧ (¬ (m8 (9, 0, 0) 19) = 0 → ch_J g m_l_law R E 1364 [some (.inr (11, 0, 0)), some (.inr (0, 0, 0)), some (.inr (9, 0, 0)), some (.inr (10, 0, 1)), some (.inr (10, 0, 2)), some (.inl (.int x5)), some (.inl (.int 0)), some (.inl (.int 0)), o8, o9] [.inl (.int 0)] m8 (k + 2)))))) ∧ (((0 ≤ ((ch_scr g).2.2 (Int32.toNatClampNeg (x5 + 1))) ∧ ((ch_scr g).2.2 (Int32.toNatClampNeg (x5 + 1))) < Y_6 0 8) ∧ Y_6 5 (Int32.toNatClampNeg ((ch_scr g).2.2 (Int32.toNatClampNeg (x5 + 1)))) = 0) → (∀ m8 : ch_M, m8 = ch_wr m3 (9, 0, 0) 19 2 → ((((m8 (9, 0, 0) 19) = 0 → (((lg_cmp ((m8 (10, 0, 1) (0))).toInt64 (0).toInt64) = 0 → ch_J g m_l_law R E 2096 [some (.inr (11, 0, 0)), some (.inr (0, 0, 0)), some (.inr (9, 0, 0)), some (.inr (10, 0, 1)), some (.inr (10, 0, 2)), some (.inl (.int x5)), some (.inl (.int 0)), some (.inl (.int 0)), o8, o9] [] m8 (k + 2)) ∧ (¬ (lg_cmp ((m8 (10, 0, 1) (0))).toInt64 (0).toInt64) = 0 → ch_J g m_l_law R E 1381 [some (.inr (11, 0, 0)), some (.inr (0, 0, 0)), some (.inr (9, 0, 0)), some (.inr (10, 0, 1)), some (.inr (10, 0, 2)), some (.inl (.int x5)), some (.inl (.int 0)), some (.inl (.int 0)), o8, o9] [.inl (.int 0)] m8 (k + 2)))) ∧ (¬ (m8 (9, 0, 0) 19) = 0 → ch_J g m_l_law R E 1364 [some (.inr (11, 0, 0)), some (.inr (0, 0, 0)), some (.inr (9, 0, 0)), some (.inr (10, 0, 1)), some (.inr (10, 0, 2)), some (.inl (.int x5)), some (.inl (.int 0)), some (.inl (.int 0)), o8, o9] [.inl (.int 0)] m8 (k + 2)))))))))) ∧ ((¬ (0 ≤ ((ch_scr g).2.2 (Int32.toNatClampNeg (x5 + 1))) ∧ ((ch_scr g).2.2 (Int32.toNatClampNeg (x5 + 1))) < m (1, 0, 0) 8)) → (∃ Y_21 : ch_B, (m_rel Y_21 (m (9, 0, 1))) ∧ (vp_in (Y_21 0 8) 6) ∧ ((((0 ≤ ((ch_scr g).2.2 (Int32.toNatClampNeg (x5 + 1))) ∧ ((ch_scr g).2.2 (Int32.toNatClampNeg (x5 + 1))) < Y_21 0 8) ∧ ¬ Y_21 5 (Int32.toNatClampNeg ((ch_scr g).2.2 (Int32.toNatClampNeg (x5 + 1)))) = 0) → (∀ m23 : ch_M, m23 = ch_wr m (9, 0, 0) 19 0 → ((((m23 (9, 0, 0) 19) = 1 → ch_J g m_l_law R E 2096 [some (.inr (11, 0, 0)), some (.inr (0, 0, 0)), some (.inr (9, 0, 0)), some (.inr (10, 0, 1)), some (.inr (10, 0, 2)), some (.inl (.int x5)), some (.inl (.int 1)), some (.inl (.int (Y_21 5 (Int32.toNatClampNeg ((ch_scr g).2.2 (Int32.toNatClampNeg (x5 + 1))))))), o8, o9] [] m23 (k + 2)) ∧ (¬ (m23 (9, 0, 0) 19) = 1 → ch_J g m_l_law R E 1364 [some (.inr (11, 0, 0)), some (.inr (0, 0, 0)), some (.inr (9, 0, 0)), some (.inr (10, 0, 1)), some (.inr (10, 0, 2)), some (.inl (.int x5)), some (.inl (.int 1)), some (.inl (.int (Y_21 5 (Int32.toNatClampNeg ((ch_scr g).2.2 (Int32.toNatClampNeg (x5 + 1))))))), o8, o9] [.inl (.int 0)] m23 (k + 2)))))) ∧ ((¬ (0 ≤ ((ch_scr g).2.2 (Int32.toNatClampNeg (x5 + 1))) ∧ ((ch_scr g).2.2 (Int32.toNatClampNeg (x5 + 1))) < Y_21 0 8)) → (∀ m23 : ch_M, m23 = ch_wr m (9, 0, 0) 19 1 → ((((m23 (9, 0, 0) 19) = 1 → ch_J g m_l_law R E 2096 [some (.inr (11, 0, 0)), some (.inr (0, 0, 0)), some (.inr (9, 0, 0)), some (.inr (10, 0, 1)), some (.inr (10, 0, 2)), some (.inl (.int x5)), some (.inl (.int 1)), some (.inl (.int 0)), o8, o9] [] m23 (k + 2)) ∧ (¬ (m23 (9, 0, 0) 19) = 1 → ch_J g m_l_law R E 1364 [some (.inr (11, 0, 0)), some (.inr (0, 0, 0)), some (.inr (9, 0, 0)), some (.inr (10, 0, 1)), some (.inr (10, 0, 2)), some (.inl (.int x5)), some (.inl (.int 1)), some (.inl (.int 0)), o8, o9] [.inl (.int 0)] m23 (k + 2)))))) ∧ (((0 ≤ ((ch_scr g).2.2 (Int32.toNatClampNeg (x5 + 1))) ∧ ((ch_scr g).2.2 (Int32.toNatClampNeg (x5 + 1))) < Y_21 0 8) ∧ Y_21 5 (Int32.toNatClampNeg ((ch_scr g).2.2 (Int32.toNatClampNeg (x5 + 1)))) = 0) → (∀ m23 : ch_M, m23 = ch_wr m (9, 0, 0) 19 2 → ((((m23 (9, 0, 0) 19) = 1 → ch_J g m_l_law R E 2096 [some (.inr (11, 0, 0)), some (.inr (0, 0, 0)), some (.inr (9, 0, 0)), some (.inr (10, 0, 1)), some (.inr (10, 0, 2)), some (.inl (.int x5)), some (.inl (.int 1)), some (.inl (.int 0)), o8, o9] [] m23 (k + 2)) ∧ (¬ (m23 (9, 0, 0) 19) = 1 → ch_J g m_l_law R E 1364 [some (.inr (11, 0, 0)), some (.inr (0, 0, 0)), some (.inr (9, 0, 0)), some (.inr (10, 0, 1)), some (.inr (10, 0, 2)), some (.inl (.int x5)), some (.inl (.int 1)), some (.inl (.int 0)), o8, o9] [.inl (.int 0)] m23 (k + 2))))))))) ∧ (((0 ≤ ((ch_scr g).2.2 (Int32.toNatClampNeg (x5 + 1))) ∧ ((ch_scr g).2.2 (Int32.toNatClampNeg (x5 + 1))) < m (1, 0, 0) 8) ∧ m (1, 0, 5) (Int32.toNatClampNeg ((ch_scr g).2.2 (Int32.toNatClampNeg (x5 + 1)))) = 0) → (∃ Y_36 : ch_B, (m_rel Y_36 (m (9, 0, 1))) ∧ (vp_in (Y_36 0 8) 6) ∧ ((((0 ≤ ((ch_scr g).2.2 (Int32.toNatClampNeg (x5 + 1))) ∧ ((ch_scr g).2.2 (Int32.toNatClampNeg (x5 + 1))) < Y_36 0 8) ∧ ¬ Y_36 5 (Int32.toNatClampNeg ((ch_scr g).2.2 (Int32.toNatClampNeg (x5 + 1)))) = 0) → (∀ m38 : ch_M, m38 = ch_wr m (9, 0, 0) 19 0 → ((((m38 (9, 0, 0) 19) = 2 → ch_J g m_l_law R E 2096 [some (.inr (11, 0, 0)), some (.inr (0, 0, 0)), some (.inr (9, 0, 0)), some (.inr (10, 0, 1)), some (.inr (10, 0, 2)), some (.inl (.int x5)), some (.inl (.int 2)), some (.inl (.int (Y_36 5 (Int32.toNatClampNeg ((ch_scr g).2.2 (Int32.toNatClampNeg (x5 + 1))))))), o8, o9] [] m38 (k + 2)) ∧ (¬ (m38 (9, 0, 0) 19) = 2 → ch_J g m_l_law R E 1364 [some (.inr (11, 0, 0)), some (.inr (0, 0, 0)), some (.inr (9, 0, 0)), some (.inr (10, 0, 1)), some (.inr (10, 0, 2)), some (.inl (.int x5)), some (.inl (.int 2)), some (.inl (.int (Y_36 5 (Int32.toNatClampNeg ((ch_scr g).2.2 (Int32.toNatClampNeg (x5 + 1))))))), o8, o9] [.inl (.int 0)] m38 (k + 2)))))) ∧ ((¬ (0 ≤ ((ch_scr g).2.2 (Int32.toNatClampNeg (x5 + 1))) ∧ ((ch_scr g).2.2 (Int32.toNatClampNeg (x5 + 1))) < Y_36 0 8)) → (∀ m38 : ch_M, m38 = ch_wr m (9, 0, 0) 19 1 → ((((m38 (9, 0, 0) 19) = 2 → ch_J g m_l_law R E 2096 [some (.inr (11, 0, 0)), some (.inr (0, 0, 0)), some (.inr (9, 0, 0)), some (.inr (10, 0, 1)), some (.inr (10, 0, 2)), some (.inl (.int x5)), some (.inl (.int 2)), some (.inl (.int 0)), o8, o9] [] m38 (k + 2)) ∧ (¬ (m38 (9, 0, 0) 19) = 2 → ch_J g m_l_law R E 1364 [some (.inr (11, 0, 0)), some (.inr (0, 0, 0)), some (.inr (9, 0, 0)), some (.inr (10, 0, 1)), some (.inr (10, 0, 2)), some (.inl (.int x5)), some (.inl (.int 2)), some (.inl (.int 0)), o8, o9] [.inl (.int 0)] m38 (k + 2)))))) ∧ (((0 ≤ ((ch_scr g).2.2 (Int32.toNatClampNeg (x5 + 1))) ∧ ((ch_scr g).2.2 (Int32.toNatClampNeg (x5 + 1))) < Y_36 0 8) ∧ Y_36 5 (Int32.toNatClampNeg ((ch_scr g).2.2 (Int32.toNatClampNeg (x5 + 1)))) = 0) → (∀ m38 : ch_M, m38 = ch_wr m (9, 0, 0) 19 2 → ((((m38 (9, 0, 0) 19) = 2 → ch_J g m_l_law R E 2096 [some (.inr (11, 0, 0)), some (.inr (0, 0, 0)), some (.inr (9, 0, 0)), some (.inr (10, 0, 1)), some (.inr (10, 0, 2)), some (.inl (.int x5)), some (.inl (.int 2)), some (.inl (.int 0)), o8, o9] [] m38 (k + 2)) ∧ (¬ (m38 (9, 0, 0) 19) = 2 → ch_J g m_l_law R E 1364 [some (.inr (11, 0, 0)), some (.inr (0, 0, 0)), some (.inr (9, 0, 0)), some (.inr (10, 0, 1)), some (.inr (10, 0, 2)), some (.inl (.int x5)), some (.inl (.int 2)), some (.inl (.int 0)), o8, o9] [.inl (.int 0)] m38 (k + 2))))))))))) : ch_J g m_l_law R E 1329 [some (.inr (11, 0, 0)), some (.inr (0, 0, 0)), some (.inr (9, 0, 0)), some (.inr (10, 0, 1)), some (.inr (10, 0, 2)), some (.inl (.int x5)), o6, o7, o8, o9] [] m k := by
  refine ch_aload_n (i := 1) d_l_law_1329 rfl rfl ?_
  refine ch_aload_n (i := 0) d_l_law_1330 rfl rfl ?_
  refine ch_iload d_l_law_1331 rfl ?_
  refine ch_iconst (v := 1) d_l_law_1333 (by decide) ?_
  refine ch_iadd d_l_law_1334 ?_
  have b1 := h.1
  replace h := h.2
  refine ch_sld d_l_law_1335 b1 ?_
  refine ch_aload_n (i := 3) d_l_law_1336 rfl rfl ?_
  have b5 := h.1
  replace h := h.2
  refine ch_callSX (as := [.inr (0, 0, 0), .inl (.int ((ch_scr g).2.2 (Int32.toNatClampNeg (x5 + 1)))), .inr (10, 0, 1)]) d_l_law_1337 lk_l_191 ms_l_rainFor rfl rfl (ch_hR hR (Nat.le_of_ble_eq_true rfl)) (Nat.le_of_ble_eq_true rfl) (ch_rc0 (k := k) (b := 2) hcs (Nat.le_of_ble_eq_true rfl)) (ch_mono (ch_Ki (fun r2 m3 q4 => ?_)) (s_l_rainFor g (fun (r_ : Int32) (m_ : ch_M) => (((0 ≤ ((ch_scr g).2.2 (Int32.toNatClampNeg (x5 + 1))) ∧ ((ch_scr g).2.2 (Int32.toNatClampNeg (x5 + 1))) < m (1, 0, 0) 8) ∧ ¬ m (1, 0, 5) (Int32.toNatClampNeg ((ch_scr g).2.2 (Int32.toNatClampNeg (x5 + 1)))) = 0) ∧ 0 = r_ ∧ m_ = (ch_wr m (10, 0, 1) 0 (m (1, 0, 5) (Int32.toNatClampNeg ((ch_scr g).2.2 (Int32.toNatClampNeg (x5 + 1))))))) ∨ ((¬ (0 ≤ ((ch_scr g).2.2 (Int32.toNatClampNeg (x5 + 1))) ∧ ((ch_scr g).2.2 (Int32.toNatClampNeg (x5 + 1))) < m (1, 0, 0) 8)) ∧ 1 = r_ ∧ m = m_) ∨ (((0 ≤ ((ch_scr g).2.2 (Int32.toNatClampNeg (x5 + 1))) ∧ ((ch_scr g).2.2 (Int32.toNatClampNeg (x5 + 1))) < m (1, 0, 0) 8) ∧ m (1, 0, 5) (Int32.toNatClampNeg ((ch_scr g).2.2 (Int32.toNatClampNeg (x5 + 1)))) = 0) ∧ 2 = r_ ∧ m = m_)) (((ch_scr g).2.2 (Int32.toNatClampNeg (x5 + 1)))) m ⟨b5, (fun c_ => (Or.inl ⟨c_, rfl, rfl⟩)), (fun c_ => (Or.inr (Or.inl ⟨c_, rfl, rfl⟩))), (fun c_ => (Or.inr (Or.inr ⟨c_, rfl, rfl⟩)))⟩))
  rcases q4 with ⟨c_, rfl, hm_⟩ | ⟨c_, rfl, rfl⟩ | ⟨c_, rfl, rfl⟩
  · replace h := h.1 c_ m3 hm_
    refine ch_istore (i := 6) d_l_law_1340 (Nat.le_of_ble_eq_true rfl) (ls' := [some (.inr (11, 0, 0)), some (.inr (0, 0, 0)), some (.inr (9, 0, 0)), some (.inr (10, 0, 1)), some (.inr (10, 0, 2)), some (.inl (.int x5)), some (.inl (.int 0)), o7, o8, o9]) rfl ?_
    refine ch_aload_n (i := 2) d_l_law_1342 rfl rfl ?_
    refine ch_aload_n (i := 0) d_l_law_1343 rfl rfl ?_
    refine ch_iload d_l_law_1344 rfl ?_
    refine ch_iconst (v := 1) d_l_law_1346 (by decide) ?_
    refine ch_iadd d_l_law_1347 ?_
    refine ch_sld d_l_law_1348 b1 ?_
    obtain ⟨Y_6, h⟩ := h
    have b10 := h.1
    replace h := h.2
    have b11 := h.1
    replace h := h.2
    refine ch_callV (as := [.inl (.int ((ch_scr g).2.2 (Int32.toNatClampNeg (x5 + 1))))]) d_l_law_1349 lk_l_193 mi_m_rainFor me_m_rainFor rfl rfl rfl (ch_hR hR (Nat.le_of_ble_eq_true rfl)) (Nat.le_of_ble_eq_true rfl) (ch_rc1 (k := k) (a := 2) (b := 0) hcs (Nat.le_of_ble_eq_true rfl)) (ch_mono (ch_Ki (fun r7 m8 q9 => ?_)) (s_m_rainFor g (fun (r_ : Int32) (m_ : ch_M) => (((0 ≤ ((ch_scr g).2.2 (Int32.toNatClampNeg (x5 + 1))) ∧ ((ch_scr g).2.2 (Int32.toNatClampNeg (x5 + 1))) < Y_6 0 8) ∧ ¬ Y_6 5 (Int32.toNatClampNeg ((ch_scr g).2.2 (Int32.toNatClampNeg (x5 + 1)))) = 0) ∧ (Y_6 5 (Int32.toNatClampNeg ((ch_scr g).2.2 (Int32.toNatClampNeg (x5 + 1))))) = r_ ∧ m_ = ch_wr m3 (9, 0, 0) 19 0) ∨ ((¬ (0 ≤ ((ch_scr g).2.2 (Int32.toNatClampNeg (x5 + 1))) ∧ ((ch_scr g).2.2 (Int32.toNatClampNeg (x5 + 1))) < Y_6 0 8)) ∧ 0 = r_ ∧ m_ = ch_wr m3 (9, 0, 0) 19 1) ∨ (((0 ≤ ((ch_scr g).2.2 (Int32.toNatClampNeg (x5 + 1))) ∧ ((ch_scr g).2.2 (Int32.toNatClampNeg (x5 + 1))) < Y_6 0 8) ∧ Y_6 5 (Int32.toNatClampNeg ((ch_scr g).2.2 (Int32.toNatClampNeg (x5 + 1)))) = 0) ∧ 0 = r_ ∧ m_ = ch_wr m3 (9, 0, 0) 19 2)) (Y_6) (((ch_scr g).2.2 (Int32.toNatClampNeg (x5 + 1)))) m3 ⟨b10, b11, (fun c_ => (Or.inl ⟨c_, rfl, rfl⟩)), (fun c_ => (Or.inr (Or.inl ⟨c_, rfl, rfl⟩))), (fun c_ => (Or.inr (Or.inr ⟨c_, rfl, rfl⟩)))⟩))
    rcases q9 with ⟨c_, rfl, hm_⟩ | ⟨c_, rfl, hm_⟩ | ⟨c_, rfl, hm_⟩
    · replace h := h.1 c_ m8 hm_
      refine ch_istore (i := 7) d_l_law_1352 (Nat.le_of_ble_eq_true rfl) (ls' := [some (.inr (11, 0, 0)), some (.inr (0, 0, 0)), some (.inr (9, 0, 0)), some (.inr (10, 0, 1)), some (.inr (10, 0, 2)), some (.inl (.int x5)), some (.inl (.int 0)), some (.inl (.int (Y_6 5 (Int32.toNatClampNeg ((ch_scr g).2.2 (Int32.toNatClampNeg (x5 + 1))))))), o8, o9]) rfl ?_
      refine ch_aload_n (i := 2) d_l_law_1354 rfl rfl ?_
      refine ch_callV (as := []) d_l_law_1355 lk_l_129 mi_m_thrown me_m_thrown rfl rfl rfl (ch_hR hR (Nat.le_of_ble_eq_true rfl)) (Nat.le_of_ble_eq_true rfl) (ch_rc1 (k := k) (a := 2) (b := 0) hcs (Nat.le_of_ble_eq_true rfl)) (ch_mono (ch_Ki (fun r12 m13 q14 => ?_)) (s_m_thrown g (fun (r_ : Int32) (m_ : ch_M) => ((m8 (9, 0, 0) 19) = r_ ∧ m8 = m_))  m8 ⟨rfl, rfl⟩))
      obtain ⟨rfl, rfl⟩ := q14
      replace h := h
      refine ch_iload d_l_law_1358 rfl ?_
      refine ch_icmp_eq (tgt := 1365) d_l_law_1360 (by decide) (fun c => ?_) (fun c => ?_)
      · replace h := h.1 c
        refine ch_iload d_l_law_1365 rfl ?_
        refine ch_if_ne (tgt := 1382) d_l_law_1367 (by decide) (fun c => absurd c (by decide)) (fun _ => ?_)
        refine ch_aload_n (i := 3) d_l_law_1370 rfl rfl ?_
        refine ch_iconst (v := 0) d_l_law_1371 (by decide) ?_
        refine ch_lald (n := 1) d_l_law_1372 (by decide) rfl (vp_in_nI (n := 0) (by decide) (by decide)) ?_
        refine ch_iload d_l_law_1373 rfl ?_
        refine ch_i2l d_l_law_1375 ?_
        refine ch_lcmp d_l_law_1376 ?_
        refine ch_if_eq (tgt := 1382) d_l_law_1377 (by decide) (fun c => ?_) (fun c => ?_)
        · replace h := h.1 c
          refine ch_goto (tgt := 2096) d_l_law_1382 (by decide) ?_
          exact h
        · replace h := h.2 c
          refine ch_iconst (v := 0) d_l_law_1380 (by decide) ?_
          exact h
      · replace h := h.2 c
        refine ch_iconst (v := 0) d_l_law_1363 (by decide) ?_
        exact h
    · replace h := h.2.1 c_ m8 hm_
      refine ch_istore (i := 7) d_l_law_1352 (Nat.le_of_ble_eq_true rfl) (ls' := [some (.inr (11, 0, 0)), some (.inr (0, 0, 0)), some (.inr (9, 0, 0)), some (.inr (10, 0, 1)), some (.inr (10, 0, 2)), some (.inl (.int x5)), some (.inl (.int 0)), some (.inl (.int 0)), o8, o9]) rfl ?_
      refine ch_aload_n (i := 2) d_l_law_1354 rfl rfl ?_
      refine ch_callV (as := []) d_l_law_1355 lk_l_129 mi_m_thrown me_m_thrown rfl rfl rfl (ch_hR hR (Nat.le_of_ble_eq_true rfl)) (Nat.le_of_ble_eq_true rfl) (ch_rc1 (k := k) (a := 2) (b := 0) hcs (Nat.le_of_ble_eq_true rfl)) (ch_mono (ch_Ki (fun r15 m16 q17 => ?_)) (s_m_thrown g (fun (r_ : Int32) (m_ : ch_M) => ((m8 (9, 0, 0) 19) = r_ ∧ m8 = m_))  m8 ⟨rfl, rfl⟩))
      obtain ⟨rfl, rfl⟩ := q17
      replace h := h
      refine ch_iload d_l_law_1358 rfl ?_
      refine ch_icmp_eq (tgt := 1365) d_l_law_1360 (by decide) (fun c => ?_) (fun c => ?_)
      · replace h := h.1 c
        refine ch_iload d_l_law_1365 rfl ?_
        refine ch_if_ne (tgt := 1382) d_l_law_1367 (by decide) (fun c => absurd c (by decide)) (fun _ => ?_)
        refine ch_aload_n (i := 3) d_l_law_1370 rfl rfl ?_
        refine ch_iconst (v := 0) d_l_law_1371 (by decide) ?_
        refine ch_lald (n := 1) d_l_law_1372 (by decide) rfl (vp_in_nI (n := 0) (by decide) (by decide)) ?_
        refine ch_iload d_l_law_1373 rfl ?_
        refine ch_i2l d_l_law_1375 ?_
        refine ch_lcmp d_l_law_1376 ?_
        refine ch_if_eq (tgt := 1382) d_l_law_1377 (by decide) (fun c => ?_) (fun c => ?_)
        · replace h := h.1 c
          refine ch_goto (tgt := 2096) d_l_law_1382 (by decide) ?_
          exact h
        · replace h := h.2 c
          refine ch_iconst (v := 0) d_l_law_1380 (by decide) ?_
          exact h
      · replace h := h.2 c
        refine ch_iconst (v := 0) d_l_law_1363 (by decide) ?_
        exact h
    · replace h := h.2.2 c_ m8 hm_
      refine ch_istore (i := 7) d_l_law_1352 (Nat.le_of_ble_eq_true rfl) (ls' := [some (.inr (11, 0, 0)), some (.inr (0, 0, 0)), some (.inr (9, 0, 0)), some (.inr (10, 0, 1)), some (.inr (10, 0, 2)), some (.inl (.int x5)), some (.inl (.int 0)), some (.inl (.int 0)), o8, o9]) rfl ?_
      refine ch_aload_n (i := 2) d_l_law_1354 rfl rfl ?_
      refine ch_callV (as := []) d_l_law_1355 lk_l_129 mi_m_thrown me_m_thrown rfl rfl rfl (ch_hR hR (Nat.le_of_ble_eq_true rfl)) (Nat.le_of_ble_eq_true rfl) (ch_rc1 (k := k) (a := 2) (b := 0) hcs (Nat.le_of_ble_eq_true rfl)) (ch_mono (ch_Ki (fun r18 m19 q20 => ?_)) (s_m_thrown g (fun (r_ : Int32) (m_ : ch_M) => ((m8 (9, 0, 0) 19) = r_ ∧ m8 = m_))  m8 ⟨rfl, rfl⟩))
      obtain ⟨rfl, rfl⟩ := q20
      replace h := h
      refine ch_iload d_l_law_1358 rfl ?_
      refine ch_icmp_eq (tgt := 1365) d_l_law_1360 (by decide) (fun c => ?_) (fun c => ?_)
      · replace h := h.1 c
        refine ch_iload d_l_law_1365 rfl ?_
        refine ch_if_ne (tgt := 1382) d_l_law_1367 (by decide) (fun c => absurd c (by decide)) (fun _ => ?_)
        refine ch_aload_n (i := 3) d_l_law_1370 rfl rfl ?_
        refine ch_iconst (v := 0) d_l_law_1371 (by decide) ?_
        refine ch_lald (n := 1) d_l_law_1372 (by decide) rfl (vp_in_nI (n := 0) (by decide) (by decide)) ?_
        refine ch_iload d_l_law_1373 rfl ?_
        refine ch_i2l d_l_law_1375 ?_
        refine ch_lcmp d_l_law_1376 ?_
        refine ch_if_eq (tgt := 1382) d_l_law_1377 (by decide) (fun c => ?_) (fun c => ?_)
        · replace h := h.1 c
          refine ch_goto (tgt := 2096) d_l_law_1382 (by decide) ?_
          exact h
        · replace h := h.2 c
          refine ch_iconst (v := 0) d_l_law_1380 (by decide) ?_
          exact h
      · replace h := h.2 c
        refine ch_iconst (v := 0) d_l_law_1363 (by decide) ?_
        exact h
  · replace h := h.2.1 c_
    refine ch_istore (i := 6) d_l_law_1340 (Nat.le_of_ble_eq_true rfl) (ls' := [some (.inr (11, 0, 0)), some (.inr (0, 0, 0)), some (.inr (9, 0, 0)), some (.inr (10, 0, 1)), some (.inr (10, 0, 2)), some (.inl (.int x5)), some (.inl (.int 1)), o7, o8, o9]) rfl ?_
    refine ch_aload_n (i := 2) d_l_law_1342 rfl rfl ?_
    refine ch_aload_n (i := 0) d_l_law_1343 rfl rfl ?_
    refine ch_iload d_l_law_1344 rfl ?_
    refine ch_iconst (v := 1) d_l_law_1346 (by decide) ?_
    refine ch_iadd d_l_law_1347 ?_
    refine ch_sld d_l_law_1348 b1 ?_
    obtain ⟨Y_21, h⟩ := h
    have b25 := h.1
    replace h := h.2
    have b26 := h.1
    replace h := h.2
    refine ch_callV (as := [.inl (.int ((ch_scr g).2.2 (Int32.toNatClampNeg (x5 + 1))))]) d_l_law_1349 lk_l_193 mi_m_rainFor me_m_rainFor rfl rfl rfl (ch_hR hR (Nat.le_of_ble_eq_true rfl)) (Nat.le_of_ble_eq_true rfl) (ch_rc1 (k := k) (a := 2) (b := 0) hcs (Nat.le_of_ble_eq_true rfl)) (ch_mono (ch_Ki (fun r22 m23 q24 => ?_)) (s_m_rainFor g (fun (r_ : Int32) (m_ : ch_M) => (((0 ≤ ((ch_scr g).2.2 (Int32.toNatClampNeg (x5 + 1))) ∧ ((ch_scr g).2.2 (Int32.toNatClampNeg (x5 + 1))) < Y_21 0 8) ∧ ¬ Y_21 5 (Int32.toNatClampNeg ((ch_scr g).2.2 (Int32.toNatClampNeg (x5 + 1)))) = 0) ∧ (Y_21 5 (Int32.toNatClampNeg ((ch_scr g).2.2 (Int32.toNatClampNeg (x5 + 1))))) = r_ ∧ m_ = ch_wr m (9, 0, 0) 19 0) ∨ ((¬ (0 ≤ ((ch_scr g).2.2 (Int32.toNatClampNeg (x5 + 1))) ∧ ((ch_scr g).2.2 (Int32.toNatClampNeg (x5 + 1))) < Y_21 0 8)) ∧ 0 = r_ ∧ m_ = ch_wr m (9, 0, 0) 19 1) ∨ (((0 ≤ ((ch_scr g).2.2 (Int32.toNatClampNeg (x5 + 1))) ∧ ((ch_scr g).2.2 (Int32.toNatClampNeg (x5 + 1))) < Y_21 0 8) ∧ Y_21 5 (Int32.toNatClampNeg ((ch_scr g).2.2 (Int32.toNatClampNeg (x5 + 1)))) = 0) ∧ 0 = r_ ∧ m_ = ch_wr m (9, 0, 0) 19 2)) (Y_21) (((ch_scr g).2.2 (Int32.toNatClampNeg (x5 + 1)))) m ⟨b25, b26, (fun c_ => (Or.inl ⟨c_, rfl, rfl⟩)), (fun c_ => (Or.inr (Or.inl ⟨c_, rfl, rfl⟩))), (fun c_ => (Or.inr (Or.inr ⟨c_, rfl, rfl⟩)))⟩))
    rcases q24 with ⟨c_, rfl, hm_⟩ | ⟨c_, rfl, hm_⟩ | ⟨c_, rfl, hm_⟩
    · replace h := h.1 c_ m23 hm_
      refine ch_istore (i := 7) d_l_law_1352 (Nat.le_of_ble_eq_true rfl) (ls' := [some (.inr (11, 0, 0)), some (.inr (0, 0, 0)), some (.inr (9, 0, 0)), some (.inr (10, 0, 1)), some (.inr (10, 0, 2)), some (.inl (.int x5)), some (.inl (.int 1)), some (.inl (.int (Y_21 5 (Int32.toNatClampNeg ((ch_scr g).2.2 (Int32.toNatClampNeg (x5 + 1))))))), o8, o9]) rfl ?_
      refine ch_aload_n (i := 2) d_l_law_1354 rfl rfl ?_
      refine ch_callV (as := []) d_l_law_1355 lk_l_129 mi_m_thrown me_m_thrown rfl rfl rfl (ch_hR hR (Nat.le_of_ble_eq_true rfl)) (Nat.le_of_ble_eq_true rfl) (ch_rc1 (k := k) (a := 2) (b := 0) hcs (Nat.le_of_ble_eq_true rfl)) (ch_mono (ch_Ki (fun r27 m28 q29 => ?_)) (s_m_thrown g (fun (r_ : Int32) (m_ : ch_M) => ((m23 (9, 0, 0) 19) = r_ ∧ m23 = m_))  m23 ⟨rfl, rfl⟩))
      obtain ⟨rfl, rfl⟩ := q29
      replace h := h
      refine ch_iload d_l_law_1358 rfl ?_
      refine ch_icmp_eq (tgt := 1365) d_l_law_1360 (by decide) (fun c => ?_) (fun c => ?_)
      · replace h := h.1 c
        refine ch_iload d_l_law_1365 rfl ?_
        refine ch_if_ne (tgt := 1382) d_l_law_1367 (by decide) (fun _ => ?_) (fun c => absurd c (by decide))
        refine ch_goto (tgt := 2096) d_l_law_1382 (by decide) ?_
        exact h
      · replace h := h.2 c
        refine ch_iconst (v := 0) d_l_law_1363 (by decide) ?_
        exact h
    · replace h := h.2.1 c_ m23 hm_
      refine ch_istore (i := 7) d_l_law_1352 (Nat.le_of_ble_eq_true rfl) (ls' := [some (.inr (11, 0, 0)), some (.inr (0, 0, 0)), some (.inr (9, 0, 0)), some (.inr (10, 0, 1)), some (.inr (10, 0, 2)), some (.inl (.int x5)), some (.inl (.int 1)), some (.inl (.int 0)), o8, o9]) rfl ?_
      refine ch_aload_n (i := 2) d_l_law_1354 rfl rfl ?_
      refine ch_callV (as := []) d_l_law_1355 lk_l_129 mi_m_thrown me_m_thrown rfl rfl rfl (ch_hR hR (Nat.le_of_ble_eq_true rfl)) (Nat.le_of_ble_eq_true rfl) (ch_rc1 (k := k) (a := 2) (b := 0) hcs (Nat.le_of_ble_eq_true rfl)) (ch_mono (ch_Ki (fun r30 m31 q32 => ?_)) (s_m_thrown g (fun (r_ : Int32) (m_ : ch_M) => ((m23 (9, 0, 0) 19) = r_ ∧ m23 = m_))  m23 ⟨rfl, rfl⟩))
      obtain ⟨rfl, rfl⟩ := q32
      replace h := h
      refine ch_iload d_l_law_1358 rfl ?_
      refine ch_icmp_eq (tgt := 1365) d_l_law_1360 (by decide) (fun c => ?_) (fun c => ?_)
      · replace h := h.1 c
        refine ch_iload d_l_law_1365 rfl ?_
        refine ch_if_ne (tgt := 1382) d_l_law_1367 (by decide) (fun _ => ?_) (fun c => absurd c (by decide))
        refine ch_goto (tgt := 2096) d_l_law_1382 (by decide) ?_
        exact h
      · replace h := h.2 c
        refine ch_iconst (v := 0) d_l_law_1363 (by decide) ?_
        exact h
    · replace h := h.2.2 c_ m23 hm_
      refine ch_istore (i := 7) d_l_law_1352 (Nat.le_of_ble_eq_true rfl) (ls' := [some (.inr (11, 0, 0)), some (.inr (0, 0, 0)), some (.inr (9, 0, 0)), some (.inr (10, 0, 1)), some (.inr (10, 0, 2)), some (.inl (.int x5)), some (.inl (.int 1)), some (.inl (.int 0)), o8, o9]) rfl ?_
      refine ch_aload_n (i := 2) d_l_law_1354 rfl rfl ?_
      refine ch_callV (as := []) d_l_law_1355 lk_l_129 mi_m_thrown me_m_thrown rfl rfl rfl (ch_hR hR (Nat.le_of_ble_eq_true rfl)) (Nat.le_of_ble_eq_true rfl) (ch_rc1 (k := k) (a := 2) (b := 0) hcs (Nat.le_of_ble_eq_true rfl)) (ch_mono (ch_Ki (fun r33 m34 q35 => ?_)) (s_m_thrown g (fun (r_ : Int32) (m_ : ch_M) => ((m23 (9, 0, 0) 19) = r_ ∧ m23 = m_))  m23 ⟨rfl, rfl⟩))
      obtain ⟨rfl, rfl⟩ := q35
      replace h := h
      refine ch_iload d_l_law_1358 rfl ?_
      refine ch_icmp_eq (tgt := 1365) d_l_law_1360 (by decide) (fun c => ?_) (fun c => ?_)
      · replace h := h.1 c
        refine ch_iload d_l_law_1365 rfl ?_
        refine ch_if_ne (tgt := 1382) d_l_law_1367 (by decide) (fun _ => ?_) (fun c => absurd c (by decide))
        refine ch_goto (tgt := 2096) d_l_law_1382 (by decide) ?_
        exact h
      · replace h := h.2 c
        refine ch_iconst (v := 0) d_l_law_1363 (by decide) ?_
        exact h
  · replace h := h.2.2 c_
    refine ch_istore (i := 6) d_l_law_1340 (Nat.le_of_ble_eq_true rfl) (ls' := [some (.inr (11, 0, 0)), some (.inr (0, 0, 0)), some (.inr (9, 0, 0)), some (.inr (10, 0, 1)), some (.inr (10, 0, 2)), some (.inl (.int x5)), some (.inl (.int 2)), o7, o8, o9]) rfl ?_
    refine ch_aload_n (i := 2) d_l_law_1342 rfl rfl ?_
    refine ch_aload_n (i := 0) d_l_law_1343 rfl rfl ?_
    refine ch_iload d_l_law_1344 rfl ?_
    refine ch_iconst (v := 1) d_l_law_1346 (by decide) ?_
    refine ch_iadd d_l_law_1347 ?_
    refine ch_sld d_l_law_1348 b1 ?_
    obtain ⟨Y_36, h⟩ := h
    have b40 := h.1
    replace h := h.2
    have b41 := h.1
    replace h := h.2
    refine ch_callV (as := [.inl (.int ((ch_scr g).2.2 (Int32.toNatClampNeg (x5 + 1))))]) d_l_law_1349 lk_l_193 mi_m_rainFor me_m_rainFor rfl rfl rfl (ch_hR hR (Nat.le_of_ble_eq_true rfl)) (Nat.le_of_ble_eq_true rfl) (ch_rc1 (k := k) (a := 2) (b := 0) hcs (Nat.le_of_ble_eq_true rfl)) (ch_mono (ch_Ki (fun r37 m38 q39 => ?_)) (s_m_rainFor g (fun (r_ : Int32) (m_ : ch_M) => (((0 ≤ ((ch_scr g).2.2 (Int32.toNatClampNeg (x5 + 1))) ∧ ((ch_scr g).2.2 (Int32.toNatClampNeg (x5 + 1))) < Y_36 0 8) ∧ ¬ Y_36 5 (Int32.toNatClampNeg ((ch_scr g).2.2 (Int32.toNatClampNeg (x5 + 1)))) = 0) ∧ (Y_36 5 (Int32.toNatClampNeg ((ch_scr g).2.2 (Int32.toNatClampNeg (x5 + 1))))) = r_ ∧ m_ = ch_wr m (9, 0, 0) 19 0) ∨ ((¬ (0 ≤ ((ch_scr g).2.2 (Int32.toNatClampNeg (x5 + 1))) ∧ ((ch_scr g).2.2 (Int32.toNatClampNeg (x5 + 1))) < Y_36 0 8)) ∧ 0 = r_ ∧ m_ = ch_wr m (9, 0, 0) 19 1) ∨ (((0 ≤ ((ch_scr g).2.2 (Int32.toNatClampNeg (x5 + 1))) ∧ ((ch_scr g).2.2 (Int32.toNatClampNeg (x5 + 1))) < Y_36 0 8) ∧ Y_36 5 (Int32.toNatClampNeg ((ch_scr g).2.2 (Int32.toNatClampNeg (x5 + 1)))) = 0) ∧ 0 = r_ ∧ m_ = ch_wr m (9, 0, 0) 19 2)) (Y_36) (((ch_scr g).2.2 (Int32.toNatClampNeg (x5 + 1)))) m ⟨b40, b41, (fun c_ => (Or.inl ⟨c_, rfl, rfl⟩)), (fun c_ => (Or.inr (Or.inl ⟨c_, rfl, rfl⟩))), (fun c_ => (Or.inr (Or.inr ⟨c_, rfl, rfl⟩)))⟩))
    rcases q39 with ⟨c_, rfl, hm_⟩ | ⟨c_, rfl, hm_⟩ | ⟨c_, rfl, hm_⟩
    · replace h := h.1 c_ m38 hm_
      refine ch_istore (i := 7) d_l_law_1352 (Nat.le_of_ble_eq_true rfl) (ls' := [some (.inr (11, 0, 0)), some (.inr (0, 0, 0)), some (.inr (9, 0, 0)), some (.inr (10, 0, 1)), some (.inr (10, 0, 2)), some (.inl (.int x5)), some (.inl (.int 2)), some (.inl (.int (Y_36 5 (Int32.toNatClampNeg ((ch_scr g).2.2 (Int32.toNatClampNeg (x5 + 1))))))), o8, o9]) rfl ?_
      refine ch_aload_n (i := 2) d_l_law_1354 rfl rfl ?_
      refine ch_callV (as := []) d_l_law_1355 lk_l_129 mi_m_thrown me_m_thrown rfl rfl rfl (ch_hR hR (Nat.le_of_ble_eq_true rfl)) (Nat.le_of_ble_eq_true rfl) (ch_rc1 (k := k) (a := 2) (b := 0) hcs (Nat.le_of_ble_eq_true rfl)) (ch_mono (ch_Ki (fun r42 m43 q44 => ?_)) (s_m_thrown g (fun (r_ : Int32) (m_ : ch_M) => ((m38 (9, 0, 0) 19) = r_ ∧ m38 = m_))  m38 ⟨rfl, rfl⟩))
      obtain ⟨rfl, rfl⟩ := q44
      replace h := h
      refine ch_iload d_l_law_1358 rfl ?_
      refine ch_icmp_eq (tgt := 1365) d_l_law_1360 (by decide) (fun c => ?_) (fun c => ?_)
      · replace h := h.1 c
        refine ch_iload d_l_law_1365 rfl ?_
        refine ch_if_ne (tgt := 1382) d_l_law_1367 (by decide) (fun _ => ?_) (fun c => absurd c (by decide))
        refine ch_goto (tgt := 2096) d_l_law_1382 (by decide) ?_
        exact h
      · replace h := h.2 c
        refine ch_iconst (v := 0) d_l_law_1363 (by decide) ?_
        exact h
    · replace h := h.2.1 c_ m38 hm_
      refine ch_istore (i := 7) d_l_law_1352 (Nat.le_of_ble_eq_true rfl) (ls' := [some (.inr (11, 0, 0)), some (.inr (0, 0, 0)), some (.inr (9, 0, 0)), some (.inr (10, 0, 1)), some (.inr (10, 0, 2)), some (.inl (.int x5)), some (.inl (.int 2)), some (.inl (.int 0)), o8, o9]) rfl ?_
      refine ch_aload_n (i := 2) d_l_law_1354 rfl rfl ?_
      refine ch_callV (as := []) d_l_law_1355 lk_l_129 mi_m_thrown me_m_thrown rfl rfl rfl (ch_hR hR (Nat.le_of_ble_eq_true rfl)) (Nat.le_of_ble_eq_true rfl) (ch_rc1 (k := k) (a := 2) (b := 0) hcs (Nat.le_of_ble_eq_true rfl)) (ch_mono (ch_Ki (fun r45 m46 q47 => ?_)) (s_m_thrown g (fun (r_ : Int32) (m_ : ch_M) => ((m38 (9, 0, 0) 19) = r_ ∧ m38 = m_))  m38 ⟨rfl, rfl⟩))
      obtain ⟨rfl, rfl⟩ := q47
      replace h := h
      refine ch_iload d_l_law_1358 rfl ?_
      refine ch_icmp_eq (tgt := 1365) d_l_law_1360 (by decide) (fun c => ?_) (fun c => ?_)
      · replace h := h.1 c
        refine ch_iload d_l_law_1365 rfl ?_
        refine ch_if_ne (tgt := 1382) d_l_law_1367 (by decide) (fun _ => ?_) (fun c => absurd c (by decide))
        refine ch_goto (tgt := 2096) d_l_law_1382 (by decide) ?_
        exact h
      · replace h := h.2 c
        refine ch_iconst (v := 0) d_l_law_1363 (by decide) ?_
        exact h
    · replace h := h.2.2 c_ m38 hm_
      refine ch_istore (i := 7) d_l_law_1352 (Nat.le_of_ble_eq_true rfl) (ls' := [some (.inr (11, 0, 0)), some (.inr (0, 0, 0)), some (.inr (9, 0, 0)), some (.inr (10, 0, 1)), some (.inr (10, 0, 2)), some (.inl (.int x5)), some (.inl (.int 2)), some (.inl (.int 0)), o8, o9]) rfl ?_
      refine ch_aload_n (i := 2) d_l_law_1354 rfl rfl ?_
      refine ch_callV (as := []) d_l_law_1355 lk_l_129 mi_m_thrown me_m_thrown rfl rfl rfl (ch_hR hR (Nat.le_of_ble_eq_true rfl)) (Nat.le_of_ble_eq_true rfl) (ch_rc1 (k := k) (a := 2) (b := 0) hcs (Nat.le_of_ble_eq_true rfl)) (ch_mono (ch_Ki (fun r48 m49 q50 => ?_)) (s_m_thrown g (fun (r_ : Int32) (m_ : ch_M) => ((m38 (9, 0, 0) 19) = r_ ∧ m38 = m_))  m38 ⟨rfl, rfl⟩))
      obtain ⟨rfl, rfl⟩ := q50
      replace h := h
      refine ch_iload d_l_law_1358 rfl ?_
      refine ch_icmp_eq (tgt := 1365) d_l_law_1360 (by decide) (fun c => ?_) (fun c => ?_)
      · replace h := h.1 c
        refine ch_iload d_l_law_1365 rfl ?_
        refine ch_if_ne (tgt := 1382) d_l_law_1367 (by decide) (fun _ => ?_) (fun c => absurd c (by decide))
        refine ch_goto (tgt := 2096) d_l_law_1382 (by decide) ?_
        exact h
      · replace h := h.2 c
        refine ch_iconst (v := 0) d_l_law_1363 (by decide) ?_
        exact h
set_option maxHeartbeats 1600000 in
theorem g_l_law_1385 (g : ch_G) (R : Room) (E : ch_En) (k : Nat) (hR : ch_RR R 18) (hcs : k + 40 ≤ R.cells ∧ 6 * k + 240 ≤ R.slots) (x5 : Int32) (o6 : Option ch_V) (o7 : Option ch_V) (o8 : Option ch_V) (o9 : Option ch_V) (m : ch_M) (h : (vp_in (x5 + 1) (ch_scr g).2.1) ∧ (vp_in (m (1, 0, 0) 8) 6) ∧ (((0 ≤ ((ch_scr g).2.2 (Int32.toNatClampNeg (x5 + 1))) ∧ ((ch_scr g).2.2 (Int32.toNatClampNeg (x5 + 1))) < m (1, 0, 0) 8) → (∀ m3 : ch_M, m3 = (ch_wr m (10, 0, 1) 0 (y_ofS (m (1, 0, 1)) ((ch_scr g).2.2 (Int32.toNatClampNeg (x5 + 1))) (m (1, 0, 3) (Int32.toNatClampNeg ((ch_scr g).2.2 (Int32.toNatClampNeg (x5 + 1))))) 12)) → (∃ Y_6 : ch_B, (m_rel Y_6 (m3 (9, 0, 1))) ∧ (vp_in (Y_6 0 8) 6) ∧ (∀ i_, i_ < 5 → vp_in (Y_6 3 i_) 496) ∧ (((0 ≤ ((ch_scr g).2.2 (Int32.toNatClampNeg (x5 + 1))) ∧ ((ch_scr g).2.2 (Int32.toNatClampNeg (x5 + 1))) < Y_6 0 8) → (∀ m8 : ch_M, m8 = ch_wr m3 (9, 0, 0) 19 0 → ((((m8 (9, 0, 0) 19) = 0 → (((lg_cmp ((m8 (10, 0, 1) (0))).toInt64 ((y_ofS (Y_6 1) ((ch_scr g).2.2 (Int32.toNatClampNeg (x5 + 1))) (Y_6 3 (Int32.toNatClampNeg ((ch_scr g).2.2 (Int32.toNatClampNeg (x5 + 1))))) 12)).toInt64) = 0 → ch_J g m_l_law R E 2096 [some (.inr (11, 0, 0)), some (.inr (0, 0, 0)), some (.inr (9, 0, 0)), some (.inr (10, 0, 1)), some (.inr (10, 0, 2)), some (.inl (.int x5)), some (.inl (.int 0)), some (.inl (.int (y_ofS (Y_6 1) ((ch_scr g).2.2 (Int32.toNatClampNeg (x5 + 1))) (Y_6 3 (Int32.toNatClampNeg ((ch_scr g).2.2 (Int32.toNatClampNeg (x5 + 1))))) 12))), o8, o9] [] m8 (k + 1)) ∧ (¬ (lg_cmp ((m8 (10, 0, 1) (0))).toInt64 ((y_ofS (Y_6 1) ((ch_scr g).2.2 (Int32.toNatClampNeg (x5 + 1))) (Y_6 3 (Int32.toNatClampNeg ((ch_scr g).2.2 (Int32.toNatClampNeg (x5 + 1))))) 12)).toInt64) = 0 → ch_J g m_l_law R E 1437 [some (.inr (11, 0, 0)), some (.inr (0, 0, 0)), some (.inr (9, 0, 0)), some (.inr (10, 0, 1)), some (.inr (10, 0, 2)), some (.inl (.int x5)), some (.inl (.int 0)), some (.inl (.int (y_ofS (Y_6 1) ((ch_scr g).2.2 (Int32.toNatClampNeg (x5 + 1))) (Y_6 3 (Int32.toNatClampNeg ((ch_scr g).2.2 (Int32.toNatClampNeg (x5 + 1))))) 12))), o8, o9] [.inl (.int 0)] m8 (k + 1)))) ∧ (¬ (m8 (9, 0, 0) 19) = 0 → ch_J g m_l_law R E 1420 [some (.inr (11, 0, 0)), some (.inr (0, 0, 0)), some (.inr (9, 0, 0)), some (.inr (10, 0, 1)), some (.inr (10, 0, 2)), some (.inl (.int x5)), some (.inl (.int 0)), some (.inl (.int (y_ofS (Y_6 1) ((ch_scr g).2.2 (Int32.toNatClampNeg (x5 + 1))) (Y_6 3 (Int32.toNatClampNeg ((ch_scr g).2.2 (Int32.toNatClampNeg (x5 + 1))))) 12))), o8, o9] [.inl (.int 0)] m8 (k + 1)))))) ∧ ((¬ (0 ≤ ((ch_scr g).2.2 (Int32.toNatClampNeg (x5 + 1))) ∧ ((ch_scr g).2.2 (Int32.toNatClampNeg (x5 + 1))) < Y_6 0 8)) → (∀ m8 : ch_M, m8 = ch_wr m3 (9, 0, 0) 19 1 → ((((m8 (9, 0, 0) 19) = 0 → (((lg_cmp ((m8 (10, 0, 1) (0))).toInt64 (0).toInt64) = 0 → ch_J g m_l_law R E 2096 [some (.inr (11, 0, 0)), some (.inr (0, 0, 0)), some (.inr (9, 0, 0)), some (.inr (10, 0, 1)), some (.inr (10, 0, 2)), some (.inl (.int x5)), some (.inl (.int 0)), some (.inl (.int 0)), o8, o9] [] m8 (k + 1)) ∧ (¬ (lg_cmp ((m8 (10, 0, 1) (0))).toInt64 (0).toInt64) = 0 → ch_J g m_l_law R E 1437 [some (.inr (11, 0, 0)), some (.inr (0, 0, 0)), some (.inr (9, 0, 0)), some (.inr (10, 0, 1)), some (.inr (10, 0, 2)), some (.inl (.int x5)), some (.inl (.int 0)), some (.inl (.int 0)), o8, o9] [.inl (.int 0)] m8 (k + 1)))) ∧ (¬ (m8 (9, 0, 0) 19) = 0 → ch_J g m_l_law R E 1420 [some (.inr (11, 0, 0)), some (.inr (0, 0, 0)), some (.inr (9, 0, 0)), some (.inr (10, 0, 1)), some (.inr (10, 0, 2)), some (.inl (.int x5)), some (.inl (.int 0)), some (.inl (.int 0)), o8, o9] [.inl (.int 0)] m8 (k + 1)))))))))) ∧ ((¬ (0 ≤ ((ch_scr g).2.2 (Int32.toNatClampNeg (x5 + 1))) ∧ ((ch_scr g).2.2 (Int32.toNatClampNeg (x5 + 1))) < m (1, 0, 0) 8)) → (∃ Y_19 : ch_B, (m_rel Y_19 (m (9, 0, 1))) ∧ (vp_in (Y_19 0 8) 6) ∧ (∀ i_, i_ < 5 → vp_in (Y_19 3 i_) 496) ∧ (((0 ≤ ((ch_scr g).2.2 (Int32.toNatClampNeg (x5 + 1))) ∧ ((ch_scr g).2.2 (Int32.toNatClampNeg (x5 + 1))) < Y_19 0 8) → (∀ m21 : ch_M, m21 = ch_wr m (9, 0, 0) 19 0 → ((((m21 (9, 0, 0) 19) = 1 → ch_J g m_l_law R E 2096 [some (.inr (11, 0, 0)), some (.inr (0, 0, 0)), some (.inr (9, 0, 0)), some (.inr (10, 0, 1)), some (.inr (10, 0, 2)), some (.inl (.int x5)), some (.inl (.int 1)), some (.inl (.int (y_ofS (Y_19 1) ((ch_scr g).2.2 (Int32.toNatClampNeg (x5 + 1))) (Y_19 3 (Int32.toNatClampNeg ((ch_scr g).2.2 (Int32.toNatClampNeg (x5 + 1))))) 12))), o8, o9] [] m21 (k + 1)) ∧ (¬ (m21 (9, 0, 0) 19) = 1 → ch_J g m_l_law R E 1420 [some (.inr (11, 0, 0)), some (.inr (0, 0, 0)), some (.inr (9, 0, 0)), some (.inr (10, 0, 1)), some (.inr (10, 0, 2)), some (.inl (.int x5)), some (.inl (.int 1)), some (.inl (.int (y_ofS (Y_19 1) ((ch_scr g).2.2 (Int32.toNatClampNeg (x5 + 1))) (Y_19 3 (Int32.toNatClampNeg ((ch_scr g).2.2 (Int32.toNatClampNeg (x5 + 1))))) 12))), o8, o9] [.inl (.int 0)] m21 (k + 1)))))) ∧ ((¬ (0 ≤ ((ch_scr g).2.2 (Int32.toNatClampNeg (x5 + 1))) ∧ ((ch_scr g).2.2 (Int32.toNatClampNeg (x5 + 1))) < Y_19 0 8)) → (∀ m21 : ch_M, m21 = ch_wr m (9, 0, 0) 19 1 → ((((m21 (9, 0, 0) 19) = 1 → ch_J g m_l_law R E 2096 [some (.inr (11, 0, 0)), some (.inr (0, 0, 0)), some (.inr (9, 0, 0)), some (.inr (10, 0, 1)), some (.inr (10, 0, 2)), some (.inl (.int x5)), some (.inl (.int 1)), some (.inl (.int 0)), o8, o9] [] m21 (k + 1)) ∧ (¬ (m21 (9, 0, 0) 19) = 1 → ch_J g m_l_law R E 1420 [some (.inr (11, 0, 0)), some (.inr (0, 0, 0)), some (.inr (9, 0, 0)), some (.inr (10, 0, 1)), some (.inr (10, 0, 2)), some (.inl (.int x5)), some (.inl (.int 1)), some (.inl (.int 0)), o8, o9] [.inl (.int 0)] m21 (k + 1))))))))))) : ch_J g m_l_law R E 1385 [some (.inr (11, 0, 0)), some (.inr (0, 0, 0)), some (.inr (9, 0, 0)), some (.inr (10, 0, 1)), some (.inr (10, 0, 2)), some (.inl (.int x5)), o6, o7, o8, o9] [] m k := by
  refine ch_aload_n (i := 1) d_l_law_1385 rfl rfl ?_
  refine ch_aload_n (i := 0) d_l_law_1386 rfl rfl ?_
  refine ch_iload d_l_law_1387 rfl ?_
  refine ch_iconst (v := 1) d_l_law_1389 (by decide) ?_
  refine ch_iadd d_l_law_1390 ?_
  have b1 := h.1
  replace h := h.2
  refine ch_sld d_l_law_1391 b1 ?_
  refine ch_aload_n (i := 3) d_l_law_1392 rfl rfl ?_
  have b5 := h.1
  replace h := h.2
  refine ch_callSX (as := [.inr (0, 0, 0), .inl (.int ((ch_scr g).2.2 (Int32.toNatClampNeg (x5 + 1)))), .inr (10, 0, 1)]) d_l_law_1393 lk_l_194 ms_l_wouldLose rfl rfl (ch_hR hR (Nat.le_of_ble_eq_true rfl)) (Nat.le_of_ble_eq_true rfl) (ch_rc0 (k := k) (b := 1) hcs (Nat.le_of_ble_eq_true rfl)) (ch_mono (ch_Ki (fun r2 m3 q4 => ?_)) (s_l_wouldLose g (fun (r_ : Int32) (m_ : ch_M) => ((0 ≤ ((ch_scr g).2.2 (Int32.toNatClampNeg (x5 + 1))) ∧ ((ch_scr g).2.2 (Int32.toNatClampNeg (x5 + 1))) < m (1, 0, 0) 8) ∧ 0 = r_ ∧ m_ = (ch_wr m (10, 0, 1) 0 (y_ofS (m (1, 0, 1)) ((ch_scr g).2.2 (Int32.toNatClampNeg (x5 + 1))) (m (1, 0, 3) (Int32.toNatClampNeg ((ch_scr g).2.2 (Int32.toNatClampNeg (x5 + 1))))) 12))) ∨ ((¬ (0 ≤ ((ch_scr g).2.2 (Int32.toNatClampNeg (x5 + 1))) ∧ ((ch_scr g).2.2 (Int32.toNatClampNeg (x5 + 1))) < m (1, 0, 0) 8)) ∧ 1 = r_ ∧ m = m_)) (((ch_scr g).2.2 (Int32.toNatClampNeg (x5 + 1)))) m ⟨b5, (fun c_ => (Or.inl ⟨c_, rfl, rfl⟩)), (fun c_ => (Or.inr ⟨c_, rfl, rfl⟩))⟩))
  rcases q4 with ⟨c_, rfl, hm_⟩ | ⟨c_, rfl, rfl⟩
  · replace h := h.1 c_ m3 hm_
    refine ch_istore (i := 6) d_l_law_1396 (Nat.le_of_ble_eq_true rfl) (ls' := [some (.inr (11, 0, 0)), some (.inr (0, 0, 0)), some (.inr (9, 0, 0)), some (.inr (10, 0, 1)), some (.inr (10, 0, 2)), some (.inl (.int x5)), some (.inl (.int 0)), o7, o8, o9]) rfl ?_
    refine ch_aload_n (i := 2) d_l_law_1398 rfl rfl ?_
    refine ch_aload_n (i := 0) d_l_law_1399 rfl rfl ?_
    refine ch_iload d_l_law_1400 rfl ?_
    refine ch_iconst (v := 1) d_l_law_1402 (by decide) ?_
    refine ch_iadd d_l_law_1403 ?_
    refine ch_sld d_l_law_1404 b1 ?_
    obtain ⟨Y_6, h⟩ := h
    have b10 := h.1
    replace h := h.2
    have b11 := h.1
    replace h := h.2
    have b12 := h.1
    replace h := h.2
    refine ch_callV (as := [.inl (.int ((ch_scr g).2.2 (Int32.toNatClampNeg (x5 + 1))))]) d_l_law_1405 lk_l_196 mi_m_wouldLose me_m_wouldLose rfl rfl rfl (ch_hR hR (Nat.le_of_ble_eq_true rfl)) (Nat.le_of_ble_eq_true rfl) (ch_rc1 (k := k) (a := 1) (b := 0) hcs (Nat.le_of_ble_eq_true rfl)) (ch_mono (ch_Ki (fun r7 m8 q9 => ?_)) (s_m_wouldLose g (fun (r_ : Int32) (m_ : ch_M) => ((0 ≤ ((ch_scr g).2.2 (Int32.toNatClampNeg (x5 + 1))) ∧ ((ch_scr g).2.2 (Int32.toNatClampNeg (x5 + 1))) < Y_6 0 8) ∧ (y_ofS (Y_6 1) ((ch_scr g).2.2 (Int32.toNatClampNeg (x5 + 1))) (Y_6 3 (Int32.toNatClampNeg ((ch_scr g).2.2 (Int32.toNatClampNeg (x5 + 1))))) 12) = r_ ∧ m_ = ch_wr m3 (9, 0, 0) 19 0) ∨ ((¬ (0 ≤ ((ch_scr g).2.2 (Int32.toNatClampNeg (x5 + 1))) ∧ ((ch_scr g).2.2 (Int32.toNatClampNeg (x5 + 1))) < Y_6 0 8)) ∧ 0 = r_ ∧ m_ = ch_wr m3 (9, 0, 0) 19 1)) (Y_6) (((ch_scr g).2.2 (Int32.toNatClampNeg (x5 + 1)))) m3 ⟨b10, b11, b12, (fun c_ => (Or.inl ⟨c_, rfl, rfl⟩)), (fun c_ => (Or.inr ⟨c_, rfl, rfl⟩))⟩))
    rcases q9 with ⟨c_, rfl, hm_⟩ | ⟨c_, rfl, hm_⟩
    · replace h := h.1 c_ m8 hm_
      refine ch_istore (i := 7) d_l_law_1408 (Nat.le_of_ble_eq_true rfl) (ls' := [some (.inr (11, 0, 0)), some (.inr (0, 0, 0)), some (.inr (9, 0, 0)), some (.inr (10, 0, 1)), some (.inr (10, 0, 2)), some (.inl (.int x5)), some (.inl (.int 0)), some (.inl (.int (y_ofS (Y_6 1) ((ch_scr g).2.2 (Int32.toNatClampNeg (x5 + 1))) (Y_6 3 (Int32.toNatClampNeg ((ch_scr g).2.2 (Int32.toNatClampNeg (x5 + 1))))) 12))), o8, o9]) rfl ?_
      refine ch_aload_n (i := 2) d_l_law_1410 rfl rfl ?_
      refine ch_callV (as := []) d_l_law_1411 lk_l_129 mi_m_thrown me_m_thrown rfl rfl rfl (ch_hR hR (Nat.le_of_ble_eq_true rfl)) (Nat.le_of_ble_eq_true rfl) (ch_rc1 (k := k) (a := 1) (b := 0) hcs (Nat.le_of_ble_eq_true rfl)) (ch_mono (ch_Ki (fun r13 m14 q15 => ?_)) (s_m_thrown g (fun (r_ : Int32) (m_ : ch_M) => ((m8 (9, 0, 0) 19) = r_ ∧ m8 = m_))  m8 ⟨rfl, rfl⟩))
      obtain ⟨rfl, rfl⟩ := q15
      replace h := h
      refine ch_iload d_l_law_1414 rfl ?_
      refine ch_icmp_eq (tgt := 1421) d_l_law_1416 (by decide) (fun c => ?_) (fun c => ?_)
      · replace h := h.1 c
        refine ch_iload d_l_law_1421 rfl ?_
        refine ch_if_ne (tgt := 1438) d_l_law_1423 (by decide) (fun c => absurd c (by decide)) (fun _ => ?_)
        refine ch_aload_n (i := 3) d_l_law_1426 rfl rfl ?_
        refine ch_iconst (v := 0) d_l_law_1427 (by decide) ?_
        refine ch_lald (n := 1) d_l_law_1428 (by decide) rfl (vp_in_nI (n := 0) (by decide) (by decide)) ?_
        refine ch_iload d_l_law_1429 rfl ?_
        refine ch_i2l d_l_law_1431 ?_
        refine ch_lcmp d_l_law_1432 ?_
        refine ch_if_eq (tgt := 1438) d_l_law_1433 (by decide) (fun c => ?_) (fun c => ?_)
        · replace h := h.1 c
          refine ch_goto (tgt := 2096) d_l_law_1438 (by decide) ?_
          exact h
        · replace h := h.2 c
          refine ch_iconst (v := 0) d_l_law_1436 (by decide) ?_
          exact h
      · replace h := h.2 c
        refine ch_iconst (v := 0) d_l_law_1419 (by decide) ?_
        exact h
    · replace h := h.2 c_ m8 hm_
      refine ch_istore (i := 7) d_l_law_1408 (Nat.le_of_ble_eq_true rfl) (ls' := [some (.inr (11, 0, 0)), some (.inr (0, 0, 0)), some (.inr (9, 0, 0)), some (.inr (10, 0, 1)), some (.inr (10, 0, 2)), some (.inl (.int x5)), some (.inl (.int 0)), some (.inl (.int 0)), o8, o9]) rfl ?_
      refine ch_aload_n (i := 2) d_l_law_1410 rfl rfl ?_
      refine ch_callV (as := []) d_l_law_1411 lk_l_129 mi_m_thrown me_m_thrown rfl rfl rfl (ch_hR hR (Nat.le_of_ble_eq_true rfl)) (Nat.le_of_ble_eq_true rfl) (ch_rc1 (k := k) (a := 1) (b := 0) hcs (Nat.le_of_ble_eq_true rfl)) (ch_mono (ch_Ki (fun r16 m17 q18 => ?_)) (s_m_thrown g (fun (r_ : Int32) (m_ : ch_M) => ((m8 (9, 0, 0) 19) = r_ ∧ m8 = m_))  m8 ⟨rfl, rfl⟩))
      obtain ⟨rfl, rfl⟩ := q18
      replace h := h
      refine ch_iload d_l_law_1414 rfl ?_
      refine ch_icmp_eq (tgt := 1421) d_l_law_1416 (by decide) (fun c => ?_) (fun c => ?_)
      · replace h := h.1 c
        refine ch_iload d_l_law_1421 rfl ?_
        refine ch_if_ne (tgt := 1438) d_l_law_1423 (by decide) (fun c => absurd c (by decide)) (fun _ => ?_)
        refine ch_aload_n (i := 3) d_l_law_1426 rfl rfl ?_
        refine ch_iconst (v := 0) d_l_law_1427 (by decide) ?_
        refine ch_lald (n := 1) d_l_law_1428 (by decide) rfl (vp_in_nI (n := 0) (by decide) (by decide)) ?_
        refine ch_iload d_l_law_1429 rfl ?_
        refine ch_i2l d_l_law_1431 ?_
        refine ch_lcmp d_l_law_1432 ?_
        refine ch_if_eq (tgt := 1438) d_l_law_1433 (by decide) (fun c => ?_) (fun c => ?_)
        · replace h := h.1 c
          refine ch_goto (tgt := 2096) d_l_law_1438 (by decide) ?_
          exact h
        · replace h := h.2 c
          refine ch_iconst (v := 0) d_l_law_1436 (by decide) ?_
          exact h
      · replace h := h.2 c
        refine ch_iconst (v := 0) d_l_law_1419 (by decide) ?_
        exact h
  · replace h := h.2 c_
    refine ch_istore (i := 6) d_l_law_1396 (Nat.le_of_ble_eq_true rfl) (ls' := [some (.inr (11, 0, 0)), some (.inr (0, 0, 0)), some (.inr (9, 0, 0)), some (.inr (10, 0, 1)), some (.inr (10, 0, 2)), some (.inl (.int x5)), some (.inl (.int 1)), o7, o8, o9]) rfl ?_
    refine ch_aload_n (i := 2) d_l_law_1398 rfl rfl ?_
    refine ch_aload_n (i := 0) d_l_law_1399 rfl rfl ?_
    refine ch_iload d_l_law_1400 rfl ?_
    refine ch_iconst (v := 1) d_l_law_1402 (by decide) ?_
    refine ch_iadd d_l_law_1403 ?_
    refine ch_sld d_l_law_1404 b1 ?_
    obtain ⟨Y_19, h⟩ := h
    have b23 := h.1
    replace h := h.2
    have b24 := h.1
    replace h := h.2
    have b25 := h.1
    replace h := h.2
    refine ch_callV (as := [.inl (.int ((ch_scr g).2.2 (Int32.toNatClampNeg (x5 + 1))))]) d_l_law_1405 lk_l_196 mi_m_wouldLose me_m_wouldLose rfl rfl rfl (ch_hR hR (Nat.le_of_ble_eq_true rfl)) (Nat.le_of_ble_eq_true rfl) (ch_rc1 (k := k) (a := 1) (b := 0) hcs (Nat.le_of_ble_eq_true rfl)) (ch_mono (ch_Ki (fun r20 m21 q22 => ?_)) (s_m_wouldLose g (fun (r_ : Int32) (m_ : ch_M) => ((0 ≤ ((ch_scr g).2.2 (Int32.toNatClampNeg (x5 + 1))) ∧ ((ch_scr g).2.2 (Int32.toNatClampNeg (x5 + 1))) < Y_19 0 8) ∧ (y_ofS (Y_19 1) ((ch_scr g).2.2 (Int32.toNatClampNeg (x5 + 1))) (Y_19 3 (Int32.toNatClampNeg ((ch_scr g).2.2 (Int32.toNatClampNeg (x5 + 1))))) 12) = r_ ∧ m_ = ch_wr m (9, 0, 0) 19 0) ∨ ((¬ (0 ≤ ((ch_scr g).2.2 (Int32.toNatClampNeg (x5 + 1))) ∧ ((ch_scr g).2.2 (Int32.toNatClampNeg (x5 + 1))) < Y_19 0 8)) ∧ 0 = r_ ∧ m_ = ch_wr m (9, 0, 0) 19 1)) (Y_19) (((ch_scr g).2.2 (Int32.toNatClampNeg (x5 + 1)))) m ⟨b23, b24, b25, (fun c_ => (Or.inl ⟨c_, rfl, rfl⟩)), (fun c_ => (Or.inr ⟨c_, rfl, rfl⟩))⟩))
    rcases q22 with ⟨c_, rfl, hm_⟩ | ⟨c_, rfl, hm_⟩
    · replace h := h.1 c_ m21 hm_
      refine ch_istore (i := 7) d_l_law_1408 (Nat.le_of_ble_eq_true rfl) (ls' := [some (.inr (11, 0, 0)), some (.inr (0, 0, 0)), some (.inr (9, 0, 0)), some (.inr (10, 0, 1)), some (.inr (10, 0, 2)), some (.inl (.int x5)), some (.inl (.int 1)), some (.inl (.int (y_ofS (Y_19 1) ((ch_scr g).2.2 (Int32.toNatClampNeg (x5 + 1))) (Y_19 3 (Int32.toNatClampNeg ((ch_scr g).2.2 (Int32.toNatClampNeg (x5 + 1))))) 12))), o8, o9]) rfl ?_
      refine ch_aload_n (i := 2) d_l_law_1410 rfl rfl ?_
      refine ch_callV (as := []) d_l_law_1411 lk_l_129 mi_m_thrown me_m_thrown rfl rfl rfl (ch_hR hR (Nat.le_of_ble_eq_true rfl)) (Nat.le_of_ble_eq_true rfl) (ch_rc1 (k := k) (a := 1) (b := 0) hcs (Nat.le_of_ble_eq_true rfl)) (ch_mono (ch_Ki (fun r26 m27 q28 => ?_)) (s_m_thrown g (fun (r_ : Int32) (m_ : ch_M) => ((m21 (9, 0, 0) 19) = r_ ∧ m21 = m_))  m21 ⟨rfl, rfl⟩))
      obtain ⟨rfl, rfl⟩ := q28
      replace h := h
      refine ch_iload d_l_law_1414 rfl ?_
      refine ch_icmp_eq (tgt := 1421) d_l_law_1416 (by decide) (fun c => ?_) (fun c => ?_)
      · replace h := h.1 c
        refine ch_iload d_l_law_1421 rfl ?_
        refine ch_if_ne (tgt := 1438) d_l_law_1423 (by decide) (fun _ => ?_) (fun c => absurd c (by decide))
        refine ch_goto (tgt := 2096) d_l_law_1438 (by decide) ?_
        exact h
      · replace h := h.2 c
        refine ch_iconst (v := 0) d_l_law_1419 (by decide) ?_
        exact h
    · replace h := h.2 c_ m21 hm_
      refine ch_istore (i := 7) d_l_law_1408 (Nat.le_of_ble_eq_true rfl) (ls' := [some (.inr (11, 0, 0)), some (.inr (0, 0, 0)), some (.inr (9, 0, 0)), some (.inr (10, 0, 1)), some (.inr (10, 0, 2)), some (.inl (.int x5)), some (.inl (.int 1)), some (.inl (.int 0)), o8, o9]) rfl ?_
      refine ch_aload_n (i := 2) d_l_law_1410 rfl rfl ?_
      refine ch_callV (as := []) d_l_law_1411 lk_l_129 mi_m_thrown me_m_thrown rfl rfl rfl (ch_hR hR (Nat.le_of_ble_eq_true rfl)) (Nat.le_of_ble_eq_true rfl) (ch_rc1 (k := k) (a := 1) (b := 0) hcs (Nat.le_of_ble_eq_true rfl)) (ch_mono (ch_Ki (fun r29 m30 q31 => ?_)) (s_m_thrown g (fun (r_ : Int32) (m_ : ch_M) => ((m21 (9, 0, 0) 19) = r_ ∧ m21 = m_))  m21 ⟨rfl, rfl⟩))
      obtain ⟨rfl, rfl⟩ := q31
      replace h := h
      refine ch_iload d_l_law_1414 rfl ?_
      refine ch_icmp_eq (tgt := 1421) d_l_law_1416 (by decide) (fun c => ?_) (fun c => ?_)
      · replace h := h.1 c
        refine ch_iload d_l_law_1421 rfl ?_
        refine ch_if_ne (tgt := 1438) d_l_law_1423 (by decide) (fun _ => ?_) (fun c => absurd c (by decide))
        refine ch_goto (tgt := 2096) d_l_law_1438 (by decide) ?_
        exact h
      · replace h := h.2 c
        refine ch_iconst (v := 0) d_l_law_1419 (by decide) ?_
        exact h
set_option maxHeartbeats 1600000 in
theorem g_l_law_1441 (g : ch_G) (R : Room) (E : ch_En) (k : Nat) (hR : ch_RR R 18) (hcs : k + 40 ≤ R.cells ∧ 6 * k + 240 ≤ R.slots) (x5 : Int32) (o6 : Option ch_V) (o7 : Option ch_V) (o8 : Option ch_V) (o9 : Option ch_V) (m : ch_M) (h : (vp_in (x5 + 1) (ch_scr g).2.1) ∧ (vp_in (m (1, 0, 0) 8) 6) ∧ ((((0 ≤ ((ch_scr g).2.2 (Int32.toNatClampNeg (x5 + 1))) ∧ ((ch_scr g).2.2 (Int32.toNatClampNeg (x5 + 1))) < m (1, 0, 0) 8) ∧ ¬ (x_tt ((ch_scr g).2.2 (Int32.toNatClampNeg (x5 + 1))) 40 1 (y_cp (ch_ob m 1 0) (ch_ob m 1 2))).1 = 0) → (∀ m3 : ch_M, m3 = (ch_wr (ch_os m 1 2 ((x_tt ((ch_scr g).2.2 (Int32.toNatClampNeg (x5 + 1))) 40 1 (y_cp (ch_ob m 1 0) (ch_ob m 1 2))).2)) (10, 0, 1) 0 ((x_tt ((ch_scr g).2.2 (Int32.toNatClampNeg (x5 + 1))) 40 1 (y_cp (ch_ob m 1 0) (ch_ob m 1 2))).1)) → (∃ T_6 : Nat, (∃ Y_7 : ch_B, (m_rel Y_7 (m3 (9, 0, 1))) ∧ (y_inv T_6 Y_7) ∧ (T_6 < 2 ^ 31) ∧ ((((0 ≤ ((ch_scr g).2.2 (Int32.toNatClampNeg (x5 + 1))) ∧ ((ch_scr g).2.2 (Int32.toNatClampNeg (x5 + 1))) < Y_7 0 8) ∧ ¬ (x_tt ((ch_scr g).2.2 (Int32.toNatClampNeg (x5 + 1))) 40 1 Y_7).1 = 0) → (∀ (B8 : ch_B), (∀ i_, i_ < 63 → B8 1 i_ = ch_ob m3 9 0 1 i_) → (∀ a_ i_, a_ ≠ 1 → a_ ≠ 3 → ¬ (a_ = 0 ∧ i_ = 19) → B8 a_ i_ = ch_ob m3 9 0 a_ i_) → (B8 0 19 = 0) → (∀ m11 : ch_M, m11 = ch_os m3 9 0 B8 → ((((m11 (9, 0, 0) 19) = 0 → (((lg_cmp ((m11 (10, 0, 1) (0))).toInt64 (((x_tt ((ch_scr g).2.2 (Int32.toNatClampNeg (x5 + 1))) 40 1 Y_7).1)).toInt64) = 0 → ch_J g m_l_law R E 2096 [some (.inr (11, 0, 0)), some (.inr (0, 0, 0)), some (.inr (9, 0, 0)), some (.inr (10, 0, 1)), some (.inr (10, 0, 2)), some (.inl (.int x5)), some (.inl (.int 0)), some (.inl (.int ((x_tt ((ch_scr g).2.2 (Int32.toNatClampNeg (x5 + 1))) 40 1 Y_7).1))), o8, o9] [] m11 (k + 2)) ∧ (¬ (lg_cmp ((m11 (10, 0, 1) (0))).toInt64 (((x_tt ((ch_scr g).2.2 (Int32.toNatClampNeg (x5 + 1))) 40 1 Y_7).1)).toInt64) = 0 → ch_J g m_l_law R E 1493 [some (.inr (11, 0, 0)), some (.inr (0, 0, 0)), some (.inr (9, 0, 0)), some (.inr (10, 0, 1)), some (.inr (10, 0, 2)), some (.inl (.int x5)), some (.inl (.int 0)), some (.inl (.int ((x_tt ((ch_scr g).2.2 (Int32.toNatClampNeg (x5 + 1))) 40 1 Y_7).1))), o8, o9] [.inl (.int 0)] m11 (k + 2)))) ∧ (¬ (m11 (9, 0, 0) 19) = 0 → ch_J g m_l_law R E 1476 [some (.inr (11, 0, 0)), some (.inr (0, 0, 0)), some (.inr (9, 0, 0)), some (.inr (10, 0, 1)), some (.inr (10, 0, 2)), some (.inl (.int x5)), some (.inl (.int 0)), some (.inl (.int ((x_tt ((ch_scr g).2.2 (Int32.toNatClampNeg (x5 + 1))) 40 1 Y_7).1))), o8, o9] [.inl (.int 0)] m11 (k + 2))))))) ∧ ((¬ (0 ≤ ((ch_scr g).2.2 (Int32.toNatClampNeg (x5 + 1))) ∧ ((ch_scr g).2.2 (Int32.toNatClampNeg (x5 + 1))) < Y_7 0 8)) → (∀ m11 : ch_M, m11 = ch_wr m3 (9, 0, 0) 19 1 → ((((m11 (9, 0, 0) 19) = 0 → (((lg_cmp ((m11 (10, 0, 1) (0))).toInt64 (0).toInt64) = 0 → ch_J g m_l_law R E 2096 [some (.inr (11, 0, 0)), some (.inr (0, 0, 0)), some (.inr (9, 0, 0)), some (.inr (10, 0, 1)), some (.inr (10, 0, 2)), some (.inl (.int x5)), some (.inl (.int 0)), some (.inl (.int 0)), o8, o9] [] m11 (k + 2)) ∧ (¬ (lg_cmp ((m11 (10, 0, 1) (0))).toInt64 (0).toInt64) = 0 → ch_J g m_l_law R E 1493 [some (.inr (11, 0, 0)), some (.inr (0, 0, 0)), some (.inr (9, 0, 0)), some (.inr (10, 0, 1)), some (.inr (10, 0, 2)), some (.inl (.int x5)), some (.inl (.int 0)), some (.inl (.int 0)), o8, o9] [.inl (.int 0)] m11 (k + 2)))) ∧ (¬ (m11 (9, 0, 0) 19) = 0 → ch_J g m_l_law R E 1476 [some (.inr (11, 0, 0)), some (.inr (0, 0, 0)), some (.inr (9, 0, 0)), some (.inr (10, 0, 1)), some (.inr (10, 0, 2)), some (.inl (.int x5)), some (.inl (.int 0)), some (.inl (.int 0)), o8, o9] [.inl (.int 0)] m11 (k + 2)))))) ∧ (((0 ≤ ((ch_scr g).2.2 (Int32.toNatClampNeg (x5 + 1))) ∧ ((ch_scr g).2.2 (Int32.toNatClampNeg (x5 + 1))) < Y_7 0 8) ∧ (x_tt ((ch_scr g).2.2 (Int32.toNatClampNeg (x5 + 1))) 40 1 Y_7).1 = 0) → (∀ (B9 : ch_B), (∀ i_, i_ < 63 → B9 1 i_ = ch_ob m3 9 0 1 i_) → (∀ a_ i_, a_ ≠ 1 → a_ ≠ 3 → ¬ (a_ = 0 ∧ i_ = 19) → B9 a_ i_ = ch_ob m3 9 0 a_ i_) → (B9 0 19 = 2) → (∀ m11 : ch_M, m11 = ch_os m3 9 0 B9 → ((((m11 (9, 0, 0) 19) = 0 → (((lg_cmp ((m11 (10, 0, 1) (0))).toInt64 (0).toInt64) = 0 → ch_J g m_l_law R E 2096 [some (.inr (11, 0, 0)), some (.inr (0, 0, 0)), some (.inr (9, 0, 0)), some (.inr (10, 0, 1)), some (.inr (10, 0, 2)), some (.inl (.int x5)), some (.inl (.int 0)), some (.inl (.int 0)), o8, o9] [] m11 (k + 2)) ∧ (¬ (lg_cmp ((m11 (10, 0, 1) (0))).toInt64 (0).toInt64) = 0 → ch_J g m_l_law R E 1493 [some (.inr (11, 0, 0)), some (.inr (0, 0, 0)), some (.inr (9, 0, 0)), some (.inr (10, 0, 1)), some (.inr (10, 0, 2)), some (.inl (.int x5)), some (.inl (.int 0)), some (.inl (.int 0)), o8, o9] [.inl (.int 0)] m11 (k + 2)))) ∧ (¬ (m11 (9, 0, 0) 19) = 0 → ch_J g m_l_law R E 1476 [some (.inr (11, 0, 0)), some (.inr (0, 0, 0)), some (.inr (9, 0, 0)), some (.inr (10, 0, 1)), some (.inr (10, 0, 2)), some (.inl (.int x5)), some (.inl (.int 0)), some (.inl (.int 0)), o8, o9] [.inl (.int 0)] m11 (k + 2)))))))))))) ∧ ((¬ (0 ≤ ((ch_scr g).2.2 (Int32.toNatClampNeg (x5 + 1))) ∧ ((ch_scr g).2.2 (Int32.toNatClampNeg (x5 + 1))) < m (1, 0, 0) 8)) → (∃ T_25 : Nat, (∃ Y_26 : ch_B, (m_rel Y_26 (m (9, 0, 1))) ∧ (y_inv T_25 Y_26) ∧ (T_25 < 2 ^ 31) ∧ ((((0 ≤ ((ch_scr g).2.2 (Int32.toNatClampNeg (x5 + 1))) ∧ ((ch_scr g).2.2 (Int32.toNatClampNeg (x5 + 1))) < Y_26 0 8) ∧ ¬ (x_tt ((ch_scr g).2.2 (Int32.toNatClampNeg (x5 + 1))) 40 1 Y_26).1 = 0) → (∀ (B27 : ch_B), (∀ i_, i_ < 63 → B27 1 i_ = ch_ob m 9 0 1 i_) → (∀ a_ i_, a_ ≠ 1 → a_ ≠ 3 → ¬ (a_ = 0 ∧ i_ = 19) → B27 a_ i_ = ch_ob m 9 0 a_ i_) → (B27 0 19 = 0) → (∀ m30 : ch_M, m30 = ch_os m 9 0 B27 → ((((m30 (9, 0, 0) 19) = 1 → ch_J g m_l_law R E 2096 [some (.inr (11, 0, 0)), some (.inr (0, 0, 0)), some (.inr (9, 0, 0)), some (.inr (10, 0, 1)), some (.inr (10, 0, 2)), some (.inl (.int x5)), some (.inl (.int 1)), some (.inl (.int ((x_tt ((ch_scr g).2.2 (Int32.toNatClampNeg (x5 + 1))) 40 1 Y_26).1))), o8, o9] [] m30 (k + 2)) ∧ (¬ (m30 (9, 0, 0) 19) = 1 → ch_J g m_l_law R E 1476 [some (.inr (11, 0, 0)), some (.inr (0, 0, 0)), some (.inr (9, 0, 0)), some (.inr (10, 0, 1)), some (.inr (10, 0, 2)), some (.inl (.int x5)), some (.inl (.int 1)), some (.inl (.int ((x_tt ((ch_scr g).2.2 (Int32.toNatClampNeg (x5 + 1))) 40 1 Y_26).1))), o8, o9] [.inl (.int 0)] m30 (k + 2))))))) ∧ ((¬ (0 ≤ ((ch_scr g).2.2 (Int32.toNatClampNeg (x5 + 1))) ∧ ((ch_scr g).2.2 (Int32.toNatClampNeg (x5 + 1))) < Y_26 0 8)) → (∀ m30 : ch_M, m30 = ch_wr m (9, 0, 0) 19 1 → ((((m30 (9, 0, 0) 19) = 1 → ch_J g m_l_law R E 2096 [some (.inr (11, 0, 0)), some (.inr (0, 0, 0)), some (.inr (9, 0, 0)), some (.inr (10, 0, 1)), some (.inr (10, 0, 2)), some (.inl (.int x5)), some (.inl (.int 1)), some (.inl (.int 0)), o8, o9] [] m30 (k + 2)) ∧ (¬ (m30 (9, 0, 0) 19) = 1 → ch_J g m_l_law R E 1476 [some (.inr (11, 0, 0)), some (.inr (0, 0, 0)), some (.inr (9, 0, 0)), some (.inr (10, 0, 1)), some (.inr (10, 0, 2)), some (.inl (.int x5)), some (.inl (.int 1)), some (.inl (.int 0)), o8, o9] [.inl (.int 0)] m30 (k + 2)))))) ∧ (((0 ≤ ((ch_scr g).2.2 (Int32.toNatClampNeg (x5 + 1))) ∧ ((ch_scr g).2.2 (Int32.toNatClampNeg (x5 + 1))) < Y_26 0 8) ∧ (x_tt ((ch_scr g).2.2 (Int32.toNatClampNeg (x5 + 1))) 40 1 Y_26).1 = 0) → (∀ (B28 : ch_B), (∀ i_, i_ < 63 → B28 1 i_ = ch_ob m 9 0 1 i_) → (∀ a_ i_, a_ ≠ 1 → a_ ≠ 3 → ¬ (a_ = 0 ∧ i_ = 19) → B28 a_ i_ = ch_ob m 9 0 a_ i_) → (B28 0 19 = 2) → (∀ m30 : ch_M, m30 = ch_os m 9 0 B28 → ((((m30 (9, 0, 0) 19) = 1 → ch_J g m_l_law R E 2096 [some (.inr (11, 0, 0)), some (.inr (0, 0, 0)), some (.inr (9, 0, 0)), some (.inr (10, 0, 1)), some (.inr (10, 0, 2)), some (.inl (.int x5)), some (.inl (.int 1)), some (.inl (.int 0)), o8, o9] [] m30 (k + 2)) ∧ (¬ (m30 (9, 0, 0) 19) = 1 → ch_J g m_l_law R E 1476 [some (.inr (11, 0, 0)), some (.inr (0, 0, 0)), some (.inr (9, 0, 0)), some (.inr (10, 0, 1)), some (.inr (10, 0, 2)), some (.inl (.int x5)), some (.inl (.int 1)), some (.inl (.int 0)), o8, o9] [.inl (.int 0)] m30 (k + 2))))))))))) ∧ (((0 ≤ ((ch_scr g).2.2 (Int32.toNatClampNeg (x5 + 1))) ∧ ((ch_scr g).2.2 (Int32.toNatClampNeg (x5 + 1))) < m (1, 0, 0) 8) ∧ (x_tt ((ch_scr g).2.2 (Int32.toNatClampNeg (x5 + 1))) 40 1 (y_cp (ch_ob m 1 0) (ch_ob m 1 2))).1 = 0) → (∀ m3 : ch_M, m3 = ch_os m 1 2 ((x_tt ((ch_scr g).2.2 (Int32.toNatClampNeg (x5 + 1))) 40 1 (y_cp (ch_ob m 1 0) (ch_ob m 1 2))).2) → (∃ T_44 : Nat, (∃ Y_45 : ch_B, (m_rel Y_45 (m3 (9, 0, 1))) ∧ (y_inv T_44 Y_45) ∧ (T_44 < 2 ^ 31) ∧ ((((0 ≤ ((ch_scr g).2.2 (Int32.toNatClampNeg (x5 + 1))) ∧ ((ch_scr g).2.2 (Int32.toNatClampNeg (x5 + 1))) < Y_45 0 8) ∧ ¬ (x_tt ((ch_scr g).2.2 (Int32.toNatClampNeg (x5 + 1))) 40 1 Y_45).1 = 0) → (∀ (B46 : ch_B), (∀ i_, i_ < 63 → B46 1 i_ = ch_ob m3 9 0 1 i_) → (∀ a_ i_, a_ ≠ 1 → a_ ≠ 3 → ¬ (a_ = 0 ∧ i_ = 19) → B46 a_ i_ = ch_ob m3 9 0 a_ i_) → (B46 0 19 = 0) → (∀ m49 : ch_M, m49 = ch_os m3 9 0 B46 → ((((m49 (9, 0, 0) 19) = 2 → ch_J g m_l_law R E 2096 [some (.inr (11, 0, 0)), some (.inr (0, 0, 0)), some (.inr (9, 0, 0)), some (.inr (10, 0, 1)), some (.inr (10, 0, 2)), some (.inl (.int x5)), some (.inl (.int 2)), some (.inl (.int ((x_tt ((ch_scr g).2.2 (Int32.toNatClampNeg (x5 + 1))) 40 1 Y_45).1))), o8, o9] [] m49 (k + 2)) ∧ (¬ (m49 (9, 0, 0) 19) = 2 → ch_J g m_l_law R E 1476 [some (.inr (11, 0, 0)), some (.inr (0, 0, 0)), some (.inr (9, 0, 0)), some (.inr (10, 0, 1)), some (.inr (10, 0, 2)), some (.inl (.int x5)), some (.inl (.int 2)), some (.inl (.int ((x_tt ((ch_scr g).2.2 (Int32.toNatClampNeg (x5 + 1))) 40 1 Y_45).1))), o8, o9] [.inl (.int 0)] m49 (k + 2))))))) ∧ ((¬ (0 ≤ ((ch_scr g).2.2 (Int32.toNatClampNeg (x5 + 1))) ∧ ((ch_scr g).2.2 (Int32.toNatClampNeg (x5 + 1))) < Y_45 0 8)) → (∀ m49 : ch_M, m49 = ch_wr m3 (9, 0, 0) 19 1 → ((((m49 (9, 0, 0) 19) = 2 → ch_J g m_l_law R E 2096 [some (.inr (11, 0, 0)), some (.inr (0, 0, 0)), some (.inr (9, 0, 0)), some (.inr (10, 0, 1)), some (.inr (10, 0, 2)), some (.inl (.int x5)), some (.inl (.int 2)), some (.inl (.int 0)), o8, o9] [] m49 (k + 2)) ∧ (¬ (m49 (9, 0, 0) 19) = 2 → ch_J g m_l_law R E 1476 [some (.inr (11, 0, 0)), some (.inr (0, 0, 0)), some (.inr (9, 0, 0)), some (.inr (10, 0, 1)), some (.inr (10, 0, 2)), some (.inl (.int x5)), some (.inl (.int 2)), some (.inl (.int 0)), o8, o9] [.inl (.int 0)] m49 (k + 2)))))) ∧ (((0 ≤ ((ch_scr g).2.2 (Int32.toNatClampNeg (x5 + 1))) ∧ ((ch_scr g).2.2 (Int32.toNatClampNeg (x5 + 1))) < Y_45 0 8) ∧ (x_tt ((ch_scr g).2.2 (Int32.toNatClampNeg (x5 + 1))) 40 1 Y_45).1 = 0) → (∀ (B47 : ch_B), (∀ i_, i_ < 63 → B47 1 i_ = ch_ob m3 9 0 1 i_) → (∀ a_ i_, a_ ≠ 1 → a_ ≠ 3 → ¬ (a_ = 0 ∧ i_ = 19) → B47 a_ i_ = ch_ob m3 9 0 a_ i_) → (B47 0 19 = 2) → (∀ m49 : ch_M, m49 = ch_os m3 9 0 B47 → ((((m49 (9, 0, 0) 19) = 2 → ch_J g m_l_law R E 2096 [some (.inr (11, 0, 0)), some (.inr (0, 0, 0)), some (.inr (9, 0, 0)), some (.inr (10, 0, 1)), some (.inr (10, 0, 2)), some (.inl (.int x5)), some (.inl (.int 2)), some (.inl (.int 0)), o8, o9] [] m49 (k + 2)) ∧ (¬ (m49 (9, 0, 0) 19) = 2 → ch_J g m_l_law R E 1476 [some (.inr (11, 0, 0)), some (.inr (0, 0, 0)), some (.inr (9, 0, 0)), some (.inr (10, 0, 1)), some (.inr (10, 0, 2)), some (.inl (.int x5)), some (.inl (.int 2)), some (.inl (.int 0)), o8, o9] [.inl (.int 0)] m49 (k + 2)))))))))))))) : ch_J g m_l_law R E 1441 [some (.inr (11, 0, 0)), some (.inr (0, 0, 0)), some (.inr (9, 0, 0)), some (.inr (10, 0, 1)), some (.inr (10, 0, 2)), some (.inl (.int x5)), o6, o7, o8, o9] [] m k := by
  refine ch_aload_n (i := 1) d_l_law_1441 rfl rfl ?_
  refine ch_aload_n (i := 0) d_l_law_1442 rfl rfl ?_
  refine ch_iload d_l_law_1443 rfl ?_
  refine ch_iconst (v := 1) d_l_law_1445 (by decide) ?_
  refine ch_iadd d_l_law_1446 ?_
  have b1 := h.1
  replace h := h.2
  refine ch_sld d_l_law_1447 b1 ?_
  refine ch_aload_n (i := 3) d_l_law_1448 rfl rfl ?_
  have b5 := h.1
  replace h := h.2
  refine ch_callSX (as := [.inr (0, 0, 0), .inl (.int ((ch_scr g).2.2 (Int32.toNatClampNeg (x5 + 1)))), .inr (10, 0, 1)]) d_l_law_1449 lk_l_197 ms_l_termsFor rfl rfl (ch_hR hR (Nat.le_of_ble_eq_true rfl)) (Nat.le_of_ble_eq_true rfl) (ch_rc0 (k := k) (b := 2) hcs (Nat.le_of_ble_eq_true rfl)) (ch_mono (ch_Ki (fun r2 m3 q4 => ?_)) (s_l_termsFor g (fun (r_ : Int32) (m_ : ch_M) => (((0 ≤ ((ch_scr g).2.2 (Int32.toNatClampNeg (x5 + 1))) ∧ ((ch_scr g).2.2 (Int32.toNatClampNeg (x5 + 1))) < m (1, 0, 0) 8) ∧ ¬ (x_tt ((ch_scr g).2.2 (Int32.toNatClampNeg (x5 + 1))) 40 1 (y_cp (ch_ob m 1 0) (ch_ob m 1 2))).1 = 0) ∧ 0 = r_ ∧ m_ = (ch_wr (ch_os m 1 2 ((x_tt ((ch_scr g).2.2 (Int32.toNatClampNeg (x5 + 1))) 40 1 (y_cp (ch_ob m 1 0) (ch_ob m 1 2))).2)) (10, 0, 1) 0 ((x_tt ((ch_scr g).2.2 (Int32.toNatClampNeg (x5 + 1))) 40 1 (y_cp (ch_ob m 1 0) (ch_ob m 1 2))).1))) ∨ ((¬ (0 ≤ ((ch_scr g).2.2 (Int32.toNatClampNeg (x5 + 1))) ∧ ((ch_scr g).2.2 (Int32.toNatClampNeg (x5 + 1))) < m (1, 0, 0) 8)) ∧ 1 = r_ ∧ m = m_) ∨ (((0 ≤ ((ch_scr g).2.2 (Int32.toNatClampNeg (x5 + 1))) ∧ ((ch_scr g).2.2 (Int32.toNatClampNeg (x5 + 1))) < m (1, 0, 0) 8) ∧ (x_tt ((ch_scr g).2.2 (Int32.toNatClampNeg (x5 + 1))) 40 1 (y_cp (ch_ob m 1 0) (ch_ob m 1 2))).1 = 0) ∧ 2 = r_ ∧ m_ = ch_os m 1 2 ((x_tt ((ch_scr g).2.2 (Int32.toNatClampNeg (x5 + 1))) 40 1 (y_cp (ch_ob m 1 0) (ch_ob m 1 2))).2))) (((ch_scr g).2.2 (Int32.toNatClampNeg (x5 + 1)))) m ⟨b5, (fun c_ => (Or.inl ⟨c_, rfl, rfl⟩)), (fun c_ => (Or.inr (Or.inl ⟨c_, rfl, rfl⟩))), (fun c_ => (Or.inr (Or.inr ⟨c_, rfl, rfl⟩)))⟩))
  rcases q4 with ⟨c_, rfl, hm_⟩ | ⟨c_, rfl, rfl⟩ | ⟨c_, rfl, hm_⟩
  · replace h := h.1 c_ m3 hm_
    refine ch_istore (i := 6) d_l_law_1452 (Nat.le_of_ble_eq_true rfl) (ls' := [some (.inr (11, 0, 0)), some (.inr (0, 0, 0)), some (.inr (9, 0, 0)), some (.inr (10, 0, 1)), some (.inr (10, 0, 2)), some (.inl (.int x5)), some (.inl (.int 0)), o7, o8, o9]) rfl ?_
    refine ch_aload_n (i := 2) d_l_law_1454 rfl rfl ?_
    refine ch_aload_n (i := 0) d_l_law_1455 rfl rfl ?_
    refine ch_iload d_l_law_1456 rfl ?_
    refine ch_iconst (v := 1) d_l_law_1458 (by decide) ?_
    refine ch_iadd d_l_law_1459 ?_
    refine ch_sld d_l_law_1460 b1 ?_
    obtain ⟨T_6, h⟩ := h
    obtain ⟨Y_7, h⟩ := h
    have b13 := h.1
    replace h := h.2
    have b14 := h.1
    replace h := h.2
    have b15 := h.1
    replace h := h.2
    refine ch_callV (as := [.inl (.int ((ch_scr g).2.2 (Int32.toNatClampNeg (x5 + 1))))]) d_l_law_1461 lk_l_199 mi_m_termsFor me_m_termsFor rfl rfl rfl (ch_hR hR (Nat.le_of_ble_eq_true rfl)) (Nat.le_of_ble_eq_true rfl) (ch_rc1 (k := k) (a := 2) (b := 0) hcs (Nat.le_of_ble_eq_true rfl)) (ch_mono (ch_Ki (fun r10 m11 q12 => ?_)) (s_m_termsFor g (fun (r_ : Int32) (m_ : ch_M) => (∃ (B8 : ch_B), ((0 ≤ ((ch_scr g).2.2 (Int32.toNatClampNeg (x5 + 1))) ∧ ((ch_scr g).2.2 (Int32.toNatClampNeg (x5 + 1))) < Y_7 0 8) ∧ ¬ (x_tt ((ch_scr g).2.2 (Int32.toNatClampNeg (x5 + 1))) 40 1 Y_7).1 = 0) ∧ ((x_tt ((ch_scr g).2.2 (Int32.toNatClampNeg (x5 + 1))) 40 1 Y_7).1) = r_ ∧ (∀ i_, i_ < 63 → B8 1 i_ = ch_ob m3 9 0 1 i_) ∧ (∀ a_ i_, a_ ≠ 1 → a_ ≠ 3 → ¬ (a_ = 0 ∧ i_ = 19) → B8 a_ i_ = ch_ob m3 9 0 a_ i_) ∧ (B8 0 19 = 0) ∧ m_ = ch_os m3 9 0 B8) ∨ ((¬ (0 ≤ ((ch_scr g).2.2 (Int32.toNatClampNeg (x5 + 1))) ∧ ((ch_scr g).2.2 (Int32.toNatClampNeg (x5 + 1))) < Y_7 0 8)) ∧ 0 = r_ ∧ m_ = ch_wr m3 (9, 0, 0) 19 1) ∨ (∃ (B9 : ch_B), ((0 ≤ ((ch_scr g).2.2 (Int32.toNatClampNeg (x5 + 1))) ∧ ((ch_scr g).2.2 (Int32.toNatClampNeg (x5 + 1))) < Y_7 0 8) ∧ (x_tt ((ch_scr g).2.2 (Int32.toNatClampNeg (x5 + 1))) 40 1 Y_7).1 = 0) ∧ 0 = r_ ∧ (∀ i_, i_ < 63 → B9 1 i_ = ch_ob m3 9 0 1 i_) ∧ (∀ a_ i_, a_ ≠ 1 → a_ ≠ 3 → ¬ (a_ = 0 ∧ i_ = 19) → B9 a_ i_ = ch_ob m3 9 0 a_ i_) ∧ (B9 0 19 = 2) ∧ m_ = ch_os m3 9 0 B9)) (T_6) (Y_7) (((ch_scr g).2.2 (Int32.toNatClampNeg (x5 + 1)))) m3 ⟨b13, b14, b15, (fun c_ B8 f0_ f1_ f2_ => (Or.inl ⟨B8, c_, rfl, f0_, f1_, f2_, rfl⟩)), (fun c_ => (Or.inr (Or.inl ⟨c_, rfl, rfl⟩))), (fun c_ B9 f0_ f1_ f2_ => (Or.inr (Or.inr ⟨B9, c_, rfl, f0_, f1_, f2_, rfl⟩)))⟩))
    rcases q12 with ⟨B8, c_, rfl, f0_, f1_, f2_, hm_⟩ | ⟨c_, rfl, hm_⟩ | ⟨B9, c_, rfl, f0_, f1_, f2_, hm_⟩
    · replace h := h.1 c_ B8 f0_ f1_ f2_ m11 hm_
      refine ch_istore (i := 7) d_l_law_1464 (Nat.le_of_ble_eq_true rfl) (ls' := [some (.inr (11, 0, 0)), some (.inr (0, 0, 0)), some (.inr (9, 0, 0)), some (.inr (10, 0, 1)), some (.inr (10, 0, 2)), some (.inl (.int x5)), some (.inl (.int 0)), some (.inl (.int ((x_tt ((ch_scr g).2.2 (Int32.toNatClampNeg (x5 + 1))) 40 1 Y_7).1))), o8, o9]) rfl ?_
      refine ch_aload_n (i := 2) d_l_law_1466 rfl rfl ?_
      refine ch_callV (as := []) d_l_law_1467 lk_l_129 mi_m_thrown me_m_thrown rfl rfl rfl (ch_hR hR (Nat.le_of_ble_eq_true rfl)) (Nat.le_of_ble_eq_true rfl) (ch_rc1 (k := k) (a := 2) (b := 0) hcs (Nat.le_of_ble_eq_true rfl)) (ch_mono (ch_Ki (fun r16 m17 q18 => ?_)) (s_m_thrown g (fun (r_ : Int32) (m_ : ch_M) => ((m11 (9, 0, 0) 19) = r_ ∧ m11 = m_))  m11 ⟨rfl, rfl⟩))
      obtain ⟨rfl, rfl⟩ := q18
      replace h := h
      refine ch_iload d_l_law_1470 rfl ?_
      refine ch_icmp_eq (tgt := 1477) d_l_law_1472 (by decide) (fun c => ?_) (fun c => ?_)
      · replace h := h.1 c
        refine ch_iload d_l_law_1477 rfl ?_
        refine ch_if_ne (tgt := 1494) d_l_law_1479 (by decide) (fun c => absurd c (by decide)) (fun _ => ?_)
        refine ch_aload_n (i := 3) d_l_law_1482 rfl rfl ?_
        refine ch_iconst (v := 0) d_l_law_1483 (by decide) ?_
        refine ch_lald (n := 1) d_l_law_1484 (by decide) rfl (vp_in_nI (n := 0) (by decide) (by decide)) ?_
        refine ch_iload d_l_law_1485 rfl ?_
        refine ch_i2l d_l_law_1487 ?_
        refine ch_lcmp d_l_law_1488 ?_
        refine ch_if_eq (tgt := 1494) d_l_law_1489 (by decide) (fun c => ?_) (fun c => ?_)
        · replace h := h.1 c
          refine ch_goto (tgt := 2096) d_l_law_1494 (by decide) ?_
          exact h
        · replace h := h.2 c
          refine ch_iconst (v := 0) d_l_law_1492 (by decide) ?_
          exact h
      · replace h := h.2 c
        refine ch_iconst (v := 0) d_l_law_1475 (by decide) ?_
        exact h
    · replace h := h.2.1 c_ m11 hm_
      refine ch_istore (i := 7) d_l_law_1464 (Nat.le_of_ble_eq_true rfl) (ls' := [some (.inr (11, 0, 0)), some (.inr (0, 0, 0)), some (.inr (9, 0, 0)), some (.inr (10, 0, 1)), some (.inr (10, 0, 2)), some (.inl (.int x5)), some (.inl (.int 0)), some (.inl (.int 0)), o8, o9]) rfl ?_
      refine ch_aload_n (i := 2) d_l_law_1466 rfl rfl ?_
      refine ch_callV (as := []) d_l_law_1467 lk_l_129 mi_m_thrown me_m_thrown rfl rfl rfl (ch_hR hR (Nat.le_of_ble_eq_true rfl)) (Nat.le_of_ble_eq_true rfl) (ch_rc1 (k := k) (a := 2) (b := 0) hcs (Nat.le_of_ble_eq_true rfl)) (ch_mono (ch_Ki (fun r19 m20 q21 => ?_)) (s_m_thrown g (fun (r_ : Int32) (m_ : ch_M) => ((m11 (9, 0, 0) 19) = r_ ∧ m11 = m_))  m11 ⟨rfl, rfl⟩))
      obtain ⟨rfl, rfl⟩ := q21
      replace h := h
      refine ch_iload d_l_law_1470 rfl ?_
      refine ch_icmp_eq (tgt := 1477) d_l_law_1472 (by decide) (fun c => ?_) (fun c => ?_)
      · replace h := h.1 c
        refine ch_iload d_l_law_1477 rfl ?_
        refine ch_if_ne (tgt := 1494) d_l_law_1479 (by decide) (fun c => absurd c (by decide)) (fun _ => ?_)
        refine ch_aload_n (i := 3) d_l_law_1482 rfl rfl ?_
        refine ch_iconst (v := 0) d_l_law_1483 (by decide) ?_
        refine ch_lald (n := 1) d_l_law_1484 (by decide) rfl (vp_in_nI (n := 0) (by decide) (by decide)) ?_
        refine ch_iload d_l_law_1485 rfl ?_
        refine ch_i2l d_l_law_1487 ?_
        refine ch_lcmp d_l_law_1488 ?_
        refine ch_if_eq (tgt := 1494) d_l_law_1489 (by decide) (fun c => ?_) (fun c => ?_)
        · replace h := h.1 c
          refine ch_goto (tgt := 2096) d_l_law_1494 (by decide) ?_
          exact h
        · replace h := h.2 c
          refine ch_iconst (v := 0) d_l_law_1492 (by decide) ?_
          exact h
      · replace h := h.2 c
        refine ch_iconst (v := 0) d_l_law_1475 (by decide) ?_
        exact h
    · replace h := h.2.2 c_ B9 f0_ f1_ f2_ m11 hm_
      refine ch_istore (i := 7) d_l_law_1464 (Nat.le_of_ble_eq_true rfl) (ls' := [some (.inr (11, 0, 0)), some (.inr (0, 0, 0)), some (.inr (9, 0, 0)), some (.inr (10, 0, 1)), some (.inr (10, 0, 2)), some (.inl (.int x5)), some (.inl (.int 0)), some (.inl (.int 0)), o8, o9]) rfl ?_
      refine ch_aload_n (i := 2) d_l_law_1466 rfl rfl ?_
      refine ch_callV (as := []) d_l_law_1467 lk_l_129 mi_m_thrown me_m_thrown rfl rfl rfl (ch_hR hR (Nat.le_of_ble_eq_true rfl)) (Nat.le_of_ble_eq_true rfl) (ch_rc1 (k := k) (a := 2) (b := 0) hcs (Nat.le_of_ble_eq_true rfl)) (ch_mono (ch_Ki (fun r22 m23 q24 => ?_)) (s_m_thrown g (fun (r_ : Int32) (m_ : ch_M) => ((m11 (9, 0, 0) 19) = r_ ∧ m11 = m_))  m11 ⟨rfl, rfl⟩))
      obtain ⟨rfl, rfl⟩ := q24
      replace h := h
      refine ch_iload d_l_law_1470 rfl ?_
      refine ch_icmp_eq (tgt := 1477) d_l_law_1472 (by decide) (fun c => ?_) (fun c => ?_)
      · replace h := h.1 c
        refine ch_iload d_l_law_1477 rfl ?_
        refine ch_if_ne (tgt := 1494) d_l_law_1479 (by decide) (fun c => absurd c (by decide)) (fun _ => ?_)
        refine ch_aload_n (i := 3) d_l_law_1482 rfl rfl ?_
        refine ch_iconst (v := 0) d_l_law_1483 (by decide) ?_
        refine ch_lald (n := 1) d_l_law_1484 (by decide) rfl (vp_in_nI (n := 0) (by decide) (by decide)) ?_
        refine ch_iload d_l_law_1485 rfl ?_
        refine ch_i2l d_l_law_1487 ?_
        refine ch_lcmp d_l_law_1488 ?_
        refine ch_if_eq (tgt := 1494) d_l_law_1489 (by decide) (fun c => ?_) (fun c => ?_)
        · replace h := h.1 c
          refine ch_goto (tgt := 2096) d_l_law_1494 (by decide) ?_
          exact h
        · replace h := h.2 c
          refine ch_iconst (v := 0) d_l_law_1492 (by decide) ?_
          exact h
      · replace h := h.2 c
        refine ch_iconst (v := 0) d_l_law_1475 (by decide) ?_
        exact h
  · replace h := h.2.1 c_
    refine ch_istore (i := 6) d_l_law_1452 (Nat.le_of_ble_eq_true rfl) (ls' := [some (.inr (11, 0, 0)), some (.inr (0, 0, 0)), some (.inr (9, 0, 0)), some (.inr (10, 0, 1)), some (.inr (10, 0, 2)), some (.inl (.int x5)), some (.inl (.int 1)), o7, o8, o9]) rfl ?_
    refine ch_aload_n (i := 2) d_l_law_1454 rfl rfl ?_
    refine ch_aload_n (i := 0) d_l_law_1455 rfl rfl ?_
    refine ch_iload d_l_law_1456 rfl ?_
    refine ch_iconst (v := 1) d_l_law_1458 (by decide) ?_
    refine ch_iadd d_l_law_1459 ?_
    refine ch_sld d_l_law_1460 b1 ?_
    obtain ⟨T_25, h⟩ := h
    obtain ⟨Y_26, h⟩ := h
    have b32 := h.1
    replace h := h.2
    have b33 := h.1
    replace h := h.2
    have b34 := h.1
    replace h := h.2
    refine ch_callV (as := [.inl (.int ((ch_scr g).2.2 (Int32.toNatClampNeg (x5 + 1))))]) d_l_law_1461 lk_l_199 mi_m_termsFor me_m_termsFor rfl rfl rfl (ch_hR hR (Nat.le_of_ble_eq_true rfl)) (Nat.le_of_ble_eq_true rfl) (ch_rc1 (k := k) (a := 2) (b := 0) hcs (Nat.le_of_ble_eq_true rfl)) (ch_mono (ch_Ki (fun r29 m30 q31 => ?_)) (s_m_termsFor g (fun (r_ : Int32) (m_ : ch_M) => (∃ (B27 : ch_B), ((0 ≤ ((ch_scr g).2.2 (Int32.toNatClampNeg (x5 + 1))) ∧ ((ch_scr g).2.2 (Int32.toNatClampNeg (x5 + 1))) < Y_26 0 8) ∧ ¬ (x_tt ((ch_scr g).2.2 (Int32.toNatClampNeg (x5 + 1))) 40 1 Y_26).1 = 0) ∧ ((x_tt ((ch_scr g).2.2 (Int32.toNatClampNeg (x5 + 1))) 40 1 Y_26).1) = r_ ∧ (∀ i_, i_ < 63 → B27 1 i_ = ch_ob m 9 0 1 i_) ∧ (∀ a_ i_, a_ ≠ 1 → a_ ≠ 3 → ¬ (a_ = 0 ∧ i_ = 19) → B27 a_ i_ = ch_ob m 9 0 a_ i_) ∧ (B27 0 19 = 0) ∧ m_ = ch_os m 9 0 B27) ∨ ((¬ (0 ≤ ((ch_scr g).2.2 (Int32.toNatClampNeg (x5 + 1))) ∧ ((ch_scr g).2.2 (Int32.toNatClampNeg (x5 + 1))) < Y_26 0 8)) ∧ 0 = r_ ∧ m_ = ch_wr m (9, 0, 0) 19 1) ∨ (∃ (B28 : ch_B), ((0 ≤ ((ch_scr g).2.2 (Int32.toNatClampNeg (x5 + 1))) ∧ ((ch_scr g).2.2 (Int32.toNatClampNeg (x5 + 1))) < Y_26 0 8) ∧ (x_tt ((ch_scr g).2.2 (Int32.toNatClampNeg (x5 + 1))) 40 1 Y_26).1 = 0) ∧ 0 = r_ ∧ (∀ i_, i_ < 63 → B28 1 i_ = ch_ob m 9 0 1 i_) ∧ (∀ a_ i_, a_ ≠ 1 → a_ ≠ 3 → ¬ (a_ = 0 ∧ i_ = 19) → B28 a_ i_ = ch_ob m 9 0 a_ i_) ∧ (B28 0 19 = 2) ∧ m_ = ch_os m 9 0 B28)) (T_25) (Y_26) (((ch_scr g).2.2 (Int32.toNatClampNeg (x5 + 1)))) m ⟨b32, b33, b34, (fun c_ B27 f0_ f1_ f2_ => (Or.inl ⟨B27, c_, rfl, f0_, f1_, f2_, rfl⟩)), (fun c_ => (Or.inr (Or.inl ⟨c_, rfl, rfl⟩))), (fun c_ B28 f0_ f1_ f2_ => (Or.inr (Or.inr ⟨B28, c_, rfl, f0_, f1_, f2_, rfl⟩)))⟩))
    rcases q31 with ⟨B27, c_, rfl, f0_, f1_, f2_, hm_⟩ | ⟨c_, rfl, hm_⟩ | ⟨B28, c_, rfl, f0_, f1_, f2_, hm_⟩
    · replace h := h.1 c_ B27 f0_ f1_ f2_ m30 hm_
      refine ch_istore (i := 7) d_l_law_1464 (Nat.le_of_ble_eq_true rfl) (ls' := [some (.inr (11, 0, 0)), some (.inr (0, 0, 0)), some (.inr (9, 0, 0)), some (.inr (10, 0, 1)), some (.inr (10, 0, 2)), some (.inl (.int x5)), some (.inl (.int 1)), some (.inl (.int ((x_tt ((ch_scr g).2.2 (Int32.toNatClampNeg (x5 + 1))) 40 1 Y_26).1))), o8, o9]) rfl ?_
      refine ch_aload_n (i := 2) d_l_law_1466 rfl rfl ?_
      refine ch_callV (as := []) d_l_law_1467 lk_l_129 mi_m_thrown me_m_thrown rfl rfl rfl (ch_hR hR (Nat.le_of_ble_eq_true rfl)) (Nat.le_of_ble_eq_true rfl) (ch_rc1 (k := k) (a := 2) (b := 0) hcs (Nat.le_of_ble_eq_true rfl)) (ch_mono (ch_Ki (fun r35 m36 q37 => ?_)) (s_m_thrown g (fun (r_ : Int32) (m_ : ch_M) => ((m30 (9, 0, 0) 19) = r_ ∧ m30 = m_))  m30 ⟨rfl, rfl⟩))
      obtain ⟨rfl, rfl⟩ := q37
      replace h := h
      refine ch_iload d_l_law_1470 rfl ?_
      refine ch_icmp_eq (tgt := 1477) d_l_law_1472 (by decide) (fun c => ?_) (fun c => ?_)
      · replace h := h.1 c
        refine ch_iload d_l_law_1477 rfl ?_
        refine ch_if_ne (tgt := 1494) d_l_law_1479 (by decide) (fun _ => ?_) (fun c => absurd c (by decide))
        refine ch_goto (tgt := 2096) d_l_law_1494 (by decide) ?_
        exact h
      · replace h := h.2 c
        refine ch_iconst (v := 0) d_l_law_1475 (by decide) ?_
        exact h
    · replace h := h.2.1 c_ m30 hm_
      refine ch_istore (i := 7) d_l_law_1464 (Nat.le_of_ble_eq_true rfl) (ls' := [some (.inr (11, 0, 0)), some (.inr (0, 0, 0)), some (.inr (9, 0, 0)), some (.inr (10, 0, 1)), some (.inr (10, 0, 2)), some (.inl (.int x5)), some (.inl (.int 1)), some (.inl (.int 0)), o8, o9]) rfl ?_
      refine ch_aload_n (i := 2) d_l_law_1466 rfl rfl ?_
      refine ch_callV (as := []) d_l_law_1467 lk_l_129 mi_m_thrown me_m_thrown rfl rfl rfl (ch_hR hR (Nat.le_of_ble_eq_true rfl)) (Nat.le_of_ble_eq_true rfl) (ch_rc1 (k := k) (a := 2) (b := 0) hcs (Nat.le_of_ble_eq_true rfl)) (ch_mono (ch_Ki (fun r38 m39 q40 => ?_)) (s_m_thrown g (fun (r_ : Int32) (m_ : ch_M) => ((m30 (9, 0, 0) 19) = r_ ∧ m30 = m_))  m30 ⟨rfl, rfl⟩))
      obtain ⟨rfl, rfl⟩ := q40
      replace h := h
      refine ch_iload d_l_law_1470 rfl ?_
      refine ch_icmp_eq (tgt := 1477) d_l_law_1472 (by decide) (fun c => ?_) (fun c => ?_)
      · replace h := h.1 c
        refine ch_iload d_l_law_1477 rfl ?_
        refine ch_if_ne (tgt := 1494) d_l_law_1479 (by decide) (fun _ => ?_) (fun c => absurd c (by decide))
        refine ch_goto (tgt := 2096) d_l_law_1494 (by decide) ?_
        exact h
      · replace h := h.2 c
        refine ch_iconst (v := 0) d_l_law_1475 (by decide) ?_
        exact h
    · replace h := h.2.2 c_ B28 f0_ f1_ f2_ m30 hm_
      refine ch_istore (i := 7) d_l_law_1464 (Nat.le_of_ble_eq_true rfl) (ls' := [some (.inr (11, 0, 0)), some (.inr (0, 0, 0)), some (.inr (9, 0, 0)), some (.inr (10, 0, 1)), some (.inr (10, 0, 2)), some (.inl (.int x5)), some (.inl (.int 1)), some (.inl (.int 0)), o8, o9]) rfl ?_
      refine ch_aload_n (i := 2) d_l_law_1466 rfl rfl ?_
      refine ch_callV (as := []) d_l_law_1467 lk_l_129 mi_m_thrown me_m_thrown rfl rfl rfl (ch_hR hR (Nat.le_of_ble_eq_true rfl)) (Nat.le_of_ble_eq_true rfl) (ch_rc1 (k := k) (a := 2) (b := 0) hcs (Nat.le_of_ble_eq_true rfl)) (ch_mono (ch_Ki (fun r41 m42 q43 => ?_)) (s_m_thrown g (fun (r_ : Int32) (m_ : ch_M) => ((m30 (9, 0, 0) 19) = r_ ∧ m30 = m_))  m30 ⟨rfl, rfl⟩))
      obtain ⟨rfl, rfl⟩ := q43
      replace h := h
      refine ch_iload d_l_law_1470 rfl ?_
      refine ch_icmp_eq (tgt := 1477) d_l_law_1472 (by decide) (fun c => ?_) (fun c => ?_)
      · replace h := h.1 c
        refine ch_iload d_l_law_1477 rfl ?_
        refine ch_if_ne (tgt := 1494) d_l_law_1479 (by decide) (fun _ => ?_) (fun c => absurd c (by decide))
        refine ch_goto (tgt := 2096) d_l_law_1494 (by decide) ?_
        exact h
      · replace h := h.2 c
        refine ch_iconst (v := 0) d_l_law_1475 (by decide) ?_
        exact h
  · replace h := h.2.2 c_ m3 hm_
    refine ch_istore (i := 6) d_l_law_1452 (Nat.le_of_ble_eq_true rfl) (ls' := [some (.inr (11, 0, 0)), some (.inr (0, 0, 0)), some (.inr (9, 0, 0)), some (.inr (10, 0, 1)), some (.inr (10, 0, 2)), some (.inl (.int x5)), some (.inl (.int 2)), o7, o8, o9]) rfl ?_
    refine ch_aload_n (i := 2) d_l_law_1454 rfl rfl ?_
    refine ch_aload_n (i := 0) d_l_law_1455 rfl rfl ?_
    refine ch_iload d_l_law_1456 rfl ?_
    refine ch_iconst (v := 1) d_l_law_1458 (by decide) ?_
    refine ch_iadd d_l_law_1459 ?_
    refine ch_sld d_l_law_1460 b1 ?_
    obtain ⟨T_44, h⟩ := h
    obtain ⟨Y_45, h⟩ := h
    have b51 := h.1
    replace h := h.2
    have b52 := h.1
    replace h := h.2
    have b53 := h.1
    replace h := h.2
    refine ch_callV (as := [.inl (.int ((ch_scr g).2.2 (Int32.toNatClampNeg (x5 + 1))))]) d_l_law_1461 lk_l_199 mi_m_termsFor me_m_termsFor rfl rfl rfl (ch_hR hR (Nat.le_of_ble_eq_true rfl)) (Nat.le_of_ble_eq_true rfl) (ch_rc1 (k := k) (a := 2) (b := 0) hcs (Nat.le_of_ble_eq_true rfl)) (ch_mono (ch_Ki (fun r48 m49 q50 => ?_)) (s_m_termsFor g (fun (r_ : Int32) (m_ : ch_M) => (∃ (B46 : ch_B), ((0 ≤ ((ch_scr g).2.2 (Int32.toNatClampNeg (x5 + 1))) ∧ ((ch_scr g).2.2 (Int32.toNatClampNeg (x5 + 1))) < Y_45 0 8) ∧ ¬ (x_tt ((ch_scr g).2.2 (Int32.toNatClampNeg (x5 + 1))) 40 1 Y_45).1 = 0) ∧ ((x_tt ((ch_scr g).2.2 (Int32.toNatClampNeg (x5 + 1))) 40 1 Y_45).1) = r_ ∧ (∀ i_, i_ < 63 → B46 1 i_ = ch_ob m3 9 0 1 i_) ∧ (∀ a_ i_, a_ ≠ 1 → a_ ≠ 3 → ¬ (a_ = 0 ∧ i_ = 19) → B46 a_ i_ = ch_ob m3 9 0 a_ i_) ∧ (B46 0 19 = 0) ∧ m_ = ch_os m3 9 0 B46) ∨ ((¬ (0 ≤ ((ch_scr g).2.2 (Int32.toNatClampNeg (x5 + 1))) ∧ ((ch_scr g).2.2 (Int32.toNatClampNeg (x5 + 1))) < Y_45 0 8)) ∧ 0 = r_ ∧ m_ = ch_wr m3 (9, 0, 0) 19 1) ∨ (∃ (B47 : ch_B), ((0 ≤ ((ch_scr g).2.2 (Int32.toNatClampNeg (x5 + 1))) ∧ ((ch_scr g).2.2 (Int32.toNatClampNeg (x5 + 1))) < Y_45 0 8) ∧ (x_tt ((ch_scr g).2.2 (Int32.toNatClampNeg (x5 + 1))) 40 1 Y_45).1 = 0) ∧ 0 = r_ ∧ (∀ i_, i_ < 63 → B47 1 i_ = ch_ob m3 9 0 1 i_) ∧ (∀ a_ i_, a_ ≠ 1 → a_ ≠ 3 → ¬ (a_ = 0 ∧ i_ = 19) → B47 a_ i_ = ch_ob m3 9 0 a_ i_) ∧ (B47 0 19 = 2) ∧ m_ = ch_os m3 9 0 B47)) (T_44) (Y_45) (((ch_scr g).2.2 (Int32.toNatClampNeg (x5 + 1)))) m3 ⟨b51, b52, b53, (fun c_ B46 f0_ f1_ f2_ => (Or.inl ⟨B46, c_, rfl, f0_, f1_, f2_, rfl⟩)), (fun c_ => (Or.inr (Or.inl ⟨c_, rfl, rfl⟩))), (fun c_ B47 f0_ f1_ f2_ => (Or.inr (Or.inr ⟨B47, c_, rfl, f0_, f1_, f2_, rfl⟩)))⟩))
    rcases q50 with ⟨B46, c_, rfl, f0_, f1_, f2_, hm_⟩ | ⟨c_, rfl, hm_⟩ | ⟨B47, c_, rfl, f0_, f1_, f2_, hm_⟩
    · replace h := h.1 c_ B46 f0_ f1_ f2_ m49 hm_
      refine ch_istore (i := 7) d_l_law_1464 (Nat.le_of_ble_eq_true rfl) (ls' := [some (.inr (11, 0, 0)), some (.inr (0, 0, 0)), some (.inr (9, 0, 0)), some (.inr (10, 0, 1)), some (.inr (10, 0, 2)), some (.inl (.int x5)), some (.inl (.int 2)), some (.inl (.int ((x_tt ((ch_scr g).2.2 (Int32.toNatClampNeg (x5 + 1))) 40 1 Y_45).1))), o8, o9]) rfl ?_
      refine ch_aload_n (i := 2) d_l_law_1466 rfl rfl ?_
      refine ch_callV (as := []) d_l_law_1467 lk_l_129 mi_m_thrown me_m_thrown rfl rfl rfl (ch_hR hR (Nat.le_of_ble_eq_true rfl)) (Nat.le_of_ble_eq_true rfl) (ch_rc1 (k := k) (a := 2) (b := 0) hcs (Nat.le_of_ble_eq_true rfl)) (ch_mono (ch_Ki (fun r54 m55 q56 => ?_)) (s_m_thrown g (fun (r_ : Int32) (m_ : ch_M) => ((m49 (9, 0, 0) 19) = r_ ∧ m49 = m_))  m49 ⟨rfl, rfl⟩))
      obtain ⟨rfl, rfl⟩ := q56
      replace h := h
      refine ch_iload d_l_law_1470 rfl ?_
      refine ch_icmp_eq (tgt := 1477) d_l_law_1472 (by decide) (fun c => ?_) (fun c => ?_)
      · replace h := h.1 c
        refine ch_iload d_l_law_1477 rfl ?_
        refine ch_if_ne (tgt := 1494) d_l_law_1479 (by decide) (fun _ => ?_) (fun c => absurd c (by decide))
        refine ch_goto (tgt := 2096) d_l_law_1494 (by decide) ?_
        exact h
      · replace h := h.2 c
        refine ch_iconst (v := 0) d_l_law_1475 (by decide) ?_
        exact h
    · replace h := h.2.1 c_ m49 hm_
      refine ch_istore (i := 7) d_l_law_1464 (Nat.le_of_ble_eq_true rfl) (ls' := [some (.inr (11, 0, 0)), some (.inr (0, 0, 0)), some (.inr (9, 0, 0)), some (.inr (10, 0, 1)), some (.inr (10, 0, 2)), some (.inl (.int x5)), some (.inl (.int 2)), some (.inl (.int 0)), o8, o9]) rfl ?_
      refine ch_aload_n (i := 2) d_l_law_1466 rfl rfl ?_
      refine ch_callV (as := []) d_l_law_1467 lk_l_129 mi_m_thrown me_m_thrown rfl rfl rfl (ch_hR hR (Nat.le_of_ble_eq_true rfl)) (Nat.le_of_ble_eq_true rfl) (ch_rc1 (k := k) (a := 2) (b := 0) hcs (Nat.le_of_ble_eq_true rfl)) (ch_mono (ch_Ki (fun r57 m58 q59 => ?_)) (s_m_thrown g (fun (r_ : Int32) (m_ : ch_M) => ((m49 (9, 0, 0) 19) = r_ ∧ m49 = m_))  m49 ⟨rfl, rfl⟩))
      obtain ⟨rfl, rfl⟩ := q59
      replace h := h
      refine ch_iload d_l_law_1470 rfl ?_
      refine ch_icmp_eq (tgt := 1477) d_l_law_1472 (by decide) (fun c => ?_) (fun c => ?_)
      · replace h := h.1 c
        refine ch_iload d_l_law_1477 rfl ?_
        refine ch_if_ne (tgt := 1494) d_l_law_1479 (by decide) (fun _ => ?_) (fun c => absurd c (by decide))
        refine ch_goto (tgt := 2096) d_l_law_1494 (by decide) ?_
        exact h
      · replace h := h.2 c
        refine ch_iconst (v := 0) d_l_law_1475 (by decide) ?_
        exact h
    · replace h := h.2.2 c_ B47 f0_ f1_ f2_ m49 hm_
      refine ch_istore (i := 7) d_l_law_1464 (Nat.le_of_ble_eq_true rfl) (ls' := [some (.inr (11, 0, 0)), some (.inr (0, 0, 0)), some (.inr (9, 0, 0)), some (.inr (10, 0, 1)), some (.inr (10, 0, 2)), some (.inl (.int x5)), some (.inl (.int 2)), some (.inl (.int 0)), o8, o9]) rfl ?_
      refine ch_aload_n (i := 2) d_l_law_1466 rfl rfl ?_
      refine ch_callV (as := []) d_l_law_1467 lk_l_129 mi_m_thrown me_m_thrown rfl rfl rfl (ch_hR hR (Nat.le_of_ble_eq_true rfl)) (Nat.le_of_ble_eq_true rfl) (ch_rc1 (k := k) (a := 2) (b := 0) hcs (Nat.le_of_ble_eq_true rfl)) (ch_mono (ch_Ki (fun r60 m61 q62 => ?_)) (s_m_thrown g (fun (r_ : Int32) (m_ : ch_M) => ((m49 (9, 0, 0) 19) = r_ ∧ m49 = m_))  m49 ⟨rfl, rfl⟩))
      obtain ⟨rfl, rfl⟩ := q62
      replace h := h
      refine ch_iload d_l_law_1470 rfl ?_
      refine ch_icmp_eq (tgt := 1477) d_l_law_1472 (by decide) (fun c => ?_) (fun c => ?_)
      · replace h := h.1 c
        refine ch_iload d_l_law_1477 rfl ?_
        refine ch_if_ne (tgt := 1494) d_l_law_1479 (by decide) (fun _ => ?_) (fun c => absurd c (by decide))
        refine ch_goto (tgt := 2096) d_l_law_1494 (by decide) ?_
        exact h
      · replace h := h.2 c
        refine ch_iconst (v := 0) d_l_law_1475 (by decide) ?_
        exact h
set_option maxHeartbeats 1600000 in
theorem g_l_law_1497 (g : ch_G) (R : Room) (E : ch_En) (k : Nat) (hR : ch_RR R 18) (hcs : k + 40 ≤ R.cells ∧ 6 * k + 240 ≤ R.slots) (x5 : Int32) (o6 : Option ch_V) (o7 : Option ch_V) (o8 : Option ch_V) (o9 : Option ch_V) (m : ch_M) (h : (vp_in (x5 + 1) (ch_scr g).2.1) ∧ (vp_in (x5 + 2) (ch_scr g).2.1) ∧ (vp_in (m (1, 0, 0) 8) 6) ∧ ((((0 ≤ ((ch_scr g).2.2 (Int32.toNatClampNeg (x5 + 1))) ∧ ((ch_scr g).2.2 (Int32.toNatClampNeg (x5 + 1))) ≤ 3) ∧ 0 ≤ ((ch_scr g).2.2 (Int32.toNatClampNeg (x5 + 2))) ∧ ((ch_scr g).2.2 (Int32.toNatClampNeg (x5 + 2))) < m (1, 0, 0) 8) → (∀ m4 : ch_M, m4 = (ch_wr m (10, 0, 1) 0 (x_rk (ch_ob m 1 0) ((ch_scr g).2.2 (Int32.toNatClampNeg (x5 + 1))) ((ch_scr g).2.2 (Int32.toNatClampNeg (x5 + 2))) (Int32.toNatClampNeg (m (1, 0, 0) 8)))) → (∃ T_7 : Nat, (∃ Y_8 : ch_B, (m_rel Y_8 (m4 (9, 0, 1))) ∧ (y_inv T_7 Y_8) ∧ (T_7 ≤ 2 ^ 30) ∧ ((((0 ≤ ((ch_scr g).2.2 (Int32.toNatClampNeg (x5 + 1))) ∧ ((ch_scr g).2.2 (Int32.toNatClampNeg (x5 + 1))) ≤ 3) ∧ 0 ≤ ((ch_scr g).2.2 (Int32.toNatClampNeg (x5 + 2))) ∧ ((ch_scr g).2.2 (Int32.toNatClampNeg (x5 + 2))) < Y_8 0 8) → (∀ m10 : ch_M, m10 = ch_wr m4 (9, 0, 0) 19 0 → ((((m10 (9, 0, 0) 19) = 0 → (((lg_cmp ((m10 (10, 0, 1) (0))).toInt64 ((x_rk Y_8 ((ch_scr g).2.2 (Int32.toNatClampNeg (x5 + 1))) ((ch_scr g).2.2 (Int32.toNatClampNeg (x5 + 2))) (Int32.toNatClampNeg (Y_8 0 8)))).toInt64) = 0 → ch_J g m_l_law R E 2096 [some (.inr (11, 0, 0)), some (.inr (0, 0, 0)), some (.inr (9, 0, 0)), some (.inr (10, 0, 1)), some (.inr (10, 0, 2)), some (.inl (.int x5)), some (.inl (.int 0)), some (.inl (.int (x_rk Y_8 ((ch_scr g).2.2 (Int32.toNatClampNeg (x5 + 1))) ((ch_scr g).2.2 (Int32.toNatClampNeg (x5 + 2))) (Int32.toNatClampNeg (Y_8 0 8))))), o8, o9] [] m10 (k + 1)) ∧ (¬ (lg_cmp ((m10 (10, 0, 1) (0))).toInt64 ((x_rk Y_8 ((ch_scr g).2.2 (Int32.toNatClampNeg (x5 + 1))) ((ch_scr g).2.2 (Int32.toNatClampNeg (x5 + 2))) (Int32.toNatClampNeg (Y_8 0 8)))).toInt64) = 0 → ch_J g m_l_law R E 1561 [some (.inr (11, 0, 0)), some (.inr (0, 0, 0)), some (.inr (9, 0, 0)), some (.inr (10, 0, 1)), some (.inr (10, 0, 2)), some (.inl (.int x5)), some (.inl (.int 0)), some (.inl (.int (x_rk Y_8 ((ch_scr g).2.2 (Int32.toNatClampNeg (x5 + 1))) ((ch_scr g).2.2 (Int32.toNatClampNeg (x5 + 2))) (Int32.toNatClampNeg (Y_8 0 8))))), o8, o9] [.inl (.int 0)] m10 (k + 1)))) ∧ (¬ (m10 (9, 0, 0) 19) = 0 → ch_J g m_l_law R E 1544 [some (.inr (11, 0, 0)), some (.inr (0, 0, 0)), some (.inr (9, 0, 0)), some (.inr (10, 0, 1)), some (.inr (10, 0, 2)), some (.inl (.int x5)), some (.inl (.int 0)), some (.inl (.int (x_rk Y_8 ((ch_scr g).2.2 (Int32.toNatClampNeg (x5 + 1))) ((ch_scr g).2.2 (Int32.toNatClampNeg (x5 + 2))) (Int32.toNatClampNeg (Y_8 0 8))))), o8, o9] [.inl (.int 0)] m10 (k + 1)))))) ∧ ((¬ (0 ≤ ((ch_scr g).2.2 (Int32.toNatClampNeg (x5 + 1))) ∧ ((ch_scr g).2.2 (Int32.toNatClampNeg (x5 + 1))) ≤ 3)) → (∀ m10 : ch_M, m10 = ch_wr m4 (9, 0, 0) 19 1 → ((((m10 (9, 0, 0) 19) = 0 → (((lg_cmp ((m10 (10, 0, 1) (0))).toInt64 (0).toInt64) = 0 → ch_J g m_l_law R E 2096 [some (.inr (11, 0, 0)), some (.inr (0, 0, 0)), some (.inr (9, 0, 0)), some (.inr (10, 0, 1)), some (.inr (10, 0, 2)), some (.inl (.int x5)), some (.inl (.int 0)), some (.inl (.int 0)), o8, o9] [] m10 (k + 1)) ∧ (¬ (lg_cmp ((m10 (10, 0, 1) (0))).toInt64 (0).toInt64) = 0 → ch_J g m_l_law R E 1561 [some (.inr (11, 0, 0)), some (.inr (0, 0, 0)), some (.inr (9, 0, 0)), some (.inr (10, 0, 1)), some (.inr (10, 0, 2)), some (.inl (.int x5)), some (.inl (.int 0)), some (.inl (.int 0)), o8, o9] [.inl (.int 0)] m10 (k + 1)))) ∧ (¬ (m10 (9, 0, 0) 19) = 0 → ch_J g m_l_law R E 1544 [some (.inr (11, 0, 0)), some (.inr (0, 0, 0)), some (.inr (9, 0, 0)), some (.inr (10, 0, 1)), some (.inr (10, 0, 2)), some (.inl (.int x5)), some (.inl (.int 0)), some (.inl (.int 0)), o8, o9] [.inl (.int 0)] m10 (k + 1)))))) ∧ (((0 ≤ ((ch_scr g).2.2 (Int32.toNatClampNeg (x5 + 1))) ∧ ((ch_scr g).2.2 (Int32.toNatClampNeg (x5 + 1))) ≤ 3) ∧ ¬ (0 ≤ ((ch_scr g).2.2 (Int32.toNatClampNeg (x5 + 2))) ∧ ((ch_scr g).2.2 (Int32.toNatClampNeg (x5 + 2))) < Y_8 0 8)) → (∀ m10 : ch_M, m10 = ch_wr m4 (9, 0, 0) 19 2 → ((((m10 (9, 0, 0) 19) = 0 → (((lg_cmp ((m10 (10, 0, 1) (0))).toInt64 (0).toInt64) = 0 → ch_J g m_l_law R E 2096 [some (.inr (11, 0, 0)), some (.inr (0, 0, 0)), some (.inr (9, 0, 0)), some (.inr (10, 0, 1)), some (.inr (10, 0, 2)), some (.inl (.int x5)), some (.inl (.int 0)), some (.inl (.int 0)), o8, o9] [] m10 (k + 1)) ∧ (¬ (lg_cmp ((m10 (10, 0, 1) (0))).toInt64 (0).toInt64) = 0 → ch_J g m_l_law R E 1561 [some (.inr (11, 0, 0)), some (.inr (0, 0, 0)), some (.inr (9, 0, 0)), some (.inr (10, 0, 1)), some (.inr (10, 0, 2)), some (.inl (.int x5)), some (.inl (.int 0)), some (.inl (.int 0)), o8, o9] [.inl (.int 0)] m10 (k + 1)))) ∧ (¬ (m10 (9, 0, 0) 19) = 0 → ch_J g m_l_law R E 1544 [some (.inr (11, 0, 0)), some (.inr (0, 0, 0)), some (.inr (9, 0, 0)), some (.inr (10, 0, 1)), some (.inr (10, 0, 2)), some (.inl (.int x5)), some (.inl (.int 0)), some (.inl (.int 0)), o8, o9] [.inl (.int 0)] m10 (k + 1))))))))))) ∧ ((¬ (0 ≤ ((ch_scr g).2.2 (Int32.toNatClampNeg (x5 + 1))) ∧ ((ch_scr g).2.2 (Int32.toNatClampNeg (x5 + 1))) ≤ 3)) → (∃ T_24 : Nat, (∃ Y_25 : ch_B, (m_rel Y_25 (m (9, 0, 1))) ∧ (y_inv T_24 Y_25) ∧ (T_24 ≤ 2 ^ 30) ∧ ((((0 ≤ ((ch_scr g).2.2 (Int32.toNatClampNeg (x5 + 1))) ∧ ((ch_scr g).2.2 (Int32.toNatClampNeg (x5 + 1))) ≤ 3) ∧ 0 ≤ ((ch_scr g).2.2 (Int32.toNatClampNeg (x5 + 2))) ∧ ((ch_scr g).2.2 (Int32.toNatClampNeg (x5 + 2))) < Y_25 0 8) → (∀ m27 : ch_M, m27 = ch_wr m (9, 0, 0) 19 0 → ((((m27 (9, 0, 0) 19) = 1 → ch_J g m_l_law R E 2096 [some (.inr (11, 0, 0)), some (.inr (0, 0, 0)), some (.inr (9, 0, 0)), some (.inr (10, 0, 1)), some (.inr (10, 0, 2)), some (.inl (.int x5)), some (.inl (.int 1)), some (.inl (.int (x_rk Y_25 ((ch_scr g).2.2 (Int32.toNatClampNeg (x5 + 1))) ((ch_scr g).2.2 (Int32.toNatClampNeg (x5 + 2))) (Int32.toNatClampNeg (Y_25 0 8))))), o8, o9] [] m27 (k + 1)) ∧ (¬ (m27 (9, 0, 0) 19) = 1 → ch_J g m_l_law R E 1544 [some (.inr (11, 0, 0)), some (.inr (0, 0, 0)), some (.inr (9, 0, 0)), some (.inr (10, 0, 1)), some (.inr (10, 0, 2)), some (.inl (.int x5)), some (.inl (.int 1)), some (.inl (.int (x_rk Y_25 ((ch_scr g).2.2 (Int32.toNatClampNeg (x5 + 1))) ((ch_scr g).2.2 (Int32.toNatClampNeg (x5 + 2))) (Int32.toNatClampNeg (Y_25 0 8))))), o8, o9] [.inl (.int 0)] m27 (k + 1)))))) ∧ ((¬ (0 ≤ ((ch_scr g).2.2 (Int32.toNatClampNeg (x5 + 1))) ∧ ((ch_scr g).2.2 (Int32.toNatClampNeg (x5 + 1))) ≤ 3)) → (∀ m27 : ch_M, m27 = ch_wr m (9, 0, 0) 19 1 → ((((m27 (9, 0, 0) 19) = 1 → ch_J g m_l_law R E 2096 [some (.inr (11, 0, 0)), some (.inr (0, 0, 0)), some (.inr (9, 0, 0)), some (.inr (10, 0, 1)), some (.inr (10, 0, 2)), some (.inl (.int x5)), some (.inl (.int 1)), some (.inl (.int 0)), o8, o9] [] m27 (k + 1)) ∧ (¬ (m27 (9, 0, 0) 19) = 1 → ch_J g m_l_law R E 1544 [some (.inr (11, 0, 0)), some (.inr (0, 0, 0)), some (.inr (9, 0, 0)), some (.inr (10, 0, 1)), some (.inr (10, 0, 2)), some (.inl (.int x5)), some (.inl (.int 1)), some (.inl (.int 0)), o8, o9] [.inl (.int 0)] m27 (k + 1)))))) ∧ (((0 ≤ ((ch_scr g).2.2 (Int32.toNatClampNeg (x5 + 1))) ∧ ((ch_scr g).2.2 (Int32.toNatClampNeg (x5 + 1))) ≤ 3) ∧ ¬ (0 ≤ ((ch_scr g).2.2 (Int32.toNatClampNeg (x5 + 2))) ∧ ((ch_scr g).2.2 (Int32.toNatClampNeg (x5 + 2))) < Y_25 0 8)) → (∀ m27 : ch_M, m27 = ch_wr m (9, 0, 0) 19 2 → ((((m27 (9, 0, 0) 19) = 1 → ch_J g m_l_law R E 2096 [some (.inr (11, 0, 0)), some (.inr (0, 0, 0)), some (.inr (9, 0, 0)), some (.inr (10, 0, 1)), some (.inr (10, 0, 2)), some (.inl (.int x5)), some (.inl (.int 1)), some (.inl (.int 0)), o8, o9] [] m27 (k + 1)) ∧ (¬ (m27 (9, 0, 0) 19) = 1 → ch_J g m_l_law R E 1544 [some (.inr (11, 0, 0)), some (.inr (0, 0, 0)), some (.inr (9, 0, 0)), some (.inr (10, 0, 1)), some (.inr (10, 0, 2)), some (.inl (.int x5)), some (.inl (.int 1)), some (.inl (.int 0)), o8, o9] [.inl (.int 0)] m27 (k + 1)))))))))) ∧ (((0 ≤ ((ch_scr g).2.2 (Int32.toNatClampNeg (x5 + 1))) ∧ ((ch_scr g).2.2 (Int32.toNatClampNeg (x5 + 1))) ≤ 3) ∧ ¬ (0 ≤ ((ch_scr g).2.2 (Int32.toNatClampNeg (x5 + 2))) ∧ ((ch_scr g).2.2 (Int32.toNatClampNeg (x5 + 2))) < m (1, 0, 0) 8)) → (∃ T_41 : Nat, (∃ Y_42 : ch_B, (m_rel Y_42 (m (9, 0, 1))) ∧ (y_inv T_41 Y_42) ∧ (T_41 ≤ 2 ^ 30) ∧ ((((0 ≤ ((ch_scr g).2.2 (Int32.toNatClampNeg (x5 + 1))) ∧ ((ch_scr g).2.2 (Int32.toNatClampNeg (x5 + 1))) ≤ 3) ∧ 0 ≤ ((ch_scr g).2.2 (Int32.toNatClampNeg (x5 + 2))) ∧ ((ch_scr g).2.2 (Int32.toNatClampNeg (x5 + 2))) < Y_42 0 8) → (∀ m44 : ch_M, m44 = ch_wr m (9, 0, 0) 19 0 → ((((m44 (9, 0, 0) 19) = 2 → ch_J g m_l_law R E 2096 [some (.inr (11, 0, 0)), some (.inr (0, 0, 0)), some (.inr (9, 0, 0)), some (.inr (10, 0, 1)), some (.inr (10, 0, 2)), some (.inl (.int x5)), some (.inl (.int 2)), some (.inl (.int (x_rk Y_42 ((ch_scr g).2.2 (Int32.toNatClampNeg (x5 + 1))) ((ch_scr g).2.2 (Int32.toNatClampNeg (x5 + 2))) (Int32.toNatClampNeg (Y_42 0 8))))), o8, o9] [] m44 (k + 1)) ∧ (¬ (m44 (9, 0, 0) 19) = 2 → ch_J g m_l_law R E 1544 [some (.inr (11, 0, 0)), some (.inr (0, 0, 0)), some (.inr (9, 0, 0)), some (.inr (10, 0, 1)), some (.inr (10, 0, 2)), some (.inl (.int x5)), some (.inl (.int 2)), some (.inl (.int (x_rk Y_42 ((ch_scr g).2.2 (Int32.toNatClampNeg (x5 + 1))) ((ch_scr g).2.2 (Int32.toNatClampNeg (x5 + 2))) (Int32.toNatClampNeg (Y_42 0 8))))), o8, o9] [.inl (.int 0)] m44 (k + 1)))))) ∧ ((¬ (0 ≤ ((ch_scr g).2.2 (Int32.toNatClampNeg (x5 + 1))) ∧ ((ch_scr g).2.2 (Int32.toNatClampNeg (x5 + 1))) ≤ 3)) → (∀ m44 : ch_M, m44 = ch_wr m (9, 0, 0) 19 1 → ((((m44 (9, 0, 0) 19) = 2 → ch_J g m_l_law R E 2096 [some (.inr (11, 0, 0)), some (.inr (0, 0, 0)), some (.inr (9, 0, 0)), some (.inr (10, 0, 1)), some (.inr (10, 0, 2)), some (.inl (.int x5)), some (.inl (.int 2)), some (.inl (.int 0)), o8, o9] [] m44 (k + 1)) ∧ (¬ (m44 (9, 0, 0) 19) = 2 → ch_J g m_l_law R E 1544 [some (.inr (11, 0, 0)), some (.inr (0, 0, 0)), some (.inr (9, 0, 0)), some (.inr (10, 0, 1)), some (.inr (10, 0, 2)), some (.inl (.int x5)), some (.inl (.int 2)), some (.inl (.int 0)), o8, o9] [.inl (.int 0)] m44 (k + 1)))))) ∧ (((0 ≤ ((ch_scr g).2.2 (Int32.toNatClampNeg (x5 + 1))) ∧ ((ch_scr g).2.2 (Int32.toNatClampNeg (x5 + 1))) ≤ 3) ∧ ¬ (0 ≤ ((ch_scr g).2.2 (Int32.toNatClampNeg (x5 + 2))) ∧ ((ch_scr g).2.2 (Int32.toNatClampNeg (x5 + 2))) < Y_42 0 8)) → (∀ m44 : ch_M, m44 = ch_wr m (9, 0, 0) 19 2 → ((((m44 (9, 0, 0) 19) = 2 → ch_J g m_l_law R E 2096 [some (.inr (11, 0, 0)), some (.inr (0, 0, 0)), some (.inr (9, 0, 0)), some (.inr (10, 0, 1)), some (.inr (10, 0, 2)), some (.inl (.int x5)), some (.inl (.int 2)), some (.inl (.int 0)), o8, o9] [] m44 (k + 1)) ∧ (¬ (m44 (9, 0, 0) 19) = 2 → ch_J g m_l_law R E 1544 [some (.inr (11, 0, 0)), some (.inr (0, 0, 0)), some (.inr (9, 0, 0)), some (.inr (10, 0, 1)), some (.inr (10, 0, 2)), some (.inl (.int x5)), some (.inl (.int 2)), some (.inl (.int 0)), o8, o9] [.inl (.int 0)] m44 (k + 1)))))))))))) : ch_J g m_l_law R E 1497 [some (.inr (11, 0, 0)), some (.inr (0, 0, 0)), some (.inr (9, 0, 0)), some (.inr (10, 0, 1)), some (.inr (10, 0, 2)), some (.inl (.int x5)), o6, o7, o8, o9] [] m k := by
  refine ch_aload_n (i := 1) d_l_law_1497 rfl rfl ?_
  refine ch_aload_n (i := 0) d_l_law_1498 rfl rfl ?_
  refine ch_iload d_l_law_1499 rfl ?_
  refine ch_iconst (v := 1) d_l_law_1501 (by decide) ?_
  refine ch_iadd d_l_law_1502 ?_
  have b1 := h.1
  replace h := h.2
  refine ch_sld d_l_law_1503 b1 ?_
  refine ch_aload_n (i := 0) d_l_law_1504 rfl rfl ?_
  refine ch_iload d_l_law_1505 rfl ?_
  refine ch_iconst (v := 2) d_l_law_1507 (by decide) ?_
  refine ch_iadd d_l_law_1508 ?_
  have b2 := h.1
  replace h := h.2
  refine ch_sld d_l_law_1509 b2 ?_
  refine ch_aload_n (i := 3) d_l_law_1510 rfl rfl ?_
  have b6 := h.1
  replace h := h.2
  refine ch_callSX (as := [.inr (0, 0, 0), .inl (.int ((ch_scr g).2.2 (Int32.toNatClampNeg (x5 + 1)))), .inl (.int ((ch_scr g).2.2 (Int32.toNatClampNeg (x5 + 2)))), .inr (10, 0, 1)]) d_l_law_1511 lk_l_200 ms_l_ranked rfl rfl (ch_hR hR (Nat.le_of_ble_eq_true rfl)) (Nat.le_of_ble_eq_true rfl) (ch_rc0 (k := k) (b := 1) hcs (Nat.le_of_ble_eq_true rfl)) (ch_mono (ch_Ki (fun r3 m4 q5 => ?_)) (s_l_ranked g (fun (r_ : Int32) (m_ : ch_M) => (((0 ≤ ((ch_scr g).2.2 (Int32.toNatClampNeg (x5 + 1))) ∧ ((ch_scr g).2.2 (Int32.toNatClampNeg (x5 + 1))) ≤ 3) ∧ 0 ≤ ((ch_scr g).2.2 (Int32.toNatClampNeg (x5 + 2))) ∧ ((ch_scr g).2.2 (Int32.toNatClampNeg (x5 + 2))) < m (1, 0, 0) 8) ∧ 0 = r_ ∧ m_ = (ch_wr m (10, 0, 1) 0 (x_rk (ch_ob m 1 0) ((ch_scr g).2.2 (Int32.toNatClampNeg (x5 + 1))) ((ch_scr g).2.2 (Int32.toNatClampNeg (x5 + 2))) (Int32.toNatClampNeg (m (1, 0, 0) 8))))) ∨ ((¬ (0 ≤ ((ch_scr g).2.2 (Int32.toNatClampNeg (x5 + 1))) ∧ ((ch_scr g).2.2 (Int32.toNatClampNeg (x5 + 1))) ≤ 3)) ∧ 1 = r_ ∧ m = m_) ∨ (((0 ≤ ((ch_scr g).2.2 (Int32.toNatClampNeg (x5 + 1))) ∧ ((ch_scr g).2.2 (Int32.toNatClampNeg (x5 + 1))) ≤ 3) ∧ ¬ (0 ≤ ((ch_scr g).2.2 (Int32.toNatClampNeg (x5 + 2))) ∧ ((ch_scr g).2.2 (Int32.toNatClampNeg (x5 + 2))) < m (1, 0, 0) 8)) ∧ 2 = r_ ∧ m = m_)) (((ch_scr g).2.2 (Int32.toNatClampNeg (x5 + 1)))) (((ch_scr g).2.2 (Int32.toNatClampNeg (x5 + 2)))) m ⟨b6, (fun c_ => (Or.inl ⟨c_, rfl, rfl⟩)), (fun c_ => (Or.inr (Or.inl ⟨c_, rfl, rfl⟩))), (fun c_ => (Or.inr (Or.inr ⟨c_, rfl, rfl⟩)))⟩))
  rcases q5 with ⟨c_, rfl, hm_⟩ | ⟨c_, rfl, rfl⟩ | ⟨c_, rfl, rfl⟩
  · replace h := h.1 c_ m4 hm_
    refine ch_istore (i := 6) d_l_law_1514 (Nat.le_of_ble_eq_true rfl) (ls' := [some (.inr (11, 0, 0)), some (.inr (0, 0, 0)), some (.inr (9, 0, 0)), some (.inr (10, 0, 1)), some (.inr (10, 0, 2)), some (.inl (.int x5)), some (.inl (.int 0)), o7, o8, o9]) rfl ?_
    refine ch_aload_n (i := 2) d_l_law_1516 rfl rfl ?_
    refine ch_aload_n (i := 0) d_l_law_1517 rfl rfl ?_
    refine ch_iload d_l_law_1518 rfl ?_
    refine ch_iconst (v := 1) d_l_law_1520 (by decide) ?_
    refine ch_iadd d_l_law_1521 ?_
    refine ch_sld d_l_law_1522 b1 ?_
    refine ch_aload_n (i := 0) d_l_law_1523 rfl rfl ?_
    refine ch_iload d_l_law_1524 rfl ?_
    refine ch_iconst (v := 2) d_l_law_1526 (by decide) ?_
    refine ch_iadd d_l_law_1527 ?_
    refine ch_sld d_l_law_1528 b2 ?_
    obtain ⟨T_7, h⟩ := h
    obtain ⟨Y_8, h⟩ := h
    have b12 := h.1
    replace h := h.2
    have b13 := h.1
    replace h := h.2
    have b14 := h.1
    replace h := h.2
    refine ch_callV (as := [.inl (.int ((ch_scr g).2.2 (Int32.toNatClampNeg (x5 + 1)))), .inl (.int ((ch_scr g).2.2 (Int32.toNatClampNeg (x5 + 2))))]) d_l_law_1529 lk_l_202 mi_m_ranked me_m_ranked rfl rfl rfl (ch_hR hR (Nat.le_of_ble_eq_true rfl)) (Nat.le_of_ble_eq_true rfl) (ch_rc1 (k := k) (a := 1) (b := 0) hcs (Nat.le_of_ble_eq_true rfl)) (ch_mono (ch_Ki (fun r9 m10 q11 => ?_)) (s_m_ranked g (fun (r_ : Int32) (m_ : ch_M) => (((0 ≤ ((ch_scr g).2.2 (Int32.toNatClampNeg (x5 + 1))) ∧ ((ch_scr g).2.2 (Int32.toNatClampNeg (x5 + 1))) ≤ 3) ∧ 0 ≤ ((ch_scr g).2.2 (Int32.toNatClampNeg (x5 + 2))) ∧ ((ch_scr g).2.2 (Int32.toNatClampNeg (x5 + 2))) < Y_8 0 8) ∧ (x_rk Y_8 ((ch_scr g).2.2 (Int32.toNatClampNeg (x5 + 1))) ((ch_scr g).2.2 (Int32.toNatClampNeg (x5 + 2))) (Int32.toNatClampNeg (Y_8 0 8))) = r_ ∧ m_ = ch_wr m4 (9, 0, 0) 19 0) ∨ ((¬ (0 ≤ ((ch_scr g).2.2 (Int32.toNatClampNeg (x5 + 1))) ∧ ((ch_scr g).2.2 (Int32.toNatClampNeg (x5 + 1))) ≤ 3)) ∧ 0 = r_ ∧ m_ = ch_wr m4 (9, 0, 0) 19 1) ∨ (((0 ≤ ((ch_scr g).2.2 (Int32.toNatClampNeg (x5 + 1))) ∧ ((ch_scr g).2.2 (Int32.toNatClampNeg (x5 + 1))) ≤ 3) ∧ ¬ (0 ≤ ((ch_scr g).2.2 (Int32.toNatClampNeg (x5 + 2))) ∧ ((ch_scr g).2.2 (Int32.toNatClampNeg (x5 + 2))) < Y_8 0 8)) ∧ 0 = r_ ∧ m_ = ch_wr m4 (9, 0, 0) 19 2)) (T_7) (Y_8) (((ch_scr g).2.2 (Int32.toNatClampNeg (x5 + 1)))) (((ch_scr g).2.2 (Int32.toNatClampNeg (x5 + 2)))) m4 ⟨b12, b13, b14, (fun c_ => (Or.inl ⟨c_, rfl, rfl⟩)), (fun c_ => (Or.inr (Or.inl ⟨c_, rfl, rfl⟩))), (fun c_ => (Or.inr (Or.inr ⟨c_, rfl, rfl⟩)))⟩))
    rcases q11 with ⟨c_, rfl, hm_⟩ | ⟨c_, rfl, hm_⟩ | ⟨c_, rfl, hm_⟩
    · replace h := h.1 c_ m10 hm_
      refine ch_istore (i := 7) d_l_law_1532 (Nat.le_of_ble_eq_true rfl) (ls' := [some (.inr (11, 0, 0)), some (.inr (0, 0, 0)), some (.inr (9, 0, 0)), some (.inr (10, 0, 1)), some (.inr (10, 0, 2)), some (.inl (.int x5)), some (.inl (.int 0)), some (.inl (.int (x_rk Y_8 ((ch_scr g).2.2 (Int32.toNatClampNeg (x5 + 1))) ((ch_scr g).2.2 (Int32.toNatClampNeg (x5 + 2))) (Int32.toNatClampNeg (Y_8 0 8))))), o8, o9]) rfl ?_
      refine ch_aload_n (i := 2) d_l_law_1534 rfl rfl ?_
      refine ch_callV (as := []) d_l_law_1535 lk_l_129 mi_m_thrown me_m_thrown rfl rfl rfl (ch_hR hR (Nat.le_of_ble_eq_true rfl)) (Nat.le_of_ble_eq_true rfl) (ch_rc1 (k := k) (a := 1) (b := 0) hcs (Nat.le_of_ble_eq_true rfl)) (ch_mono (ch_Ki (fun r15 m16 q17 => ?_)) (s_m_thrown g (fun (r_ : Int32) (m_ : ch_M) => ((m10 (9, 0, 0) 19) = r_ ∧ m10 = m_))  m10 ⟨rfl, rfl⟩))
      obtain ⟨rfl, rfl⟩ := q17
      replace h := h
      refine ch_iload d_l_law_1538 rfl ?_
      refine ch_icmp_eq (tgt := 1545) d_l_law_1540 (by decide) (fun c => ?_) (fun c => ?_)
      · replace h := h.1 c
        refine ch_iload d_l_law_1545 rfl ?_
        refine ch_if_ne (tgt := 1562) d_l_law_1547 (by decide) (fun c => absurd c (by decide)) (fun _ => ?_)
        refine ch_aload_n (i := 3) d_l_law_1550 rfl rfl ?_
        refine ch_iconst (v := 0) d_l_law_1551 (by decide) ?_
        refine ch_lald (n := 1) d_l_law_1552 (by decide) rfl (vp_in_nI (n := 0) (by decide) (by decide)) ?_
        refine ch_iload d_l_law_1553 rfl ?_
        refine ch_i2l d_l_law_1555 ?_
        refine ch_lcmp d_l_law_1556 ?_
        refine ch_if_eq (tgt := 1562) d_l_law_1557 (by decide) (fun c => ?_) (fun c => ?_)
        · replace h := h.1 c
          refine ch_goto (tgt := 2096) d_l_law_1562 (by decide) ?_
          exact h
        · replace h := h.2 c
          refine ch_iconst (v := 0) d_l_law_1560 (by decide) ?_
          exact h
      · replace h := h.2 c
        refine ch_iconst (v := 0) d_l_law_1543 (by decide) ?_
        exact h
    · replace h := h.2.1 c_ m10 hm_
      refine ch_istore (i := 7) d_l_law_1532 (Nat.le_of_ble_eq_true rfl) (ls' := [some (.inr (11, 0, 0)), some (.inr (0, 0, 0)), some (.inr (9, 0, 0)), some (.inr (10, 0, 1)), some (.inr (10, 0, 2)), some (.inl (.int x5)), some (.inl (.int 0)), some (.inl (.int 0)), o8, o9]) rfl ?_
      refine ch_aload_n (i := 2) d_l_law_1534 rfl rfl ?_
      refine ch_callV (as := []) d_l_law_1535 lk_l_129 mi_m_thrown me_m_thrown rfl rfl rfl (ch_hR hR (Nat.le_of_ble_eq_true rfl)) (Nat.le_of_ble_eq_true rfl) (ch_rc1 (k := k) (a := 1) (b := 0) hcs (Nat.le_of_ble_eq_true rfl)) (ch_mono (ch_Ki (fun r18 m19 q20 => ?_)) (s_m_thrown g (fun (r_ : Int32) (m_ : ch_M) => ((m10 (9, 0, 0) 19) = r_ ∧ m10 = m_))  m10 ⟨rfl, rfl⟩))
      obtain ⟨rfl, rfl⟩ := q20
      replace h := h
      refine ch_iload d_l_law_1538 rfl ?_
      refine ch_icmp_eq (tgt := 1545) d_l_law_1540 (by decide) (fun c => ?_) (fun c => ?_)
      · replace h := h.1 c
        refine ch_iload d_l_law_1545 rfl ?_
        refine ch_if_ne (tgt := 1562) d_l_law_1547 (by decide) (fun c => absurd c (by decide)) (fun _ => ?_)
        refine ch_aload_n (i := 3) d_l_law_1550 rfl rfl ?_
        refine ch_iconst (v := 0) d_l_law_1551 (by decide) ?_
        refine ch_lald (n := 1) d_l_law_1552 (by decide) rfl (vp_in_nI (n := 0) (by decide) (by decide)) ?_
        refine ch_iload d_l_law_1553 rfl ?_
        refine ch_i2l d_l_law_1555 ?_
        refine ch_lcmp d_l_law_1556 ?_
        refine ch_if_eq (tgt := 1562) d_l_law_1557 (by decide) (fun c => ?_) (fun c => ?_)
        · replace h := h.1 c
          refine ch_goto (tgt := 2096) d_l_law_1562 (by decide) ?_
          exact h
        · replace h := h.2 c
          refine ch_iconst (v := 0) d_l_law_1560 (by decide) ?_
          exact h
      · replace h := h.2 c
        refine ch_iconst (v := 0) d_l_law_1543 (by decide) ?_
        exact h
    · replace h := h.2.2 c_ m10 hm_
      refine ch_istore (i := 7) d_l_law_1532 (Nat.le_of_ble_eq_true rfl) (ls' := [some (.inr (11, 0, 0)), some (.inr (0, 0, 0)), some (.inr (9, 0, 0)), some (.inr (10, 0, 1)), some (.inr (10, 0, 2)), some (.inl (.int x5)), some (.inl (.int 0)), some (.inl (.int 0)), o8, o9]) rfl ?_
      refine ch_aload_n (i := 2) d_l_law_1534 rfl rfl ?_
      refine ch_callV (as := []) d_l_law_1535 lk_l_129 mi_m_thrown me_m_thrown rfl rfl rfl (ch_hR hR (Nat.le_of_ble_eq_true rfl)) (Nat.le_of_ble_eq_true rfl) (ch_rc1 (k := k) (a := 1) (b := 0) hcs (Nat.le_of_ble_eq_true rfl)) (ch_mono (ch_Ki (fun r21 m22 q23 => ?_)) (s_m_thrown g (fun (r_ : Int32) (m_ : ch_M) => ((m10 (9, 0, 0) 19) = r_ ∧ m10 = m_))  m10 ⟨rfl, rfl⟩))
      obtain ⟨rfl, rfl⟩ := q23
      replace h := h
      refine ch_iload d_l_law_1538 rfl ?_
      refine ch_icmp_eq (tgt := 1545) d_l_law_1540 (by decide) (fun c => ?_) (fun c => ?_)
      · replace h := h.1 c
        refine ch_iload d_l_law_1545 rfl ?_
        refine ch_if_ne (tgt := 1562) d_l_law_1547 (by decide) (fun c => absurd c (by decide)) (fun _ => ?_)
        refine ch_aload_n (i := 3) d_l_law_1550 rfl rfl ?_
        refine ch_iconst (v := 0) d_l_law_1551 (by decide) ?_
        refine ch_lald (n := 1) d_l_law_1552 (by decide) rfl (vp_in_nI (n := 0) (by decide) (by decide)) ?_
        refine ch_iload d_l_law_1553 rfl ?_
        refine ch_i2l d_l_law_1555 ?_
        refine ch_lcmp d_l_law_1556 ?_
        refine ch_if_eq (tgt := 1562) d_l_law_1557 (by decide) (fun c => ?_) (fun c => ?_)
        · replace h := h.1 c
          refine ch_goto (tgt := 2096) d_l_law_1562 (by decide) ?_
          exact h
        · replace h := h.2 c
          refine ch_iconst (v := 0) d_l_law_1560 (by decide) ?_
          exact h
      · replace h := h.2 c
        refine ch_iconst (v := 0) d_l_law_1543 (by decide) ?_
        exact h
  · replace h := h.2.1 c_
    refine ch_istore (i := 6) d_l_law_1514 (Nat.le_of_ble_eq_true rfl) (ls' := [some (.inr (11, 0, 0)), some (.inr (0, 0, 0)), some (.inr (9, 0, 0)), some (.inr (10, 0, 1)), some (.inr (10, 0, 2)), some (.inl (.int x5)), some (.inl (.int 1)), o7, o8, o9]) rfl ?_
    refine ch_aload_n (i := 2) d_l_law_1516 rfl rfl ?_
    refine ch_aload_n (i := 0) d_l_law_1517 rfl rfl ?_
    refine ch_iload d_l_law_1518 rfl ?_
    refine ch_iconst (v := 1) d_l_law_1520 (by decide) ?_
    refine ch_iadd d_l_law_1521 ?_
    refine ch_sld d_l_law_1522 b1 ?_
    refine ch_aload_n (i := 0) d_l_law_1523 rfl rfl ?_
    refine ch_iload d_l_law_1524 rfl ?_
    refine ch_iconst (v := 2) d_l_law_1526 (by decide) ?_
    refine ch_iadd d_l_law_1527 ?_
    refine ch_sld d_l_law_1528 b2 ?_
    obtain ⟨T_24, h⟩ := h
    obtain ⟨Y_25, h⟩ := h
    have b29 := h.1
    replace h := h.2
    have b30 := h.1
    replace h := h.2
    have b31 := h.1
    replace h := h.2
    refine ch_callV (as := [.inl (.int ((ch_scr g).2.2 (Int32.toNatClampNeg (x5 + 1)))), .inl (.int ((ch_scr g).2.2 (Int32.toNatClampNeg (x5 + 2))))]) d_l_law_1529 lk_l_202 mi_m_ranked me_m_ranked rfl rfl rfl (ch_hR hR (Nat.le_of_ble_eq_true rfl)) (Nat.le_of_ble_eq_true rfl) (ch_rc1 (k := k) (a := 1) (b := 0) hcs (Nat.le_of_ble_eq_true rfl)) (ch_mono (ch_Ki (fun r26 m27 q28 => ?_)) (s_m_ranked g (fun (r_ : Int32) (m_ : ch_M) => (((0 ≤ ((ch_scr g).2.2 (Int32.toNatClampNeg (x5 + 1))) ∧ ((ch_scr g).2.2 (Int32.toNatClampNeg (x5 + 1))) ≤ 3) ∧ 0 ≤ ((ch_scr g).2.2 (Int32.toNatClampNeg (x5 + 2))) ∧ ((ch_scr g).2.2 (Int32.toNatClampNeg (x5 + 2))) < Y_25 0 8) ∧ (x_rk Y_25 ((ch_scr g).2.2 (Int32.toNatClampNeg (x5 + 1))) ((ch_scr g).2.2 (Int32.toNatClampNeg (x5 + 2))) (Int32.toNatClampNeg (Y_25 0 8))) = r_ ∧ m_ = ch_wr m (9, 0, 0) 19 0) ∨ ((¬ (0 ≤ ((ch_scr g).2.2 (Int32.toNatClampNeg (x5 + 1))) ∧ ((ch_scr g).2.2 (Int32.toNatClampNeg (x5 + 1))) ≤ 3)) ∧ 0 = r_ ∧ m_ = ch_wr m (9, 0, 0) 19 1) ∨ (((0 ≤ ((ch_scr g).2.2 (Int32.toNatClampNeg (x5 + 1))) ∧ ((ch_scr g).2.2 (Int32.toNatClampNeg (x5 + 1))) ≤ 3) ∧ ¬ (0 ≤ ((ch_scr g).2.2 (Int32.toNatClampNeg (x5 + 2))) ∧ ((ch_scr g).2.2 (Int32.toNatClampNeg (x5 + 2))) < Y_25 0 8)) ∧ 0 = r_ ∧ m_ = ch_wr m (9, 0, 0) 19 2)) (T_24) (Y_25) (((ch_scr g).2.2 (Int32.toNatClampNeg (x5 + 1)))) (((ch_scr g).2.2 (Int32.toNatClampNeg (x5 + 2)))) m ⟨b29, b30, b31, (fun c_ => (Or.inl ⟨c_, rfl, rfl⟩)), (fun c_ => (Or.inr (Or.inl ⟨c_, rfl, rfl⟩))), (fun c_ => (Or.inr (Or.inr ⟨c_, rfl, rfl⟩)))⟩))
    rcases q28 with ⟨c_, rfl, hm_⟩ | ⟨c_, rfl, hm_⟩ | ⟨c_, rfl, hm_⟩
    · replace h := h.1 c_ m27 hm_
      refine ch_istore (i := 7) d_l_law_1532 (Nat.le_of_ble_eq_true rfl) (ls' := [some (.inr (11, 0, 0)), some (.inr (0, 0, 0)), some (.inr (9, 0, 0)), some (.inr (10, 0, 1)), some (.inr (10, 0, 2)), some (.inl (.int x5)), some (.inl (.int 1)), some (.inl (.int (x_rk Y_25 ((ch_scr g).2.2 (Int32.toNatClampNeg (x5 + 1))) ((ch_scr g).2.2 (Int32.toNatClampNeg (x5 + 2))) (Int32.toNatClampNeg (Y_25 0 8))))), o8, o9]) rfl ?_
      refine ch_aload_n (i := 2) d_l_law_1534 rfl rfl ?_
      refine ch_callV (as := []) d_l_law_1535 lk_l_129 mi_m_thrown me_m_thrown rfl rfl rfl (ch_hR hR (Nat.le_of_ble_eq_true rfl)) (Nat.le_of_ble_eq_true rfl) (ch_rc1 (k := k) (a := 1) (b := 0) hcs (Nat.le_of_ble_eq_true rfl)) (ch_mono (ch_Ki (fun r32 m33 q34 => ?_)) (s_m_thrown g (fun (r_ : Int32) (m_ : ch_M) => ((m27 (9, 0, 0) 19) = r_ ∧ m27 = m_))  m27 ⟨rfl, rfl⟩))
      obtain ⟨rfl, rfl⟩ := q34
      replace h := h
      refine ch_iload d_l_law_1538 rfl ?_
      refine ch_icmp_eq (tgt := 1545) d_l_law_1540 (by decide) (fun c => ?_) (fun c => ?_)
      · replace h := h.1 c
        refine ch_iload d_l_law_1545 rfl ?_
        refine ch_if_ne (tgt := 1562) d_l_law_1547 (by decide) (fun _ => ?_) (fun c => absurd c (by decide))
        refine ch_goto (tgt := 2096) d_l_law_1562 (by decide) ?_
        exact h
      · replace h := h.2 c
        refine ch_iconst (v := 0) d_l_law_1543 (by decide) ?_
        exact h
    · replace h := h.2.1 c_ m27 hm_
      refine ch_istore (i := 7) d_l_law_1532 (Nat.le_of_ble_eq_true rfl) (ls' := [some (.inr (11, 0, 0)), some (.inr (0, 0, 0)), some (.inr (9, 0, 0)), some (.inr (10, 0, 1)), some (.inr (10, 0, 2)), some (.inl (.int x5)), some (.inl (.int 1)), some (.inl (.int 0)), o8, o9]) rfl ?_
      refine ch_aload_n (i := 2) d_l_law_1534 rfl rfl ?_
      refine ch_callV (as := []) d_l_law_1535 lk_l_129 mi_m_thrown me_m_thrown rfl rfl rfl (ch_hR hR (Nat.le_of_ble_eq_true rfl)) (Nat.le_of_ble_eq_true rfl) (ch_rc1 (k := k) (a := 1) (b := 0) hcs (Nat.le_of_ble_eq_true rfl)) (ch_mono (ch_Ki (fun r35 m36 q37 => ?_)) (s_m_thrown g (fun (r_ : Int32) (m_ : ch_M) => ((m27 (9, 0, 0) 19) = r_ ∧ m27 = m_))  m27 ⟨rfl, rfl⟩))
      obtain ⟨rfl, rfl⟩ := q37
      replace h := h
      refine ch_iload d_l_law_1538 rfl ?_
      refine ch_icmp_eq (tgt := 1545) d_l_law_1540 (by decide) (fun c => ?_) (fun c => ?_)
      · replace h := h.1 c
        refine ch_iload d_l_law_1545 rfl ?_
        refine ch_if_ne (tgt := 1562) d_l_law_1547 (by decide) (fun _ => ?_) (fun c => absurd c (by decide))
        refine ch_goto (tgt := 2096) d_l_law_1562 (by decide) ?_
        exact h
      · replace h := h.2 c
        refine ch_iconst (v := 0) d_l_law_1543 (by decide) ?_
        exact h
    · replace h := h.2.2 c_ m27 hm_
      refine ch_istore (i := 7) d_l_law_1532 (Nat.le_of_ble_eq_true rfl) (ls' := [some (.inr (11, 0, 0)), some (.inr (0, 0, 0)), some (.inr (9, 0, 0)), some (.inr (10, 0, 1)), some (.inr (10, 0, 2)), some (.inl (.int x5)), some (.inl (.int 1)), some (.inl (.int 0)), o8, o9]) rfl ?_
      refine ch_aload_n (i := 2) d_l_law_1534 rfl rfl ?_
      refine ch_callV (as := []) d_l_law_1535 lk_l_129 mi_m_thrown me_m_thrown rfl rfl rfl (ch_hR hR (Nat.le_of_ble_eq_true rfl)) (Nat.le_of_ble_eq_true rfl) (ch_rc1 (k := k) (a := 1) (b := 0) hcs (Nat.le_of_ble_eq_true rfl)) (ch_mono (ch_Ki (fun r38 m39 q40 => ?_)) (s_m_thrown g (fun (r_ : Int32) (m_ : ch_M) => ((m27 (9, 0, 0) 19) = r_ ∧ m27 = m_))  m27 ⟨rfl, rfl⟩))
      obtain ⟨rfl, rfl⟩ := q40
      replace h := h
      refine ch_iload d_l_law_1538 rfl ?_
      refine ch_icmp_eq (tgt := 1545) d_l_law_1540 (by decide) (fun c => ?_) (fun c => ?_)
      · replace h := h.1 c
        refine ch_iload d_l_law_1545 rfl ?_
        refine ch_if_ne (tgt := 1562) d_l_law_1547 (by decide) (fun _ => ?_) (fun c => absurd c (by decide))
        refine ch_goto (tgt := 2096) d_l_law_1562 (by decide) ?_
        exact h
      · replace h := h.2 c
        refine ch_iconst (v := 0) d_l_law_1543 (by decide) ?_
        exact h
  · replace h := h.2.2 c_
    refine ch_istore (i := 6) d_l_law_1514 (Nat.le_of_ble_eq_true rfl) (ls' := [some (.inr (11, 0, 0)), some (.inr (0, 0, 0)), some (.inr (9, 0, 0)), some (.inr (10, 0, 1)), some (.inr (10, 0, 2)), some (.inl (.int x5)), some (.inl (.int 2)), o7, o8, o9]) rfl ?_
    refine ch_aload_n (i := 2) d_l_law_1516 rfl rfl ?_
    refine ch_aload_n (i := 0) d_l_law_1517 rfl rfl ?_
    refine ch_iload d_l_law_1518 rfl ?_
    refine ch_iconst (v := 1) d_l_law_1520 (by decide) ?_
    refine ch_iadd d_l_law_1521 ?_
    refine ch_sld d_l_law_1522 b1 ?_
    refine ch_aload_n (i := 0) d_l_law_1523 rfl rfl ?_
    refine ch_iload d_l_law_1524 rfl ?_
    refine ch_iconst (v := 2) d_l_law_1526 (by decide) ?_
    refine ch_iadd d_l_law_1527 ?_
    refine ch_sld d_l_law_1528 b2 ?_
    obtain ⟨T_41, h⟩ := h
    obtain ⟨Y_42, h⟩ := h
    have b46 := h.1
    replace h := h.2
    have b47 := h.1
    replace h := h.2
    have b48 := h.1
    replace h := h.2
    refine ch_callV (as := [.inl (.int ((ch_scr g).2.2 (Int32.toNatClampNeg (x5 + 1)))), .inl (.int ((ch_scr g).2.2 (Int32.toNatClampNeg (x5 + 2))))]) d_l_law_1529 lk_l_202 mi_m_ranked me_m_ranked rfl rfl rfl (ch_hR hR (Nat.le_of_ble_eq_true rfl)) (Nat.le_of_ble_eq_true rfl) (ch_rc1 (k := k) (a := 1) (b := 0) hcs (Nat.le_of_ble_eq_true rfl)) (ch_mono (ch_Ki (fun r43 m44 q45 => ?_)) (s_m_ranked g (fun (r_ : Int32) (m_ : ch_M) => (((0 ≤ ((ch_scr g).2.2 (Int32.toNatClampNeg (x5 + 1))) ∧ ((ch_scr g).2.2 (Int32.toNatClampNeg (x5 + 1))) ≤ 3) ∧ 0 ≤ ((ch_scr g).2.2 (Int32.toNatClampNeg (x5 + 2))) ∧ ((ch_scr g).2.2 (Int32.toNatClampNeg (x5 + 2))) < Y_42 0 8) ∧ (x_rk Y_42 ((ch_scr g).2.2 (Int32.toNatClampNeg (x5 + 1))) ((ch_scr g).2.2 (Int32.toNatClampNeg (x5 + 2))) (Int32.toNatClampNeg (Y_42 0 8))) = r_ ∧ m_ = ch_wr m (9, 0, 0) 19 0) ∨ ((¬ (0 ≤ ((ch_scr g).2.2 (Int32.toNatClampNeg (x5 + 1))) ∧ ((ch_scr g).2.2 (Int32.toNatClampNeg (x5 + 1))) ≤ 3)) ∧ 0 = r_ ∧ m_ = ch_wr m (9, 0, 0) 19 1) ∨ (((0 ≤ ((ch_scr g).2.2 (Int32.toNatClampNeg (x5 + 1))) ∧ ((ch_scr g).2.2 (Int32.toNatClampNeg (x5 + 1))) ≤ 3) ∧ ¬ (0 ≤ ((ch_scr g).2.2 (Int32.toNatClampNeg (x5 + 2))) ∧ ((ch_scr g).2.2 (Int32.toNatClampNeg (x5 + 2))) < Y_42 0 8)) ∧ 0 = r_ ∧ m_ = ch_wr m (9, 0, 0) 19 2)) (T_41) (Y_42) (((ch_scr g).2.2 (Int32.toNatClampNeg (x5 + 1)))) (((ch_scr g).2.2 (Int32.toNatClampNeg (x5 + 2)))) m ⟨b46, b47, b48, (fun c_ => (Or.inl ⟨c_, rfl, rfl⟩)), (fun c_ => (Or.inr (Or.inl ⟨c_, rfl, rfl⟩))), (fun c_ => (Or.inr (Or.inr ⟨c_, rfl, rfl⟩)))⟩))
    rcases q45 with ⟨c_, rfl, hm_⟩ | ⟨c_, rfl, hm_⟩ | ⟨c_, rfl, hm_⟩
    · replace h := h.1 c_ m44 hm_
      refine ch_istore (i := 7) d_l_law_1532 (Nat.le_of_ble_eq_true rfl) (ls' := [some (.inr (11, 0, 0)), some (.inr (0, 0, 0)), some (.inr (9, 0, 0)), some (.inr (10, 0, 1)), some (.inr (10, 0, 2)), some (.inl (.int x5)), some (.inl (.int 2)), some (.inl (.int (x_rk Y_42 ((ch_scr g).2.2 (Int32.toNatClampNeg (x5 + 1))) ((ch_scr g).2.2 (Int32.toNatClampNeg (x5 + 2))) (Int32.toNatClampNeg (Y_42 0 8))))), o8, o9]) rfl ?_
      refine ch_aload_n (i := 2) d_l_law_1534 rfl rfl ?_
      refine ch_callV (as := []) d_l_law_1535 lk_l_129 mi_m_thrown me_m_thrown rfl rfl rfl (ch_hR hR (Nat.le_of_ble_eq_true rfl)) (Nat.le_of_ble_eq_true rfl) (ch_rc1 (k := k) (a := 1) (b := 0) hcs (Nat.le_of_ble_eq_true rfl)) (ch_mono (ch_Ki (fun r49 m50 q51 => ?_)) (s_m_thrown g (fun (r_ : Int32) (m_ : ch_M) => ((m44 (9, 0, 0) 19) = r_ ∧ m44 = m_))  m44 ⟨rfl, rfl⟩))
      obtain ⟨rfl, rfl⟩ := q51
      replace h := h
      refine ch_iload d_l_law_1538 rfl ?_
      refine ch_icmp_eq (tgt := 1545) d_l_law_1540 (by decide) (fun c => ?_) (fun c => ?_)
      · replace h := h.1 c
        refine ch_iload d_l_law_1545 rfl ?_
        refine ch_if_ne (tgt := 1562) d_l_law_1547 (by decide) (fun _ => ?_) (fun c => absurd c (by decide))
        refine ch_goto (tgt := 2096) d_l_law_1562 (by decide) ?_
        exact h
      · replace h := h.2 c
        refine ch_iconst (v := 0) d_l_law_1543 (by decide) ?_
        exact h
    · replace h := h.2.1 c_ m44 hm_
      refine ch_istore (i := 7) d_l_law_1532 (Nat.le_of_ble_eq_true rfl) (ls' := [some (.inr (11, 0, 0)), some (.inr (0, 0, 0)), some (.inr (9, 0, 0)), some (.inr (10, 0, 1)), some (.inr (10, 0, 2)), some (.inl (.int x5)), some (.inl (.int 2)), some (.inl (.int 0)), o8, o9]) rfl ?_
      refine ch_aload_n (i := 2) d_l_law_1534 rfl rfl ?_
      refine ch_callV (as := []) d_l_law_1535 lk_l_129 mi_m_thrown me_m_thrown rfl rfl rfl (ch_hR hR (Nat.le_of_ble_eq_true rfl)) (Nat.le_of_ble_eq_true rfl) (ch_rc1 (k := k) (a := 1) (b := 0) hcs (Nat.le_of_ble_eq_true rfl)) (ch_mono (ch_Ki (fun r52 m53 q54 => ?_)) (s_m_thrown g (fun (r_ : Int32) (m_ : ch_M) => ((m44 (9, 0, 0) 19) = r_ ∧ m44 = m_))  m44 ⟨rfl, rfl⟩))
      obtain ⟨rfl, rfl⟩ := q54
      replace h := h
      refine ch_iload d_l_law_1538 rfl ?_
      refine ch_icmp_eq (tgt := 1545) d_l_law_1540 (by decide) (fun c => ?_) (fun c => ?_)
      · replace h := h.1 c
        refine ch_iload d_l_law_1545 rfl ?_
        refine ch_if_ne (tgt := 1562) d_l_law_1547 (by decide) (fun _ => ?_) (fun c => absurd c (by decide))
        refine ch_goto (tgt := 2096) d_l_law_1562 (by decide) ?_
        exact h
      · replace h := h.2 c
        refine ch_iconst (v := 0) d_l_law_1543 (by decide) ?_
        exact h
    · replace h := h.2.2 c_ m44 hm_
      refine ch_istore (i := 7) d_l_law_1532 (Nat.le_of_ble_eq_true rfl) (ls' := [some (.inr (11, 0, 0)), some (.inr (0, 0, 0)), some (.inr (9, 0, 0)), some (.inr (10, 0, 1)), some (.inr (10, 0, 2)), some (.inl (.int x5)), some (.inl (.int 2)), some (.inl (.int 0)), o8, o9]) rfl ?_
      refine ch_aload_n (i := 2) d_l_law_1534 rfl rfl ?_
      refine ch_callV (as := []) d_l_law_1535 lk_l_129 mi_m_thrown me_m_thrown rfl rfl rfl (ch_hR hR (Nat.le_of_ble_eq_true rfl)) (Nat.le_of_ble_eq_true rfl) (ch_rc1 (k := k) (a := 1) (b := 0) hcs (Nat.le_of_ble_eq_true rfl)) (ch_mono (ch_Ki (fun r55 m56 q57 => ?_)) (s_m_thrown g (fun (r_ : Int32) (m_ : ch_M) => ((m44 (9, 0, 0) 19) = r_ ∧ m44 = m_))  m44 ⟨rfl, rfl⟩))
      obtain ⟨rfl, rfl⟩ := q57
      replace h := h
      refine ch_iload d_l_law_1538 rfl ?_
      refine ch_icmp_eq (tgt := 1545) d_l_law_1540 (by decide) (fun c => ?_) (fun c => ?_)
      · replace h := h.1 c
        refine ch_iload d_l_law_1545 rfl ?_
        refine ch_if_ne (tgt := 1562) d_l_law_1547 (by decide) (fun _ => ?_) (fun c => absurd c (by decide))
        refine ch_goto (tgt := 2096) d_l_law_1562 (by decide) ?_
        exact h
      · replace h := h.2 c
        refine ch_iconst (v := 0) d_l_law_1543 (by decide) ?_
        exact h
set_option maxHeartbeats 1600000 in
theorem g_l_law_1565 (g : ch_G) (R : Room) (E : ch_En) (k : Nat) (hR : ch_RR R 18) (hcs : k + 40 ≤ R.cells ∧ 6 * k + 240 ≤ R.slots) (x5 : Int32) (o6 : Option ch_V) (o7 : Option ch_V) (o8 : Option ch_V) (o9 : Option ch_V) (m : ch_M) (h : (vp_in (m (1, 0, 0) 8) 6) ∧ (((x_ev (ch_ob m 1 0)) → ((∀ m6 : ch_M, m6 = ch_wr m (9, 0, 0) 19 0 → ch_J g m_l_law R E 2096 [some (.inr (11, 0, 0)), some (.inr (0, 0, 0)), some (.inr (9, 0, 0)), some (.inr (10, 0, 1)), some (.inr (10, 0, 2)), some (.inl (.int x5)), o6, o7, o8, o9] [] m6 k))) ∧ ((¬ x_ev (ch_ob m 1 0)) → ((∀ m9 : ch_M, m9 = ch_wr m (9, 0, 0) 19 0 → ch_J g m_l_law R E 1577 [some (.inr (11, 0, 0)), some (.inr (0, 0, 0)), some (.inr (9, 0, 0)), some (.inr (10, 0, 1)), some (.inr (10, 0, 2)), some (.inl (.int x5)), o6, o7, o8, o9] [.inl (.int 0)] m9 k))))) : ch_J g m_l_law R E 1565 [some (.inr (11, 0, 0)), some (.inr (0, 0, 0)), some (.inr (9, 0, 0)), some (.inr (10, 0, 1)), some (.inr (10, 0, 2)), some (.inl (.int x5)), o6, o7, o8, o9] [] m k := by
  refine ch_aload_n (i := 1) d_l_law_1565 rfl rfl ?_
  have b4 := h.1
  replace h := h.2
  refine ch_callV (as := []) d_l_law_1566 lk_l_203 mi_x_isEven me_x_isEven rfl rfl rfl (ch_hR hR (Nat.le_of_ble_eq_true rfl)) (Nat.le_of_ble_eq_true rfl) (ch_rc0 (k := k) (b := 0) hcs (Nat.le_of_ble_eq_true rfl)) (ch_mono (ch_Ki (fun r1 m2 q3 => ?_)) (s_x_isEven g (fun (r_ : Int32) (m_ : ch_M) => ((x_ev (ch_ob m 1 0)) ∧ 1 = r_ ∧ m = m_) ∨ ((¬ x_ev (ch_ob m 1 0)) ∧ 0 = r_ ∧ m = m_))  m ⟨b4, (fun c_ => (Or.inl ⟨c_, rfl, rfl⟩)), (fun c_ => (Or.inr ⟨c_, rfl, rfl⟩))⟩))
  rcases q3 with ⟨c_, rfl, rfl⟩ | ⟨c_, rfl, rfl⟩
  · replace h := h.1 c_
    refine ch_aload_n (i := 2) d_l_law_1569 rfl rfl ?_
    refine ch_callV (as := []) d_l_law_1570 lk_l_207 mi_m_isEven me_m_isEven rfl rfl rfl (ch_hR hR (Nat.le_of_ble_eq_true rfl)) (Nat.le_of_ble_eq_true rfl) (ch_rc0 (k := k) (b := 0) hcs (Nat.le_of_ble_eq_true rfl)) (ch_mono (ch_Ki (fun r5 m6 q7 => ?_)) (s_m_isEven g (fun (r_ : Int32) (m_ : ch_M) => (1 = r_ ∧ m_ = ch_wr m (9, 0, 0) 19 0))  m ⟨rfl, rfl⟩))
    obtain ⟨rfl, hm_⟩ := q7
    replace h := h m6 hm_
    refine ch_icmp_eq (tgt := 2096) d_l_law_1573 (by decide) (fun _ => ?_) (fun c => absurd c (by decide))
    exact h
  · replace h := h.2 c_
    refine ch_aload_n (i := 2) d_l_law_1569 rfl rfl ?_
    refine ch_callV (as := []) d_l_law_1570 lk_l_207 mi_m_isEven me_m_isEven rfl rfl rfl (ch_hR hR (Nat.le_of_ble_eq_true rfl)) (Nat.le_of_ble_eq_true rfl) (ch_rc0 (k := k) (b := 0) hcs (Nat.le_of_ble_eq_true rfl)) (ch_mono (ch_Ki (fun r8 m9 q10 => ?_)) (s_m_isEven g (fun (r_ : Int32) (m_ : ch_M) => (1 = r_ ∧ m_ = ch_wr m (9, 0, 0) 19 0))  m ⟨rfl, rfl⟩))
    obtain ⟨rfl, hm_⟩ := q10
    replace h := h m9 hm_
    refine ch_icmp_eq (tgt := 2096) d_l_law_1573 (by decide) (fun c => absurd c (by decide)) (fun _ => ?_)
    refine ch_iconst (v := 0) d_l_law_1576 (by decide) ?_
    exact h
set_option maxHeartbeats 1600000 in
theorem g_l_law_1578 (g : ch_G) (R : Room) (E : ch_En) (k : Nat) (hR : ch_RR R 18) (hcs : k + 40 ≤ R.cells ∧ 6 * k + 240 ≤ R.slots) (x5 : Int32) (o6 : Option ch_V) (o7 : Option ch_V) (o8 : Option ch_V) (o9 : Option ch_V) (m : ch_M) (h : (vp_in (x5 + 1) (ch_scr g).2.1) ∧ (vp_in (m (6, 0, 0) 1) 61) ∧ (((m (6, 0, 0) 1 < 60) → (∀ m3 : ch_M, m3 = (ch_wr (ch_os m 6 0 (t_putB (ch_ob m 6 0) ((Int32.toUInt32 ((ch_scr g).2.2 (Int32.toNatClampNeg (x5 + 1))) % 65536).toInt32))) (10, 0, 1) 0 (m (6, 0, 0) 1 + 1)) → (vp_in (m3 (9, 0, 0) 10) 61) ∧ (((¬ m3 (9, 0, 0) 10 = 60) → (∀ m7 : ch_M, m7 = ch_wr (ch_wr (ch_wr m3 (9, 0, 0) 19 0) (9, 0, 0) 10 (m3 (9, 0, 0) 10 + 1)) (9, 0, 7) (Int32.toNatClampNeg (m3 (9, 0, 0) 10)) (vp_nar .char ((Int32.toUInt32 ((ch_scr g).2.2 (Int32.toNatClampNeg (x5 + 1))) % 65536).toInt32)) → ((((m7 (9, 0, 0) 19) = 0 → (((lg_cmp ((m7 (10, 0, 1) (0))).toInt64 ((m3 (9, 0, 0) 10 + 1)).toInt64) = 0 → ch_J g m_l_law R E 2096 [some (.inr (11, 0, 0)), some (.inr (0, 0, 0)), some (.inr (9, 0, 0)), some (.inr (10, 0, 1)), some (.inr (10, 0, 2)), some (.inl (.int x5)), some (.inl (.int 0)), some (.inl (.int (m3 (9, 0, 0) 10 + 1))), o8, o9] [] m7 (k + 1)) ∧ (¬ (lg_cmp ((m7 (10, 0, 1) (0))).toInt64 ((m3 (9, 0, 0) 10 + 1)).toInt64) = 0 → ch_J g m_l_law R E 1632 [some (.inr (11, 0, 0)), some (.inr (0, 0, 0)), some (.inr (9, 0, 0)), some (.inr (10, 0, 1)), some (.inr (10, 0, 2)), some (.inl (.int x5)), some (.inl (.int 0)), some (.inl (.int (m3 (9, 0, 0) 10 + 1))), o8, o9] [.inl (.int 0)] m7 (k + 1)))) ∧ (¬ (m7 (9, 0, 0) 19) = 0 → ch_J g m_l_law R E 1615 [some (.inr (11, 0, 0)), some (.inr (0, 0, 0)), some (.inr (9, 0, 0)), some (.inr (10, 0, 1)), some (.inr (10, 0, 2)), some (.inl (.int x5)), some (.inl (.int 0)), some (.inl (.int (m3 (9, 0, 0) 10 + 1))), o8, o9] [.inl (.int 0)] m7 (k + 1)))))) ∧ ((m3 (9, 0, 0) 10 = 60) → (∀ m7 : ch_M, m7 = ch_wr m3 (9, 0, 0) 19 1 → ((((m7 (9, 0, 0) 19) = 0 → (((lg_cmp ((m7 (10, 0, 1) (0))).toInt64 (0).toInt64) = 0 → ch_J g m_l_law R E 2096 [some (.inr (11, 0, 0)), some (.inr (0, 0, 0)), some (.inr (9, 0, 0)), some (.inr (10, 0, 1)), some (.inr (10, 0, 2)), some (.inl (.int x5)), some (.inl (.int 0)), some (.inl (.int 0)), o8, o9] [] m7 (k + 1)) ∧ (¬ (lg_cmp ((m7 (10, 0, 1) (0))).toInt64 (0).toInt64) = 0 → ch_J g m_l_law R E 1632 [some (.inr (11, 0, 0)), some (.inr (0, 0, 0)), some (.inr (9, 0, 0)), some (.inr (10, 0, 1)), some (.inr (10, 0, 2)), some (.inl (.int x5)), some (.inl (.int 0)), some (.inl (.int 0)), o8, o9] [.inl (.int 0)] m7 (k + 1)))) ∧ (¬ (m7 (9, 0, 0) 19) = 0 → ch_J g m_l_law R E 1615 [some (.inr (11, 0, 0)), some (.inr (0, 0, 0)), some (.inr (9, 0, 0)), some (.inr (10, 0, 1)), some (.inr (10, 0, 2)), some (.inl (.int x5)), some (.inl (.int 0)), some (.inl (.int 0)), o8, o9] [.inl (.int 0)] m7 (k + 1))))))))) ∧ ((¬ m (6, 0, 0) 1 < 60) → (vp_in (m (9, 0, 0) 10) 61) ∧ (((¬ m (9, 0, 0) 10 = 60) → (∀ m17 : ch_M, m17 = ch_wr (ch_wr (ch_wr m (9, 0, 0) 19 0) (9, 0, 0) 10 (m (9, 0, 0) 10 + 1)) (9, 0, 7) (Int32.toNatClampNeg (m (9, 0, 0) 10)) (vp_nar .char ((Int32.toUInt32 ((ch_scr g).2.2 (Int32.toNatClampNeg (x5 + 1))) % 65536).toInt32)) → ((((m17 (9, 0, 0) 19) = 1 → ch_J g m_l_law R E 2096 [some (.inr (11, 0, 0)), some (.inr (0, 0, 0)), some (.inr (9, 0, 0)), some (.inr (10, 0, 1)), some (.inr (10, 0, 2)), some (.inl (.int x5)), some (.inl (.int 1)), some (.inl (.int (m (9, 0, 0) 10 + 1))), o8, o9] [] m17 (k + 1)) ∧ (¬ (m17 (9, 0, 0) 19) = 1 → ch_J g m_l_law R E 1615 [some (.inr (11, 0, 0)), some (.inr (0, 0, 0)), some (.inr (9, 0, 0)), some (.inr (10, 0, 1)), some (.inr (10, 0, 2)), some (.inl (.int x5)), some (.inl (.int 1)), some (.inl (.int (m (9, 0, 0) 10 + 1))), o8, o9] [.inl (.int 0)] m17 (k + 1)))))) ∧ ((m (9, 0, 0) 10 = 60) → (∀ m17 : ch_M, m17 = ch_wr m (9, 0, 0) 19 1 → ((((m17 (9, 0, 0) 19) = 1 → ch_J g m_l_law R E 2096 [some (.inr (11, 0, 0)), some (.inr (0, 0, 0)), some (.inr (9, 0, 0)), some (.inr (10, 0, 1)), some (.inr (10, 0, 2)), some (.inl (.int x5)), some (.inl (.int 1)), some (.inl (.int 0)), o8, o9] [] m17 (k + 1)) ∧ (¬ (m17 (9, 0, 0) 19) = 1 → ch_J g m_l_law R E 1615 [some (.inr (11, 0, 0)), some (.inr (0, 0, 0)), some (.inr (9, 0, 0)), some (.inr (10, 0, 1)), some (.inr (10, 0, 2)), some (.inl (.int x5)), some (.inl (.int 1)), some (.inl (.int 0)), o8, o9] [.inl (.int 0)] m17 (k + 1)))))))))) : ch_J g m_l_law R E 1578 [some (.inr (11, 0, 0)), some (.inr (0, 0, 0)), some (.inr (9, 0, 0)), some (.inr (10, 0, 1)), some (.inr (10, 0, 2)), some (.inl (.int x5)), o6, o7, o8, o9] [] m k := by
  refine ch_aload_n (i := 1) d_l_law_1578 rfl rfl ?_
  refine ch_aload_n (i := 0) d_l_law_1579 rfl rfl ?_
  refine ch_iload d_l_law_1580 rfl ?_
  refine ch_iconst (v := 1) d_l_law_1582 (by decide) ?_
  refine ch_iadd d_l_law_1583 ?_
  have b1 := h.1
  replace h := h.2
  refine ch_sld d_l_law_1584 b1 ?_
  refine ch_i2c d_l_law_1585 ?_
  refine ch_aload_n (i := 3) d_l_law_1586 rfl rfl ?_
  have b5 := h.1
  replace h := h.2
  refine ch_callSX (as := [.inr (0, 0, 0), .inl (.int ((Int32.toUInt32 ((ch_scr g).2.2 (Int32.toNatClampNeg (x5 + 1))) % 65536).toInt32)), .inr (10, 0, 1)]) d_l_law_1587 lk_l_208 ms_l_append rfl rfl (ch_hR hR (Nat.le_of_ble_eq_true rfl)) (Nat.le_of_ble_eq_true rfl) (ch_rc0 (k := k) (b := 1) hcs (Nat.le_of_ble_eq_true rfl)) (ch_mono (ch_Ki (fun r2 m3 q4 => ?_)) (s_l_append g (fun (r_ : Int32) (m_ : ch_M) => ((m (6, 0, 0) 1 < 60) ∧ 0 = r_ ∧ m_ = (ch_wr (ch_os m 6 0 (t_putB (ch_ob m 6 0) ((Int32.toUInt32 ((ch_scr g).2.2 (Int32.toNatClampNeg (x5 + 1))) % 65536).toInt32))) (10, 0, 1) 0 (m (6, 0, 0) 1 + 1))) ∨ ((¬ m (6, 0, 0) 1 < 60) ∧ 1 = r_ ∧ m = m_)) (((Int32.toUInt32 ((ch_scr g).2.2 (Int32.toNatClampNeg (x5 + 1))) % 65536).toInt32)) m ⟨b5, (fun c_ => (Or.inl ⟨c_, rfl, rfl⟩)), (fun c_ => (Or.inr ⟨c_, rfl, rfl⟩))⟩))
  rcases q4 with ⟨c_, rfl, hm_⟩ | ⟨c_, rfl, rfl⟩
  · replace h := h.1 c_ m3 hm_
    refine ch_istore (i := 6) d_l_law_1590 (Nat.le_of_ble_eq_true rfl) (ls' := [some (.inr (11, 0, 0)), some (.inr (0, 0, 0)), some (.inr (9, 0, 0)), some (.inr (10, 0, 1)), some (.inr (10, 0, 2)), some (.inl (.int x5)), some (.inl (.int 0)), o7, o8, o9]) rfl ?_
    refine ch_aload_n (i := 2) d_l_law_1592 rfl rfl ?_
    refine ch_aload_n (i := 0) d_l_law_1593 rfl rfl ?_
    refine ch_iload d_l_law_1594 rfl ?_
    refine ch_iconst (v := 1) d_l_law_1596 (by decide) ?_
    refine ch_iadd d_l_law_1597 ?_
    refine ch_sld d_l_law_1598 b1 ?_
    refine ch_i2c d_l_law_1599 ?_
    have b9 := h.1
    replace h := h.2
    refine ch_callV (as := [.inl (.int ((Int32.toUInt32 ((ch_scr g).2.2 (Int32.toNatClampNeg (x5 + 1))) % 65536).toInt32))]) d_l_law_1600 lk_l_211 mi_m_append me_m_append rfl rfl rfl (ch_hR hR (Nat.le_of_ble_eq_true rfl)) (Nat.le_of_ble_eq_true rfl) (ch_rc1 (k := k) (a := 1) (b := 0) hcs (Nat.le_of_ble_eq_true rfl)) (ch_mono (ch_Ki (fun r6 m7 q8 => ?_)) (s_m_append g (fun (r_ : Int32) (m_ : ch_M) => ((¬ m3 (9, 0, 0) 10 = 60) ∧ (m3 (9, 0, 0) 10 + 1) = r_ ∧ m_ = ch_wr (ch_wr (ch_wr m3 (9, 0, 0) 19 0) (9, 0, 0) 10 (m3 (9, 0, 0) 10 + 1)) (9, 0, 7) (Int32.toNatClampNeg (m3 (9, 0, 0) 10)) (vp_nar .char ((Int32.toUInt32 ((ch_scr g).2.2 (Int32.toNatClampNeg (x5 + 1))) % 65536).toInt32))) ∨ ((m3 (9, 0, 0) 10 = 60) ∧ 0 = r_ ∧ m_ = ch_wr m3 (9, 0, 0) 19 1)) (((Int32.toUInt32 ((ch_scr g).2.2 (Int32.toNatClampNeg (x5 + 1))) % 65536).toInt32)) m3 ⟨b9, (fun c_ => (Or.inl ⟨c_, rfl, rfl⟩)), (fun c_ => (Or.inr ⟨c_, rfl, rfl⟩))⟩))
    rcases q8 with ⟨c_, rfl, hm_⟩ | ⟨c_, rfl, hm_⟩
    · replace h := h.1 c_ m7 hm_
      refine ch_istore (i := 7) d_l_law_1603 (Nat.le_of_ble_eq_true rfl) (ls' := [some (.inr (11, 0, 0)), some (.inr (0, 0, 0)), some (.inr (9, 0, 0)), some (.inr (10, 0, 1)), some (.inr (10, 0, 2)), some (.inl (.int x5)), some (.inl (.int 0)), some (.inl (.int (m3 (9, 0, 0) 10 + 1))), o8, o9]) rfl ?_
      refine ch_aload_n (i := 2) d_l_law_1605 rfl rfl ?_
      refine ch_callV (as := []) d_l_law_1606 lk_l_129 mi_m_thrown me_m_thrown rfl rfl rfl (ch_hR hR (Nat.le_of_ble_eq_true rfl)) (Nat.le_of_ble_eq_true rfl) (ch_rc1 (k := k) (a := 1) (b := 0) hcs (Nat.le_of_ble_eq_true rfl)) (ch_mono (ch_Ki (fun r10 m11 q12 => ?_)) (s_m_thrown g (fun (r_ : Int32) (m_ : ch_M) => ((m7 (9, 0, 0) 19) = r_ ∧ m7 = m_))  m7 ⟨rfl, rfl⟩))
      obtain ⟨rfl, rfl⟩ := q12
      replace h := h
      refine ch_iload d_l_law_1609 rfl ?_
      refine ch_icmp_eq (tgt := 1616) d_l_law_1611 (by decide) (fun c => ?_) (fun c => ?_)
      · replace h := h.1 c
        refine ch_iload d_l_law_1616 rfl ?_
        refine ch_if_ne (tgt := 1633) d_l_law_1618 (by decide) (fun c => absurd c (by decide)) (fun _ => ?_)
        refine ch_aload_n (i := 3) d_l_law_1621 rfl rfl ?_
        refine ch_iconst (v := 0) d_l_law_1622 (by decide) ?_
        refine ch_lald (n := 1) d_l_law_1623 (by decide) rfl (vp_in_nI (n := 0) (by decide) (by decide)) ?_
        refine ch_iload d_l_law_1624 rfl ?_
        refine ch_i2l d_l_law_1626 ?_
        refine ch_lcmp d_l_law_1627 ?_
        refine ch_if_eq (tgt := 1633) d_l_law_1628 (by decide) (fun c => ?_) (fun c => ?_)
        · replace h := h.1 c
          refine ch_goto (tgt := 2096) d_l_law_1633 (by decide) ?_
          exact h
        · replace h := h.2 c
          refine ch_iconst (v := 0) d_l_law_1631 (by decide) ?_
          exact h
      · replace h := h.2 c
        refine ch_iconst (v := 0) d_l_law_1614 (by decide) ?_
        exact h
    · replace h := h.2 c_ m7 hm_
      refine ch_istore (i := 7) d_l_law_1603 (Nat.le_of_ble_eq_true rfl) (ls' := [some (.inr (11, 0, 0)), some (.inr (0, 0, 0)), some (.inr (9, 0, 0)), some (.inr (10, 0, 1)), some (.inr (10, 0, 2)), some (.inl (.int x5)), some (.inl (.int 0)), some (.inl (.int 0)), o8, o9]) rfl ?_
      refine ch_aload_n (i := 2) d_l_law_1605 rfl rfl ?_
      refine ch_callV (as := []) d_l_law_1606 lk_l_129 mi_m_thrown me_m_thrown rfl rfl rfl (ch_hR hR (Nat.le_of_ble_eq_true rfl)) (Nat.le_of_ble_eq_true rfl) (ch_rc1 (k := k) (a := 1) (b := 0) hcs (Nat.le_of_ble_eq_true rfl)) (ch_mono (ch_Ki (fun r13 m14 q15 => ?_)) (s_m_thrown g (fun (r_ : Int32) (m_ : ch_M) => ((m7 (9, 0, 0) 19) = r_ ∧ m7 = m_))  m7 ⟨rfl, rfl⟩))
      obtain ⟨rfl, rfl⟩ := q15
      replace h := h
      refine ch_iload d_l_law_1609 rfl ?_
      refine ch_icmp_eq (tgt := 1616) d_l_law_1611 (by decide) (fun c => ?_) (fun c => ?_)
      · replace h := h.1 c
        refine ch_iload d_l_law_1616 rfl ?_
        refine ch_if_ne (tgt := 1633) d_l_law_1618 (by decide) (fun c => absurd c (by decide)) (fun _ => ?_)
        refine ch_aload_n (i := 3) d_l_law_1621 rfl rfl ?_
        refine ch_iconst (v := 0) d_l_law_1622 (by decide) ?_
        refine ch_lald (n := 1) d_l_law_1623 (by decide) rfl (vp_in_nI (n := 0) (by decide) (by decide)) ?_
        refine ch_iload d_l_law_1624 rfl ?_
        refine ch_i2l d_l_law_1626 ?_
        refine ch_lcmp d_l_law_1627 ?_
        refine ch_if_eq (tgt := 1633) d_l_law_1628 (by decide) (fun c => ?_) (fun c => ?_)
        · replace h := h.1 c
          refine ch_goto (tgt := 2096) d_l_law_1633 (by decide) ?_
          exact h
        · replace h := h.2 c
          refine ch_iconst (v := 0) d_l_law_1631 (by decide) ?_
          exact h
      · replace h := h.2 c
        refine ch_iconst (v := 0) d_l_law_1614 (by decide) ?_
        exact h
  · replace h := h.2 c_
    refine ch_istore (i := 6) d_l_law_1590 (Nat.le_of_ble_eq_true rfl) (ls' := [some (.inr (11, 0, 0)), some (.inr (0, 0, 0)), some (.inr (9, 0, 0)), some (.inr (10, 0, 1)), some (.inr (10, 0, 2)), some (.inl (.int x5)), some (.inl (.int 1)), o7, o8, o9]) rfl ?_
    refine ch_aload_n (i := 2) d_l_law_1592 rfl rfl ?_
    refine ch_aload_n (i := 0) d_l_law_1593 rfl rfl ?_
    refine ch_iload d_l_law_1594 rfl ?_
    refine ch_iconst (v := 1) d_l_law_1596 (by decide) ?_
    refine ch_iadd d_l_law_1597 ?_
    refine ch_sld d_l_law_1598 b1 ?_
    refine ch_i2c d_l_law_1599 ?_
    have b19 := h.1
    replace h := h.2
    refine ch_callV (as := [.inl (.int ((Int32.toUInt32 ((ch_scr g).2.2 (Int32.toNatClampNeg (x5 + 1))) % 65536).toInt32))]) d_l_law_1600 lk_l_211 mi_m_append me_m_append rfl rfl rfl (ch_hR hR (Nat.le_of_ble_eq_true rfl)) (Nat.le_of_ble_eq_true rfl) (ch_rc1 (k := k) (a := 1) (b := 0) hcs (Nat.le_of_ble_eq_true rfl)) (ch_mono (ch_Ki (fun r16 m17 q18 => ?_)) (s_m_append g (fun (r_ : Int32) (m_ : ch_M) => ((¬ m (9, 0, 0) 10 = 60) ∧ (m (9, 0, 0) 10 + 1) = r_ ∧ m_ = ch_wr (ch_wr (ch_wr m (9, 0, 0) 19 0) (9, 0, 0) 10 (m (9, 0, 0) 10 + 1)) (9, 0, 7) (Int32.toNatClampNeg (m (9, 0, 0) 10)) (vp_nar .char ((Int32.toUInt32 ((ch_scr g).2.2 (Int32.toNatClampNeg (x5 + 1))) % 65536).toInt32))) ∨ ((m (9, 0, 0) 10 = 60) ∧ 0 = r_ ∧ m_ = ch_wr m (9, 0, 0) 19 1)) (((Int32.toUInt32 ((ch_scr g).2.2 (Int32.toNatClampNeg (x5 + 1))) % 65536).toInt32)) m ⟨b19, (fun c_ => (Or.inl ⟨c_, rfl, rfl⟩)), (fun c_ => (Or.inr ⟨c_, rfl, rfl⟩))⟩))
    rcases q18 with ⟨c_, rfl, hm_⟩ | ⟨c_, rfl, hm_⟩
    · replace h := h.1 c_ m17 hm_
      refine ch_istore (i := 7) d_l_law_1603 (Nat.le_of_ble_eq_true rfl) (ls' := [some (.inr (11, 0, 0)), some (.inr (0, 0, 0)), some (.inr (9, 0, 0)), some (.inr (10, 0, 1)), some (.inr (10, 0, 2)), some (.inl (.int x5)), some (.inl (.int 1)), some (.inl (.int (m (9, 0, 0) 10 + 1))), o8, o9]) rfl ?_
      refine ch_aload_n (i := 2) d_l_law_1605 rfl rfl ?_
      refine ch_callV (as := []) d_l_law_1606 lk_l_129 mi_m_thrown me_m_thrown rfl rfl rfl (ch_hR hR (Nat.le_of_ble_eq_true rfl)) (Nat.le_of_ble_eq_true rfl) (ch_rc1 (k := k) (a := 1) (b := 0) hcs (Nat.le_of_ble_eq_true rfl)) (ch_mono (ch_Ki (fun r20 m21 q22 => ?_)) (s_m_thrown g (fun (r_ : Int32) (m_ : ch_M) => ((m17 (9, 0, 0) 19) = r_ ∧ m17 = m_))  m17 ⟨rfl, rfl⟩))
      obtain ⟨rfl, rfl⟩ := q22
      replace h := h
      refine ch_iload d_l_law_1609 rfl ?_
      refine ch_icmp_eq (tgt := 1616) d_l_law_1611 (by decide) (fun c => ?_) (fun c => ?_)
      · replace h := h.1 c
        refine ch_iload d_l_law_1616 rfl ?_
        refine ch_if_ne (tgt := 1633) d_l_law_1618 (by decide) (fun _ => ?_) (fun c => absurd c (by decide))
        refine ch_goto (tgt := 2096) d_l_law_1633 (by decide) ?_
        exact h
      · replace h := h.2 c
        refine ch_iconst (v := 0) d_l_law_1614 (by decide) ?_
        exact h
    · replace h := h.2 c_ m17 hm_
      refine ch_istore (i := 7) d_l_law_1603 (Nat.le_of_ble_eq_true rfl) (ls' := [some (.inr (11, 0, 0)), some (.inr (0, 0, 0)), some (.inr (9, 0, 0)), some (.inr (10, 0, 1)), some (.inr (10, 0, 2)), some (.inl (.int x5)), some (.inl (.int 1)), some (.inl (.int 0)), o8, o9]) rfl ?_
      refine ch_aload_n (i := 2) d_l_law_1605 rfl rfl ?_
      refine ch_callV (as := []) d_l_law_1606 lk_l_129 mi_m_thrown me_m_thrown rfl rfl rfl (ch_hR hR (Nat.le_of_ble_eq_true rfl)) (Nat.le_of_ble_eq_true rfl) (ch_rc1 (k := k) (a := 1) (b := 0) hcs (Nat.le_of_ble_eq_true rfl)) (ch_mono (ch_Ki (fun r23 m24 q25 => ?_)) (s_m_thrown g (fun (r_ : Int32) (m_ : ch_M) => ((m17 (9, 0, 0) 19) = r_ ∧ m17 = m_))  m17 ⟨rfl, rfl⟩))
      obtain ⟨rfl, rfl⟩ := q25
      replace h := h
      refine ch_iload d_l_law_1609 rfl ?_
      refine ch_icmp_eq (tgt := 1616) d_l_law_1611 (by decide) (fun c => ?_) (fun c => ?_)
      · replace h := h.1 c
        refine ch_iload d_l_law_1616 rfl ?_
        refine ch_if_ne (tgt := 1633) d_l_law_1618 (by decide) (fun _ => ?_) (fun c => absurd c (by decide))
        refine ch_goto (tgt := 2096) d_l_law_1633 (by decide) ?_
        exact h
      · replace h := h.2 c
        refine ch_iconst (v := 0) d_l_law_1614 (by decide) ?_
        exact h
set_option maxHeartbeats 1600000 in
theorem g_l_law_1636 (g : ch_G) (R : Room) (E : ch_En) (k : Nat) (hR : ch_RR R 18) (hcs : k + 40 ≤ R.cells ∧ 6 * k + 240 ≤ R.slots) (x5 : Int32) (o6 : Option ch_V) (o7 : Option ch_V) (o8 : Option ch_V) (o9 : Option ch_V) (m : ch_M) (h : ((x_F m).1 = -1 → x_ok 60 (x_p0 (x_b m)) ∧ (¬ (x_cc m).1 = 0 → vp_in (x_c3 m (2, 0, 0) 1) 8)) ∧ ((((x_F m).1 = -1 ∧ ¬ (x_cc m).1 = 0) → (∀ m2 : ch_M, m2 = (ch_wr (p_kM (x_c3 m) 1) (10, 0, 1) 0 ((x_cc m).1)) → (∃ T_5 : Nat, (∃ M_6 : ch_M, (m_rel (ch_ob M_6 1 0) (m2 (9, 0, 1))) ∧ (y_inv T_5 (ch_ob M_6 1 0)) ∧ (T_5 + 800 < 2 ^ 31) ∧ (0 < T_5) ∧ (m_txt (ch_ob M_6 6 0) (ch_ob m2 9 0)) ∧ (vp_in (m2 (9, 0, 0) 4) 9) ∧ (vp_in (M_6 (5, 0, 0) 1) 13) ∧ ((((x_F M_6).1 = -1 ∧ ¬ (x_cc M_6).1 = 0) → (∀ (B7 : ch_B), (m_rel (ch_ob (x_cc M_6).2 1 0) (B7 1)) → (m_push (ch_ob m2 9 0) B7) → (m_cmS (ch_ob m2 9 0) B7) → (m_rs (ch_ob m2 9 0) B7) → (B7 0 14 = -1) → (B7 0 19 = 0) → (∀ m11 : ch_M, m11 = ch_os m2 9 0 B7 → ((((m11 (9, 0, 0) 19) = 0 → (((lg_cmp ((m11 (10, 0, 1) (0))).toInt64 (((x_cc M_6).1)).toInt64) = 0 → ch_J g m_l_law R E 2096 [some (.inr (11, 0, 0)), some (.inr (0, 0, 0)), some (.inr (9, 0, 0)), some (.inr (10, 0, 1)), some (.inr (10, 0, 2)), some (.inl (.int x5)), some (.inl (.int 0)), some (.inl (.int ((x_cc M_6).1))), o8, o9] [] m11 (k + 1)) ∧ (¬ (lg_cmp ((m11 (10, 0, 1) (0))).toInt64 (((x_cc M_6).1)).toInt64) = 0 → ch_J g m_l_law R E 1676 [some (.inr (11, 0, 0)), some (.inr (0, 0, 0)), some (.inr (9, 0, 0)), some (.inr (10, 0, 1)), some (.inr (10, 0, 2)), some (.inl (.int x5)), some (.inl (.int 0)), some (.inl (.int ((x_cc M_6).1))), o8, o9] [.inl (.int 0)] m11 (k + 1)))) ∧ (¬ (m11 (9, 0, 0) 19) = 0 → ch_J g m_l_law R E 1659 [some (.inr (11, 0, 0)), some (.inr (0, 0, 0)), some (.inr (9, 0, 0)), some (.inr (10, 0, 1)), some (.inr (10, 0, 2)), some (.inl (.int x5)), some (.inl (.int 0)), some (.inl (.int ((x_cc M_6).1))), o8, o9] [.inl (.int 0)] m11 (k + 1))))))) ∧ ((¬ (x_F M_6).1 = -1) → (∀ (B8 : ch_B), (m_cmS (ch_ob m2 9 0) B8) → (m_rs (ch_ob m2 9 0) B8) → (B8 0 14 = (x_F M_6).1) → (B8 0 19 = 1) → (m_same (ch_ob m2 9 0) B8) → (∀ m11 : ch_M, m11 = ch_os m2 9 0 B8 → ((((m11 (9, 0, 0) 19) = 0 → (((lg_cmp ((m11 (10, 0, 1) (0))).toInt64 (0).toInt64) = 0 → ch_J g m_l_law R E 2096 [some (.inr (11, 0, 0)), some (.inr (0, 0, 0)), some (.inr (9, 0, 0)), some (.inr (10, 0, 1)), some (.inr (10, 0, 2)), some (.inl (.int x5)), some (.inl (.int 0)), some (.inl (.int 0)), o8, o9] [] m11 (k + 1)) ∧ (¬ (lg_cmp ((m11 (10, 0, 1) (0))).toInt64 (0).toInt64) = 0 → ch_J g m_l_law R E 1676 [some (.inr (11, 0, 0)), some (.inr (0, 0, 0)), some (.inr (9, 0, 0)), some (.inr (10, 0, 1)), some (.inr (10, 0, 2)), some (.inl (.int x5)), some (.inl (.int 0)), some (.inl (.int 0)), o8, o9] [.inl (.int 0)] m11 (k + 1)))) ∧ (¬ (m11 (9, 0, 0) 19) = 0 → ch_J g m_l_law R E 1659 [some (.inr (11, 0, 0)), some (.inr (0, 0, 0)), some (.inr (9, 0, 0)), some (.inr (10, 0, 1)), some (.inr (10, 0, 2)), some (.inl (.int x5)), some (.inl (.int 0)), some (.inl (.int 0)), o8, o9] [.inl (.int 0)] m11 (k + 1))))))) ∧ (((x_F M_6).1 = -1 ∧ (x_cc M_6).1 = 0) → (∀ (B9 : ch_B), (m_cmS (ch_ob m2 9 0) B9) → (B9 0 14 = -1) → (B9 0 19 = 2) → (m_same (ch_ob m2 9 0) B9) → (m_rsM (x_cc M_6).2 B9) → (∀ m11 : ch_M, m11 = ch_os m2 9 0 B9 → ((((m11 (9, 0, 0) 19) = 0 → (((lg_cmp ((m11 (10, 0, 1) (0))).toInt64 (0).toInt64) = 0 → ch_J g m_l_law R E 2096 [some (.inr (11, 0, 0)), some (.inr (0, 0, 0)), some (.inr (9, 0, 0)), some (.inr (10, 0, 1)), some (.inr (10, 0, 2)), some (.inl (.int x5)), some (.inl (.int 0)), some (.inl (.int 0)), o8, o9] [] m11 (k + 1)) ∧ (¬ (lg_cmp ((m11 (10, 0, 1) (0))).toInt64 (0).toInt64) = 0 → ch_J g m_l_law R E 1676 [some (.inr (11, 0, 0)), some (.inr (0, 0, 0)), some (.inr (9, 0, 0)), some (.inr (10, 0, 1)), some (.inr (10, 0, 2)), some (.inl (.int x5)), some (.inl (.int 0)), some (.inl (.int 0)), o8, o9] [.inl (.int 0)] m11 (k + 1)))) ∧ (¬ (m11 (9, 0, 0) 19) = 0 → ch_J g m_l_law R E 1659 [some (.inr (11, 0, 0)), some (.inr (0, 0, 0)), some (.inr (9, 0, 0)), some (.inr (10, 0, 1)), some (.inr (10, 0, 2)), some (.inl (.int x5)), some (.inl (.int 0)), some (.inl (.int 0)), o8, o9] [.inl (.int 0)] m11 (k + 1)))))))))))) ∧ ((¬ (x_F m).1 = -1) → (∀ m2 : ch_M, m2 = x_cl (x_f1 m) → (∃ T_29 : Nat, (∃ M_30 : ch_M, (m_rel (ch_ob M_30 1 0) (m2 (9, 0, 1))) ∧ (y_inv T_29 (ch_ob M_30 1 0)) ∧ (T_29 + 800 < 2 ^ 31) ∧ (0 < T_29) ∧ (m_txt (ch_ob M_30 6 0) (ch_ob m2 9 0)) ∧ (vp_in (m2 (9, 0, 0) 4) 9) ∧ (vp_in (M_30 (5, 0, 0) 1) 13) ∧ ((((x_F M_30).1 = -1 ∧ ¬ (x_cc M_30).1 = 0) → (∀ (B31 : ch_B), (m_rel (ch_ob (x_cc M_30).2 1 0) (B31 1)) → (m_push (ch_ob m2 9 0) B31) → (m_cmS (ch_ob m2 9 0) B31) → (m_rs (ch_ob m2 9 0) B31) → (B31 0 14 = -1) → (B31 0 19 = 0) → (∀ m35 : ch_M, m35 = ch_os m2 9 0 B31 → ((((m35 (9, 0, 0) 19) = 1 → ch_J g m_l_law R E 2096 [some (.inr (11, 0, 0)), some (.inr (0, 0, 0)), some (.inr (9, 0, 0)), some (.inr (10, 0, 1)), some (.inr (10, 0, 2)), some (.inl (.int x5)), some (.inl (.int 1)), some (.inl (.int ((x_cc M_30).1))), o8, o9] [] m35 (k + 1)) ∧ (¬ (m35 (9, 0, 0) 19) = 1 → ch_J g m_l_law R E 1659 [some (.inr (11, 0, 0)), some (.inr (0, 0, 0)), some (.inr (9, 0, 0)), some (.inr (10, 0, 1)), some (.inr (10, 0, 2)), some (.inl (.int x5)), some (.inl (.int 1)), some (.inl (.int ((x_cc M_30).1))), o8, o9] [.inl (.int 0)] m35 (k + 1))))))) ∧ ((¬ (x_F M_30).1 = -1) → (∀ (B32 : ch_B), (m_cmS (ch_ob m2 9 0) B32) → (m_rs (ch_ob m2 9 0) B32) → (B32 0 14 = (x_F M_30).1) → (B32 0 19 = 1) → (m_same (ch_ob m2 9 0) B32) → (∀ m35 : ch_M, m35 = ch_os m2 9 0 B32 → ((((m35 (9, 0, 0) 19) = 1 → ch_J g m_l_law R E 2096 [some (.inr (11, 0, 0)), some (.inr (0, 0, 0)), some (.inr (9, 0, 0)), some (.inr (10, 0, 1)), some (.inr (10, 0, 2)), some (.inl (.int x5)), some (.inl (.int 1)), some (.inl (.int 0)), o8, o9] [] m35 (k + 1)) ∧ (¬ (m35 (9, 0, 0) 19) = 1 → ch_J g m_l_law R E 1659 [some (.inr (11, 0, 0)), some (.inr (0, 0, 0)), some (.inr (9, 0, 0)), some (.inr (10, 0, 1)), some (.inr (10, 0, 2)), some (.inl (.int x5)), some (.inl (.int 1)), some (.inl (.int 0)), o8, o9] [.inl (.int 0)] m35 (k + 1))))))) ∧ (((x_F M_30).1 = -1 ∧ (x_cc M_30).1 = 0) → (∀ (B33 : ch_B), (m_cmS (ch_ob m2 9 0) B33) → (B33 0 14 = -1) → (B33 0 19 = 2) → (m_same (ch_ob m2 9 0) B33) → (m_rsM (x_cc M_30).2 B33) → (∀ m35 : ch_M, m35 = ch_os m2 9 0 B33 → ((((m35 (9, 0, 0) 19) = 1 → ch_J g m_l_law R E 2096 [some (.inr (11, 0, 0)), some (.inr (0, 0, 0)), some (.inr (9, 0, 0)), some (.inr (10, 0, 1)), some (.inr (10, 0, 2)), some (.inl (.int x5)), some (.inl (.int 1)), some (.inl (.int 0)), o8, o9] [] m35 (k + 1)) ∧ (¬ (m35 (9, 0, 0) 19) = 1 → ch_J g m_l_law R E 1659 [some (.inr (11, 0, 0)), some (.inr (0, 0, 0)), some (.inr (9, 0, 0)), some (.inr (10, 0, 1)), some (.inr (10, 0, 2)), some (.inl (.int x5)), some (.inl (.int 1)), some (.inl (.int 0)), o8, o9] [.inl (.int 0)] m35 (k + 1)))))))))))) ∧ (((x_F m).1 = -1 ∧ (x_cc m).1 = 0) → (∀ m2 : ch_M, m2 = ch_os (x_c3 m) 1 0 (y_cp (ch_ob (x_c3 m) 1 1) (ch_ob (x_c3 m) 1 0)) → (∃ T_53 : Nat, (∃ M_54 : ch_M, (m_rel (ch_ob M_54 1 0) (m2 (9, 0, 1))) ∧ (y_inv T_53 (ch_ob M_54 1 0)) ∧ (T_53 + 800 < 2 ^ 31) ∧ (0 < T_53) ∧ (m_txt (ch_ob M_54 6 0) (ch_ob m2 9 0)) ∧ (vp_in (m2 (9, 0, 0) 4) 9) ∧ (vp_in (M_54 (5, 0, 0) 1) 13) ∧ ((((x_F M_54).1 = -1 ∧ ¬ (x_cc M_54).1 = 0) → (∀ (B55 : ch_B), (m_rel (ch_ob (x_cc M_54).2 1 0) (B55 1)) → (m_push (ch_ob m2 9 0) B55) → (m_cmS (ch_ob m2 9 0) B55) → (m_rs (ch_ob m2 9 0) B55) → (B55 0 14 = -1) → (B55 0 19 = 0) → (∀ m59 : ch_M, m59 = ch_os m2 9 0 B55 → ((((m59 (9, 0, 0) 19) = 2 → ch_J g m_l_law R E 2096 [some (.inr (11, 0, 0)), some (.inr (0, 0, 0)), some (.inr (9, 0, 0)), some (.inr (10, 0, 1)), some (.inr (10, 0, 2)), some (.inl (.int x5)), some (.inl (.int 2)), some (.inl (.int ((x_cc M_54).1))), o8, o9] [] m59 (k + 1)) ∧ (¬ (m59 (9, 0, 0) 19) = 2 → ch_J g m_l_law R E 1659 [some (.inr (11, 0, 0)), some (.inr (0, 0, 0)), some (.inr (9, 0, 0)), some (.inr (10, 0, 1)), some (.inr (10, 0, 2)), some (.inl (.int x5)), some (.inl (.int 2)), some (.inl (.int ((x_cc M_54).1))), o8, o9] [.inl (.int 0)] m59 (k + 1))))))) ∧ ((¬ (x_F M_54).1 = -1) → (∀ (B56 : ch_B), (m_cmS (ch_ob m2 9 0) B56) → (m_rs (ch_ob m2 9 0) B56) → (B56 0 14 = (x_F M_54).1) → (B56 0 19 = 1) → (m_same (ch_ob m2 9 0) B56) → (∀ m59 : ch_M, m59 = ch_os m2 9 0 B56 → ((((m59 (9, 0, 0) 19) = 2 → ch_J g m_l_law R E 2096 [some (.inr (11, 0, 0)), some (.inr (0, 0, 0)), some (.inr (9, 0, 0)), some (.inr (10, 0, 1)), some (.inr (10, 0, 2)), some (.inl (.int x5)), some (.inl (.int 2)), some (.inl (.int 0)), o8, o9] [] m59 (k + 1)) ∧ (¬ (m59 (9, 0, 0) 19) = 2 → ch_J g m_l_law R E 1659 [some (.inr (11, 0, 0)), some (.inr (0, 0, 0)), some (.inr (9, 0, 0)), some (.inr (10, 0, 1)), some (.inr (10, 0, 2)), some (.inl (.int x5)), some (.inl (.int 2)), some (.inl (.int 0)), o8, o9] [.inl (.int 0)] m59 (k + 1))))))) ∧ (((x_F M_54).1 = -1 ∧ (x_cc M_54).1 = 0) → (∀ (B57 : ch_B), (m_cmS (ch_ob m2 9 0) B57) → (B57 0 14 = -1) → (B57 0 19 = 2) → (m_same (ch_ob m2 9 0) B57) → (m_rsM (x_cc M_54).2 B57) → (∀ m59 : ch_M, m59 = ch_os m2 9 0 B57 → ((((m59 (9, 0, 0) 19) = 2 → ch_J g m_l_law R E 2096 [some (.inr (11, 0, 0)), some (.inr (0, 0, 0)), some (.inr (9, 0, 0)), some (.inr (10, 0, 1)), some (.inr (10, 0, 2)), some (.inl (.int x5)), some (.inl (.int 2)), some (.inl (.int 0)), o8, o9] [] m59 (k + 1)) ∧ (¬ (m59 (9, 0, 0) 19) = 2 → ch_J g m_l_law R E 1659 [some (.inr (11, 0, 0)), some (.inr (0, 0, 0)), some (.inr (9, 0, 0)), some (.inr (10, 0, 1)), some (.inr (10, 0, 2)), some (.inl (.int x5)), some (.inl (.int 2)), some (.inl (.int 0)), o8, o9] [.inl (.int 0)] m59 (k + 1)))))))))))))) : ch_J g m_l_law R E 1636 [some (.inr (11, 0, 0)), some (.inr (0, 0, 0)), some (.inr (9, 0, 0)), some (.inr (10, 0, 1)), some (.inr (10, 0, 2)), some (.inl (.int x5)), o6, o7, o8, o9] [] m k := by
  refine ch_aload_n (i := 1) d_l_law_1636 rfl rfl ?_
  refine ch_aload_n (i := 3) d_l_law_1637 rfl rfl ?_
  have b4 := h.1
  replace h := h.2
  refine ch_callSX (as := [.inr (0, 0, 0), .inr (10, 0, 1)]) d_l_law_1638 lk_l_212 ms_l_commands rfl rfl (ch_hR hR (Nat.le_of_ble_eq_true rfl)) (Nat.le_of_ble_eq_true rfl) (ch_rc0 (k := k) (b := 1) hcs (Nat.le_of_ble_eq_true rfl)) (ch_mono (ch_Ki (fun r1 m2 q3 => ?_)) (s_l_commands g (fun (r_ : Int32) (m_ : ch_M) => (((x_F m).1 = -1 ∧ ¬ (x_cc m).1 = 0) ∧ 0 = r_ ∧ m_ = (ch_wr (p_kM (x_c3 m) 1) (10, 0, 1) 0 ((x_cc m).1))) ∨ ((¬ (x_F m).1 = -1) ∧ 1 = r_ ∧ m_ = x_cl (x_f1 m)) ∨ (((x_F m).1 = -1 ∧ (x_cc m).1 = 0) ∧ 2 = r_ ∧ m_ = ch_os (x_c3 m) 1 0 (y_cp (ch_ob (x_c3 m) 1 1) (ch_ob (x_c3 m) 1 0))))  m ⟨b4, (fun c_ => (Or.inl ⟨c_, rfl, rfl⟩)), (fun c_ => (Or.inr (Or.inl ⟨c_, rfl, rfl⟩))), (fun c_ => (Or.inr (Or.inr ⟨c_, rfl, rfl⟩)))⟩))
  rcases q3 with ⟨c_, rfl, hm_⟩ | ⟨c_, rfl, hm_⟩ | ⟨c_, rfl, hm_⟩
  · replace h := h.1 c_ m2 hm_
    refine ch_istore (i := 6) d_l_law_1641 (Nat.le_of_ble_eq_true rfl) (ls' := [some (.inr (11, 0, 0)), some (.inr (0, 0, 0)), some (.inr (9, 0, 0)), some (.inr (10, 0, 1)), some (.inr (10, 0, 2)), some (.inl (.int x5)), some (.inl (.int 0)), o7, o8, o9]) rfl ?_
    refine ch_aload_n (i := 2) d_l_law_1643 rfl rfl ?_
    obtain ⟨T_5, h⟩ := h
    obtain ⟨M_6, h⟩ := h
    have b13 := h.1
    replace h := h.2
    have b14 := h.1
    replace h := h.2
    have b15 := h.1
    replace h := h.2
    have b16 := h.1
    replace h := h.2
    have b17 := h.1
    replace h := h.2
    have b18 := h.1
    replace h := h.2
    have b19 := h.1
    replace h := h.2
    refine ch_callV (as := []) d_l_law_1644 lk_l_214 mi_m_commands me_m_commands rfl rfl rfl (ch_hR hR (Nat.le_of_ble_eq_true rfl)) (Nat.le_of_ble_eq_true rfl) (ch_rc1 (k := k) (a := 1) (b := 0) hcs (Nat.le_of_ble_eq_true rfl)) (ch_mono (ch_Ki (fun r10 m11 q12 => ?_)) (s_m_commands g (fun (r_ : Int32) (m_ : ch_M) => (∃ (B7 : ch_B), ((x_F M_6).1 = -1 ∧ ¬ (x_cc M_6).1 = 0) ∧ ((x_cc M_6).1) = r_ ∧ (m_rel (ch_ob (x_cc M_6).2 1 0) (B7 1)) ∧ (m_push (ch_ob m2 9 0) B7) ∧ (m_cmS (ch_ob m2 9 0) B7) ∧ (m_rs (ch_ob m2 9 0) B7) ∧ (B7 0 14 = -1) ∧ (B7 0 19 = 0) ∧ m_ = ch_os m2 9 0 B7) ∨ (∃ (B8 : ch_B), (¬ (x_F M_6).1 = -1) ∧ 0 = r_ ∧ (m_cmS (ch_ob m2 9 0) B8) ∧ (m_rs (ch_ob m2 9 0) B8) ∧ (B8 0 14 = (x_F M_6).1) ∧ (B8 0 19 = 1) ∧ (m_same (ch_ob m2 9 0) B8) ∧ m_ = ch_os m2 9 0 B8) ∨ (∃ (B9 : ch_B), ((x_F M_6).1 = -1 ∧ (x_cc M_6).1 = 0) ∧ 0 = r_ ∧ (m_cmS (ch_ob m2 9 0) B9) ∧ (B9 0 14 = -1) ∧ (B9 0 19 = 2) ∧ (m_same (ch_ob m2 9 0) B9) ∧ (m_rsM (x_cc M_6).2 B9) ∧ m_ = ch_os m2 9 0 B9)) (T_5) (M_6) m2 ⟨b13, b14, b15, b16, b17, b18, b19, (fun c_ B7 f0_ f1_ f2_ f3_ f4_ f5_ => (Or.inl ⟨B7, c_, rfl, f0_, f1_, f2_, f3_, f4_, f5_, rfl⟩)), (fun c_ B8 f0_ f1_ f2_ f3_ f4_ => (Or.inr (Or.inl ⟨B8, c_, rfl, f0_, f1_, f2_, f3_, f4_, rfl⟩))), (fun c_ B9 f0_ f1_ f2_ f3_ f4_ => (Or.inr (Or.inr ⟨B9, c_, rfl, f0_, f1_, f2_, f3_, f4_, rfl⟩)))⟩))
    rcases q12 with ⟨B7, c_, rfl, f0_, f1_, f2_, f3_, f4_, f5_, hm_⟩ | ⟨B8, c_, rfl, f0_, f1_, f2_, f3_, f4_, hm_⟩ | ⟨B9, c_, rfl, f0_, f1_, f2_, f3_, f4_, hm_⟩
    · replace h := h.1 c_ B7 f0_ f1_ f2_ f3_ f4_ f5_ m11 hm_
      refine ch_istore (i := 7) d_l_law_1647 (Nat.le_of_ble_eq_true rfl) (ls' := [some (.inr (11, 0, 0)), some (.inr (0, 0, 0)), some (.inr (9, 0, 0)), some (.inr (10, 0, 1)), some (.inr (10, 0, 2)), some (.inl (.int x5)), some (.inl (.int 0)), some (.inl (.int ((x_cc M_6).1))), o8, o9]) rfl ?_
      refine ch_aload_n (i := 2) d_l_law_1649 rfl rfl ?_
      refine ch_callV (as := []) d_l_law_1650 lk_l_129 mi_m_thrown me_m_thrown rfl rfl rfl (ch_hR hR (Nat.le_of_ble_eq_true rfl)) (Nat.le_of_ble_eq_true rfl) (ch_rc1 (k := k) (a := 1) (b := 0) hcs (Nat.le_of_ble_eq_true rfl)) (ch_mono (ch_Ki (fun r20 m21 q22 => ?_)) (s_m_thrown g (fun (r_ : Int32) (m_ : ch_M) => ((m11 (9, 0, 0) 19) = r_ ∧ m11 = m_))  m11 ⟨rfl, rfl⟩))
      obtain ⟨rfl, rfl⟩ := q22
      replace h := h
      refine ch_iload d_l_law_1653 rfl ?_
      refine ch_icmp_eq (tgt := 1660) d_l_law_1655 (by decide) (fun c => ?_) (fun c => ?_)
      · replace h := h.1 c
        refine ch_iload d_l_law_1660 rfl ?_
        refine ch_if_ne (tgt := 1677) d_l_law_1662 (by decide) (fun c => absurd c (by decide)) (fun _ => ?_)
        refine ch_aload_n (i := 3) d_l_law_1665 rfl rfl ?_
        refine ch_iconst (v := 0) d_l_law_1666 (by decide) ?_
        refine ch_lald (n := 1) d_l_law_1667 (by decide) rfl (vp_in_nI (n := 0) (by decide) (by decide)) ?_
        refine ch_iload d_l_law_1668 rfl ?_
        refine ch_i2l d_l_law_1670 ?_
        refine ch_lcmp d_l_law_1671 ?_
        refine ch_if_eq (tgt := 1677) d_l_law_1672 (by decide) (fun c => ?_) (fun c => ?_)
        · replace h := h.1 c
          refine ch_goto (tgt := 2096) d_l_law_1677 (by decide) ?_
          exact h
        · replace h := h.2 c
          refine ch_iconst (v := 0) d_l_law_1675 (by decide) ?_
          exact h
      · replace h := h.2 c
        refine ch_iconst (v := 0) d_l_law_1658 (by decide) ?_
        exact h
    · replace h := h.2.1 c_ B8 f0_ f1_ f2_ f3_ f4_ m11 hm_
      refine ch_istore (i := 7) d_l_law_1647 (Nat.le_of_ble_eq_true rfl) (ls' := [some (.inr (11, 0, 0)), some (.inr (0, 0, 0)), some (.inr (9, 0, 0)), some (.inr (10, 0, 1)), some (.inr (10, 0, 2)), some (.inl (.int x5)), some (.inl (.int 0)), some (.inl (.int 0)), o8, o9]) rfl ?_
      refine ch_aload_n (i := 2) d_l_law_1649 rfl rfl ?_
      refine ch_callV (as := []) d_l_law_1650 lk_l_129 mi_m_thrown me_m_thrown rfl rfl rfl (ch_hR hR (Nat.le_of_ble_eq_true rfl)) (Nat.le_of_ble_eq_true rfl) (ch_rc1 (k := k) (a := 1) (b := 0) hcs (Nat.le_of_ble_eq_true rfl)) (ch_mono (ch_Ki (fun r23 m24 q25 => ?_)) (s_m_thrown g (fun (r_ : Int32) (m_ : ch_M) => ((m11 (9, 0, 0) 19) = r_ ∧ m11 = m_))  m11 ⟨rfl, rfl⟩))
      obtain ⟨rfl, rfl⟩ := q25
      replace h := h
      refine ch_iload d_l_law_1653 rfl ?_
      refine ch_icmp_eq (tgt := 1660) d_l_law_1655 (by decide) (fun c => ?_) (fun c => ?_)
      · replace h := h.1 c
        refine ch_iload d_l_law_1660 rfl ?_
        refine ch_if_ne (tgt := 1677) d_l_law_1662 (by decide) (fun c => absurd c (by decide)) (fun _ => ?_)
        refine ch_aload_n (i := 3) d_l_law_1665 rfl rfl ?_
        refine ch_iconst (v := 0) d_l_law_1666 (by decide) ?_
        refine ch_lald (n := 1) d_l_law_1667 (by decide) rfl (vp_in_nI (n := 0) (by decide) (by decide)) ?_
        refine ch_iload d_l_law_1668 rfl ?_
        refine ch_i2l d_l_law_1670 ?_
        refine ch_lcmp d_l_law_1671 ?_
        refine ch_if_eq (tgt := 1677) d_l_law_1672 (by decide) (fun c => ?_) (fun c => ?_)
        · replace h := h.1 c
          refine ch_goto (tgt := 2096) d_l_law_1677 (by decide) ?_
          exact h
        · replace h := h.2 c
          refine ch_iconst (v := 0) d_l_law_1675 (by decide) ?_
          exact h
      · replace h := h.2 c
        refine ch_iconst (v := 0) d_l_law_1658 (by decide) ?_
        exact h
    · replace h := h.2.2 c_ B9 f0_ f1_ f2_ f3_ f4_ m11 hm_
      refine ch_istore (i := 7) d_l_law_1647 (Nat.le_of_ble_eq_true rfl) (ls' := [some (.inr (11, 0, 0)), some (.inr (0, 0, 0)), some (.inr (9, 0, 0)), some (.inr (10, 0, 1)), some (.inr (10, 0, 2)), some (.inl (.int x5)), some (.inl (.int 0)), some (.inl (.int 0)), o8, o9]) rfl ?_
      refine ch_aload_n (i := 2) d_l_law_1649 rfl rfl ?_
      refine ch_callV (as := []) d_l_law_1650 lk_l_129 mi_m_thrown me_m_thrown rfl rfl rfl (ch_hR hR (Nat.le_of_ble_eq_true rfl)) (Nat.le_of_ble_eq_true rfl) (ch_rc1 (k := k) (a := 1) (b := 0) hcs (Nat.le_of_ble_eq_true rfl)) (ch_mono (ch_Ki (fun r26 m27 q28 => ?_)) (s_m_thrown g (fun (r_ : Int32) (m_ : ch_M) => ((m11 (9, 0, 0) 19) = r_ ∧ m11 = m_))  m11 ⟨rfl, rfl⟩))
      obtain ⟨rfl, rfl⟩ := q28
      replace h := h
      refine ch_iload d_l_law_1653 rfl ?_
      refine ch_icmp_eq (tgt := 1660) d_l_law_1655 (by decide) (fun c => ?_) (fun c => ?_)
      · replace h := h.1 c
        refine ch_iload d_l_law_1660 rfl ?_
        refine ch_if_ne (tgt := 1677) d_l_law_1662 (by decide) (fun c => absurd c (by decide)) (fun _ => ?_)
        refine ch_aload_n (i := 3) d_l_law_1665 rfl rfl ?_
        refine ch_iconst (v := 0) d_l_law_1666 (by decide) ?_
        refine ch_lald (n := 1) d_l_law_1667 (by decide) rfl (vp_in_nI (n := 0) (by decide) (by decide)) ?_
        refine ch_iload d_l_law_1668 rfl ?_
        refine ch_i2l d_l_law_1670 ?_
        refine ch_lcmp d_l_law_1671 ?_
        refine ch_if_eq (tgt := 1677) d_l_law_1672 (by decide) (fun c => ?_) (fun c => ?_)
        · replace h := h.1 c
          refine ch_goto (tgt := 2096) d_l_law_1677 (by decide) ?_
          exact h
        · replace h := h.2 c
          refine ch_iconst (v := 0) d_l_law_1675 (by decide) ?_
          exact h
      · replace h := h.2 c
        refine ch_iconst (v := 0) d_l_law_1658 (by decide) ?_
        exact h
  · replace h := h.2.1 c_ m2 hm_
    refine ch_istore (i := 6) d_l_law_1641 (Nat.le_of_ble_eq_true rfl) (ls' := [some (.inr (11, 0, 0)), some (.inr (0, 0, 0)), some (.inr (9, 0, 0)), some (.inr (10, 0, 1)), some (.inr (10, 0, 2)), some (.inl (.int x5)), some (.inl (.int 1)), o7, o8, o9]) rfl ?_
    refine ch_aload_n (i := 2) d_l_law_1643 rfl rfl ?_
    obtain ⟨T_29, h⟩ := h
    obtain ⟨M_30, h⟩ := h
    have b37 := h.1
    replace h := h.2
    have b38 := h.1
    replace h := h.2
    have b39 := h.1
    replace h := h.2
    have b40 := h.1
    replace h := h.2
    have b41 := h.1
    replace h := h.2
    have b42 := h.1
    replace h := h.2
    have b43 := h.1
    replace h := h.2
    refine ch_callV (as := []) d_l_law_1644 lk_l_214 mi_m_commands me_m_commands rfl rfl rfl (ch_hR hR (Nat.le_of_ble_eq_true rfl)) (Nat.le_of_ble_eq_true rfl) (ch_rc1 (k := k) (a := 1) (b := 0) hcs (Nat.le_of_ble_eq_true rfl)) (ch_mono (ch_Ki (fun r34 m35 q36 => ?_)) (s_m_commands g (fun (r_ : Int32) (m_ : ch_M) => (∃ (B31 : ch_B), ((x_F M_30).1 = -1 ∧ ¬ (x_cc M_30).1 = 0) ∧ ((x_cc M_30).1) = r_ ∧ (m_rel (ch_ob (x_cc M_30).2 1 0) (B31 1)) ∧ (m_push (ch_ob m2 9 0) B31) ∧ (m_cmS (ch_ob m2 9 0) B31) ∧ (m_rs (ch_ob m2 9 0) B31) ∧ (B31 0 14 = -1) ∧ (B31 0 19 = 0) ∧ m_ = ch_os m2 9 0 B31) ∨ (∃ (B32 : ch_B), (¬ (x_F M_30).1 = -1) ∧ 0 = r_ ∧ (m_cmS (ch_ob m2 9 0) B32) ∧ (m_rs (ch_ob m2 9 0) B32) ∧ (B32 0 14 = (x_F M_30).1) ∧ (B32 0 19 = 1) ∧ (m_same (ch_ob m2 9 0) B32) ∧ m_ = ch_os m2 9 0 B32) ∨ (∃ (B33 : ch_B), ((x_F M_30).1 = -1 ∧ (x_cc M_30).1 = 0) ∧ 0 = r_ ∧ (m_cmS (ch_ob m2 9 0) B33) ∧ (B33 0 14 = -1) ∧ (B33 0 19 = 2) ∧ (m_same (ch_ob m2 9 0) B33) ∧ (m_rsM (x_cc M_30).2 B33) ∧ m_ = ch_os m2 9 0 B33)) (T_29) (M_30) m2 ⟨b37, b38, b39, b40, b41, b42, b43, (fun c_ B31 f0_ f1_ f2_ f3_ f4_ f5_ => (Or.inl ⟨B31, c_, rfl, f0_, f1_, f2_, f3_, f4_, f5_, rfl⟩)), (fun c_ B32 f0_ f1_ f2_ f3_ f4_ => (Or.inr (Or.inl ⟨B32, c_, rfl, f0_, f1_, f2_, f3_, f4_, rfl⟩))), (fun c_ B33 f0_ f1_ f2_ f3_ f4_ => (Or.inr (Or.inr ⟨B33, c_, rfl, f0_, f1_, f2_, f3_, f4_, rfl⟩)))⟩))
    rcases q36 with ⟨B31, c_, rfl, f0_, f1_, f2_, f3_, f4_, f5_, hm_⟩ | ⟨B32, c_, rfl, f0_, f1_, f2_, f3_, f4_, hm_⟩ | ⟨B33, c_, rfl, f0_, f1_, f2_, f3_, f4_, hm_⟩
    · replace h := h.1 c_ B31 f0_ f1_ f2_ f3_ f4_ f5_ m35 hm_
      refine ch_istore (i := 7) d_l_law_1647 (Nat.le_of_ble_eq_true rfl) (ls' := [some (.inr (11, 0, 0)), some (.inr (0, 0, 0)), some (.inr (9, 0, 0)), some (.inr (10, 0, 1)), some (.inr (10, 0, 2)), some (.inl (.int x5)), some (.inl (.int 1)), some (.inl (.int ((x_cc M_30).1))), o8, o9]) rfl ?_
      refine ch_aload_n (i := 2) d_l_law_1649 rfl rfl ?_
      refine ch_callV (as := []) d_l_law_1650 lk_l_129 mi_m_thrown me_m_thrown rfl rfl rfl (ch_hR hR (Nat.le_of_ble_eq_true rfl)) (Nat.le_of_ble_eq_true rfl) (ch_rc1 (k := k) (a := 1) (b := 0) hcs (Nat.le_of_ble_eq_true rfl)) (ch_mono (ch_Ki (fun r44 m45 q46 => ?_)) (s_m_thrown g (fun (r_ : Int32) (m_ : ch_M) => ((m35 (9, 0, 0) 19) = r_ ∧ m35 = m_))  m35 ⟨rfl, rfl⟩))
      obtain ⟨rfl, rfl⟩ := q46
      replace h := h
      refine ch_iload d_l_law_1653 rfl ?_
      refine ch_icmp_eq (tgt := 1660) d_l_law_1655 (by decide) (fun c => ?_) (fun c => ?_)
      · replace h := h.1 c
        refine ch_iload d_l_law_1660 rfl ?_
        refine ch_if_ne (tgt := 1677) d_l_law_1662 (by decide) (fun _ => ?_) (fun c => absurd c (by decide))
        refine ch_goto (tgt := 2096) d_l_law_1677 (by decide) ?_
        exact h
      · replace h := h.2 c
        refine ch_iconst (v := 0) d_l_law_1658 (by decide) ?_
        exact h
    · replace h := h.2.1 c_ B32 f0_ f1_ f2_ f3_ f4_ m35 hm_
      refine ch_istore (i := 7) d_l_law_1647 (Nat.le_of_ble_eq_true rfl) (ls' := [some (.inr (11, 0, 0)), some (.inr (0, 0, 0)), some (.inr (9, 0, 0)), some (.inr (10, 0, 1)), some (.inr (10, 0, 2)), some (.inl (.int x5)), some (.inl (.int 1)), some (.inl (.int 0)), o8, o9]) rfl ?_
      refine ch_aload_n (i := 2) d_l_law_1649 rfl rfl ?_
      refine ch_callV (as := []) d_l_law_1650 lk_l_129 mi_m_thrown me_m_thrown rfl rfl rfl (ch_hR hR (Nat.le_of_ble_eq_true rfl)) (Nat.le_of_ble_eq_true rfl) (ch_rc1 (k := k) (a := 1) (b := 0) hcs (Nat.le_of_ble_eq_true rfl)) (ch_mono (ch_Ki (fun r47 m48 q49 => ?_)) (s_m_thrown g (fun (r_ : Int32) (m_ : ch_M) => ((m35 (9, 0, 0) 19) = r_ ∧ m35 = m_))  m35 ⟨rfl, rfl⟩))
      obtain ⟨rfl, rfl⟩ := q49
      replace h := h
      refine ch_iload d_l_law_1653 rfl ?_
      refine ch_icmp_eq (tgt := 1660) d_l_law_1655 (by decide) (fun c => ?_) (fun c => ?_)
      · replace h := h.1 c
        refine ch_iload d_l_law_1660 rfl ?_
        refine ch_if_ne (tgt := 1677) d_l_law_1662 (by decide) (fun _ => ?_) (fun c => absurd c (by decide))
        refine ch_goto (tgt := 2096) d_l_law_1677 (by decide) ?_
        exact h
      · replace h := h.2 c
        refine ch_iconst (v := 0) d_l_law_1658 (by decide) ?_
        exact h
    · replace h := h.2.2 c_ B33 f0_ f1_ f2_ f3_ f4_ m35 hm_
      refine ch_istore (i := 7) d_l_law_1647 (Nat.le_of_ble_eq_true rfl) (ls' := [some (.inr (11, 0, 0)), some (.inr (0, 0, 0)), some (.inr (9, 0, 0)), some (.inr (10, 0, 1)), some (.inr (10, 0, 2)), some (.inl (.int x5)), some (.inl (.int 1)), some (.inl (.int 0)), o8, o9]) rfl ?_
      refine ch_aload_n (i := 2) d_l_law_1649 rfl rfl ?_
      refine ch_callV (as := []) d_l_law_1650 lk_l_129 mi_m_thrown me_m_thrown rfl rfl rfl (ch_hR hR (Nat.le_of_ble_eq_true rfl)) (Nat.le_of_ble_eq_true rfl) (ch_rc1 (k := k) (a := 1) (b := 0) hcs (Nat.le_of_ble_eq_true rfl)) (ch_mono (ch_Ki (fun r50 m51 q52 => ?_)) (s_m_thrown g (fun (r_ : Int32) (m_ : ch_M) => ((m35 (9, 0, 0) 19) = r_ ∧ m35 = m_))  m35 ⟨rfl, rfl⟩))
      obtain ⟨rfl, rfl⟩ := q52
      replace h := h
      refine ch_iload d_l_law_1653 rfl ?_
      refine ch_icmp_eq (tgt := 1660) d_l_law_1655 (by decide) (fun c => ?_) (fun c => ?_)
      · replace h := h.1 c
        refine ch_iload d_l_law_1660 rfl ?_
        refine ch_if_ne (tgt := 1677) d_l_law_1662 (by decide) (fun _ => ?_) (fun c => absurd c (by decide))
        refine ch_goto (tgt := 2096) d_l_law_1677 (by decide) ?_
        exact h
      · replace h := h.2 c
        refine ch_iconst (v := 0) d_l_law_1658 (by decide) ?_
        exact h
  · replace h := h.2.2 c_ m2 hm_
    refine ch_istore (i := 6) d_l_law_1641 (Nat.le_of_ble_eq_true rfl) (ls' := [some (.inr (11, 0, 0)), some (.inr (0, 0, 0)), some (.inr (9, 0, 0)), some (.inr (10, 0, 1)), some (.inr (10, 0, 2)), some (.inl (.int x5)), some (.inl (.int 2)), o7, o8, o9]) rfl ?_
    refine ch_aload_n (i := 2) d_l_law_1643 rfl rfl ?_
    obtain ⟨T_53, h⟩ := h
    obtain ⟨M_54, h⟩ := h
    have b61 := h.1
    replace h := h.2
    have b62 := h.1
    replace h := h.2
    have b63 := h.1
    replace h := h.2
    have b64 := h.1
    replace h := h.2
    have b65 := h.1
    replace h := h.2
    have b66 := h.1
    replace h := h.2
    have b67 := h.1
    replace h := h.2
    refine ch_callV (as := []) d_l_law_1644 lk_l_214 mi_m_commands me_m_commands rfl rfl rfl (ch_hR hR (Nat.le_of_ble_eq_true rfl)) (Nat.le_of_ble_eq_true rfl) (ch_rc1 (k := k) (a := 1) (b := 0) hcs (Nat.le_of_ble_eq_true rfl)) (ch_mono (ch_Ki (fun r58 m59 q60 => ?_)) (s_m_commands g (fun (r_ : Int32) (m_ : ch_M) => (∃ (B55 : ch_B), ((x_F M_54).1 = -1 ∧ ¬ (x_cc M_54).1 = 0) ∧ ((x_cc M_54).1) = r_ ∧ (m_rel (ch_ob (x_cc M_54).2 1 0) (B55 1)) ∧ (m_push (ch_ob m2 9 0) B55) ∧ (m_cmS (ch_ob m2 9 0) B55) ∧ (m_rs (ch_ob m2 9 0) B55) ∧ (B55 0 14 = -1) ∧ (B55 0 19 = 0) ∧ m_ = ch_os m2 9 0 B55) ∨ (∃ (B56 : ch_B), (¬ (x_F M_54).1 = -1) ∧ 0 = r_ ∧ (m_cmS (ch_ob m2 9 0) B56) ∧ (m_rs (ch_ob m2 9 0) B56) ∧ (B56 0 14 = (x_F M_54).1) ∧ (B56 0 19 = 1) ∧ (m_same (ch_ob m2 9 0) B56) ∧ m_ = ch_os m2 9 0 B56) ∨ (∃ (B57 : ch_B), ((x_F M_54).1 = -1 ∧ (x_cc M_54).1 = 0) ∧ 0 = r_ ∧ (m_cmS (ch_ob m2 9 0) B57) ∧ (B57 0 14 = -1) ∧ (B57 0 19 = 2) ∧ (m_same (ch_ob m2 9 0) B57) ∧ (m_rsM (x_cc M_54).2 B57) ∧ m_ = ch_os m2 9 0 B57)) (T_53) (M_54) m2 ⟨b61, b62, b63, b64, b65, b66, b67, (fun c_ B55 f0_ f1_ f2_ f3_ f4_ f5_ => (Or.inl ⟨B55, c_, rfl, f0_, f1_, f2_, f3_, f4_, f5_, rfl⟩)), (fun c_ B56 f0_ f1_ f2_ f3_ f4_ => (Or.inr (Or.inl ⟨B56, c_, rfl, f0_, f1_, f2_, f3_, f4_, rfl⟩))), (fun c_ B57 f0_ f1_ f2_ f3_ f4_ => (Or.inr (Or.inr ⟨B57, c_, rfl, f0_, f1_, f2_, f3_, f4_, rfl⟩)))⟩))
    rcases q60 with ⟨B55, c_, rfl, f0_, f1_, f2_, f3_, f4_, f5_, hm_⟩ | ⟨B56, c_, rfl, f0_, f1_, f2_, f3_, f4_, hm_⟩ | ⟨B57, c_, rfl, f0_, f1_, f2_, f3_, f4_, hm_⟩
    · replace h := h.1 c_ B55 f0_ f1_ f2_ f3_ f4_ f5_ m59 hm_
      refine ch_istore (i := 7) d_l_law_1647 (Nat.le_of_ble_eq_true rfl) (ls' := [some (.inr (11, 0, 0)), some (.inr (0, 0, 0)), some (.inr (9, 0, 0)), some (.inr (10, 0, 1)), some (.inr (10, 0, 2)), some (.inl (.int x5)), some (.inl (.int 2)), some (.inl (.int ((x_cc M_54).1))), o8, o9]) rfl ?_
      refine ch_aload_n (i := 2) d_l_law_1649 rfl rfl ?_
      refine ch_callV (as := []) d_l_law_1650 lk_l_129 mi_m_thrown me_m_thrown rfl rfl rfl (ch_hR hR (Nat.le_of_ble_eq_true rfl)) (Nat.le_of_ble_eq_true rfl) (ch_rc1 (k := k) (a := 1) (b := 0) hcs (Nat.le_of_ble_eq_true rfl)) (ch_mono (ch_Ki (fun r68 m69 q70 => ?_)) (s_m_thrown g (fun (r_ : Int32) (m_ : ch_M) => ((m59 (9, 0, 0) 19) = r_ ∧ m59 = m_))  m59 ⟨rfl, rfl⟩))
      obtain ⟨rfl, rfl⟩ := q70
      replace h := h
      refine ch_iload d_l_law_1653 rfl ?_
      refine ch_icmp_eq (tgt := 1660) d_l_law_1655 (by decide) (fun c => ?_) (fun c => ?_)
      · replace h := h.1 c
        refine ch_iload d_l_law_1660 rfl ?_
        refine ch_if_ne (tgt := 1677) d_l_law_1662 (by decide) (fun _ => ?_) (fun c => absurd c (by decide))
        refine ch_goto (tgt := 2096) d_l_law_1677 (by decide) ?_
        exact h
      · replace h := h.2 c
        refine ch_iconst (v := 0) d_l_law_1658 (by decide) ?_
        exact h
    · replace h := h.2.1 c_ B56 f0_ f1_ f2_ f3_ f4_ m59 hm_
      refine ch_istore (i := 7) d_l_law_1647 (Nat.le_of_ble_eq_true rfl) (ls' := [some (.inr (11, 0, 0)), some (.inr (0, 0, 0)), some (.inr (9, 0, 0)), some (.inr (10, 0, 1)), some (.inr (10, 0, 2)), some (.inl (.int x5)), some (.inl (.int 2)), some (.inl (.int 0)), o8, o9]) rfl ?_
      refine ch_aload_n (i := 2) d_l_law_1649 rfl rfl ?_
      refine ch_callV (as := []) d_l_law_1650 lk_l_129 mi_m_thrown me_m_thrown rfl rfl rfl (ch_hR hR (Nat.le_of_ble_eq_true rfl)) (Nat.le_of_ble_eq_true rfl) (ch_rc1 (k := k) (a := 1) (b := 0) hcs (Nat.le_of_ble_eq_true rfl)) (ch_mono (ch_Ki (fun r71 m72 q73 => ?_)) (s_m_thrown g (fun (r_ : Int32) (m_ : ch_M) => ((m59 (9, 0, 0) 19) = r_ ∧ m59 = m_))  m59 ⟨rfl, rfl⟩))
      obtain ⟨rfl, rfl⟩ := q73
      replace h := h
      refine ch_iload d_l_law_1653 rfl ?_
      refine ch_icmp_eq (tgt := 1660) d_l_law_1655 (by decide) (fun c => ?_) (fun c => ?_)
      · replace h := h.1 c
        refine ch_iload d_l_law_1660 rfl ?_
        refine ch_if_ne (tgt := 1677) d_l_law_1662 (by decide) (fun _ => ?_) (fun c => absurd c (by decide))
        refine ch_goto (tgt := 2096) d_l_law_1677 (by decide) ?_
        exact h
      · replace h := h.2 c
        refine ch_iconst (v := 0) d_l_law_1658 (by decide) ?_
        exact h
    · replace h := h.2.2 c_ B57 f0_ f1_ f2_ f3_ f4_ m59 hm_
      refine ch_istore (i := 7) d_l_law_1647 (Nat.le_of_ble_eq_true rfl) (ls' := [some (.inr (11, 0, 0)), some (.inr (0, 0, 0)), some (.inr (9, 0, 0)), some (.inr (10, 0, 1)), some (.inr (10, 0, 2)), some (.inl (.int x5)), some (.inl (.int 2)), some (.inl (.int 0)), o8, o9]) rfl ?_
      refine ch_aload_n (i := 2) d_l_law_1649 rfl rfl ?_
      refine ch_callV (as := []) d_l_law_1650 lk_l_129 mi_m_thrown me_m_thrown rfl rfl rfl (ch_hR hR (Nat.le_of_ble_eq_true rfl)) (Nat.le_of_ble_eq_true rfl) (ch_rc1 (k := k) (a := 1) (b := 0) hcs (Nat.le_of_ble_eq_true rfl)) (ch_mono (ch_Ki (fun r74 m75 q76 => ?_)) (s_m_thrown g (fun (r_ : Int32) (m_ : ch_M) => ((m59 (9, 0, 0) 19) = r_ ∧ m59 = m_))  m59 ⟨rfl, rfl⟩))
      obtain ⟨rfl, rfl⟩ := q76
      replace h := h
      refine ch_iload d_l_law_1653 rfl ?_
      refine ch_icmp_eq (tgt := 1660) d_l_law_1655 (by decide) (fun c => ?_) (fun c => ?_)
      · replace h := h.1 c
        refine ch_iload d_l_law_1660 rfl ?_
        refine ch_if_ne (tgt := 1677) d_l_law_1662 (by decide) (fun _ => ?_) (fun c => absurd c (by decide))
        refine ch_goto (tgt := 2096) d_l_law_1677 (by decide) ?_
        exact h
      · replace h := h.2 c
        refine ch_iconst (v := 0) d_l_law_1658 (by decide) ?_
        exact h
set_option maxHeartbeats 1600000 in
theorem g_l_law_1680 (g : ch_G) (R : Room) (E : ch_En) (k : Nat) (hR : ch_RR R 18) (hcs : k + 40 ≤ R.cells ∧ 6 * k + 240 ≤ R.slots) (x5 : Int32) (o6 : Option ch_V) (o7 : Option ch_V) (o8 : Option ch_V) (o9 : Option ch_V) (m : ch_M) (h : (((∀ m5 : ch_M, m5 = ch_wr m (9, 0, 0) 19 0 → (((m (0, 0, 0) 13) = (m (9, 0, 0) 14) → ch_J g m_l_law R E 2096 [some (.inr (11, 0, 0)), some (.inr (0, 0, 0)), some (.inr (9, 0, 0)), some (.inr (10, 0, 1)), some (.inr (10, 0, 2)), some (.inl (.int x5)), o6, o7, o8, o9] [] m5 k) ∧ (¬ (m (0, 0, 0) 13) = (m (9, 0, 0) 14) → ch_J g m_l_law R E 1692 [some (.inr (11, 0, 0)), some (.inr (0, 0, 0)), some (.inr (9, 0, 0)), some (.inr (10, 0, 1)), some (.inr (10, 0, 2)), some (.inl (.int x5)), o6, o7, o8, o9] [.inl (.int 0)] m5 k)))))) : ch_J g m_l_law R E 1680 [some (.inr (11, 0, 0)), some (.inr (0, 0, 0)), some (.inr (9, 0, 0)), some (.inr (10, 0, 1)), some (.inr (10, 0, 2)), some (.inl (.int x5)), o6, o7, o8, o9] [] m k := by
  refine ch_aload_n (i := 1) d_l_law_1680 rfl rfl ?_
  refine ch_callV (as := []) d_l_law_1681 lk_l_215 mi_x_faultPosition me_x_faultPosition rfl rfl rfl (ch_hR hR (Nat.le_of_ble_eq_true rfl)) (Nat.le_of_ble_eq_true rfl) (ch_rc0 (k := k) (b := 0) hcs (Nat.le_of_ble_eq_true rfl)) (ch_mono (ch_Ki (fun r1 m2 q3 => ?_)) (s_x_faultPosition g (fun (r_ : Int32) (m_ : ch_M) => ((m (0, 0, 0) 13) = r_ ∧ m = m_))  m ⟨rfl, rfl⟩))
  obtain ⟨rfl, rfl⟩ := q3
  replace h := h
  refine ch_aload_n (i := 2) d_l_law_1684 rfl rfl ?_
  refine ch_callV (as := []) d_l_law_1685 lk_l_218 mi_m_faultPosition me_m_faultPosition rfl rfl rfl (ch_hR hR (Nat.le_of_ble_eq_true rfl)) (Nat.le_of_ble_eq_true rfl) (ch_rc0 (k := k) (b := 0) hcs (Nat.le_of_ble_eq_true rfl)) (ch_mono (ch_Ki (fun r4 m5 q6 => ?_)) (s_m_faultPosition g (fun (r_ : Int32) (m_ : ch_M) => ((m (9, 0, 0) 14) = r_ ∧ m_ = ch_wr m (9, 0, 0) 19 0))  m ⟨rfl, rfl⟩))
  obtain ⟨rfl, hm_⟩ := q6
  replace h := h m5 hm_
  refine ch_icmp_eq (tgt := 2096) d_l_law_1688 (by decide) (fun c => ?_) (fun c => ?_)
  · replace h := h.1 c
    exact h
  · replace h := h.2 c
    refine ch_iconst (v := 0) d_l_law_1691 (by decide) ?_
    exact h
set_option maxHeartbeats 1600000 in
theorem g_l_law_1693 (g : ch_G) (R : Room) (E : ch_En) (k : Nat) (hR : ch_RR R 18) (hcs : k + 40 ≤ R.cells ∧ 6 * k + 240 ≤ R.slots) (x5 : Int32) (o6 : Option ch_V) (o7 : Option ch_V) (o8 : Option ch_V) (o9 : Option ch_V) (m : ch_M) (h : (vp_in (x5 + 1) (ch_scr g).2.1) ∧ ((((0 ≤ ((ch_scr g).2.2 (Int32.toNatClampNeg (x5 + 1))) ∧ ((ch_scr g).2.2 (Int32.toNatClampNeg (x5 + 1))) ≤ 2) ∧ ¬ m (3, 0, 0) 0 = 0) → (∀ m3 : ch_M, m3 = (ch_wr m (10, 0, 1) 0 (if ((ch_scr g).2.2 (Int32.toNatClampNeg (x5 + 1))) = 0 then m (3, 0, 0) 0 else if ((ch_scr g).2.2 (Int32.toNatClampNeg (x5 + 1))) = 1 then m (3, 0, 0) 1 else m (3, 0, 0) 2)) → ((((0 ≤ ((ch_scr g).2.2 (Int32.toNatClampNeg (x5 + 1))) ∧ ((ch_scr g).2.2 (Int32.toNatClampNeg (x5 + 1))) ≤ 2) ∧ ¬ m3 (9, 0, 0) 15 = 0) → (∀ m6 : ch_M, m6 = ch_wr m3 (9, 0, 0) 19 0 → ((((m6 (9, 0, 0) 19) = 0 → (((lg_cmp ((m6 (10, 0, 1) (0))).toInt64 ((if ((ch_scr g).2.2 (Int32.toNatClampNeg (x5 + 1))) = 0 then m3 (9, 0, 0) 15 else if ((ch_scr g).2.2 (Int32.toNatClampNeg (x5 + 1))) = 1 then m3 (9, 0, 0) 16 else m3 (9, 0, 0) 17)).toInt64) = 0 → ch_J g m_l_law R E 2096 [some (.inr (11, 0, 0)), some (.inr (0, 0, 0)), some (.inr (9, 0, 0)), some (.inr (10, 0, 1)), some (.inr (10, 0, 2)), some (.inl (.int x5)), some (.inl (.int 0)), some (.inl (.int (if ((ch_scr g).2.2 (Int32.toNatClampNeg (x5 + 1))) = 0 then m3 (9, 0, 0) 15 else if ((ch_scr g).2.2 (Int32.toNatClampNeg (x5 + 1))) = 1 then m3 (9, 0, 0) 16 else m3 (9, 0, 0) 17))), o8, o9] [] m6 (k + 1)) ∧ (¬ (lg_cmp ((m6 (10, 0, 1) (0))).toInt64 ((if ((ch_scr g).2.2 (Int32.toNatClampNeg (x5 + 1))) = 0 then m3 (9, 0, 0) 15 else if ((ch_scr g).2.2 (Int32.toNatClampNeg (x5 + 1))) = 1 then m3 (9, 0, 0) 16 else m3 (9, 0, 0) 17)).toInt64) = 0 → ch_J g m_l_law R E 1745 [some (.inr (11, 0, 0)), some (.inr (0, 0, 0)), some (.inr (9, 0, 0)), some (.inr (10, 0, 1)), some (.inr (10, 0, 2)), some (.inl (.int x5)), some (.inl (.int 0)), some (.inl (.int (if ((ch_scr g).2.2 (Int32.toNatClampNeg (x5 + 1))) = 0 then m3 (9, 0, 0) 15 else if ((ch_scr g).2.2 (Int32.toNatClampNeg (x5 + 1))) = 1 then m3 (9, 0, 0) 16 else m3 (9, 0, 0) 17))), o8, o9] [.inl (.int 0)] m6 (k + 1)))) ∧ (¬ (m6 (9, 0, 0) 19) = 0 → ch_J g m_l_law R E 1728 [some (.inr (11, 0, 0)), some (.inr (0, 0, 0)), some (.inr (9, 0, 0)), some (.inr (10, 0, 1)), some (.inr (10, 0, 2)), some (.inl (.int x5)), some (.inl (.int 0)), some (.inl (.int (if ((ch_scr g).2.2 (Int32.toNatClampNeg (x5 + 1))) = 0 then m3 (9, 0, 0) 15 else if ((ch_scr g).2.2 (Int32.toNatClampNeg (x5 + 1))) = 1 then m3 (9, 0, 0) 16 else m3 (9, 0, 0) 17))), o8, o9] [.inl (.int 0)] m6 (k + 1)))))) ∧ ((¬ (0 ≤ ((ch_scr g).2.2 (Int32.toNatClampNeg (x5 + 1))) ∧ ((ch_scr g).2.2 (Int32.toNatClampNeg (x5 + 1))) ≤ 2)) → (∀ m6 : ch_M, m6 = ch_wr m3 (9, 0, 0) 19 1 → ((((m6 (9, 0, 0) 19) = 0 → (((lg_cmp ((m6 (10, 0, 1) (0))).toInt64 (0).toInt64) = 0 → ch_J g m_l_law R E 2096 [some (.inr (11, 0, 0)), some (.inr (0, 0, 0)), some (.inr (9, 0, 0)), some (.inr (10, 0, 1)), some (.inr (10, 0, 2)), some (.inl (.int x5)), some (.inl (.int 0)), some (.inl (.int 0)), o8, o9] [] m6 (k + 1)) ∧ (¬ (lg_cmp ((m6 (10, 0, 1) (0))).toInt64 (0).toInt64) = 0 → ch_J g m_l_law R E 1745 [some (.inr (11, 0, 0)), some (.inr (0, 0, 0)), some (.inr (9, 0, 0)), some (.inr (10, 0, 1)), some (.inr (10, 0, 2)), some (.inl (.int x5)), some (.inl (.int 0)), some (.inl (.int 0)), o8, o9] [.inl (.int 0)] m6 (k + 1)))) ∧ (¬ (m6 (9, 0, 0) 19) = 0 → ch_J g m_l_law R E 1728 [some (.inr (11, 0, 0)), some (.inr (0, 0, 0)), some (.inr (9, 0, 0)), some (.inr (10, 0, 1)), some (.inr (10, 0, 2)), some (.inl (.int x5)), some (.inl (.int 0)), some (.inl (.int 0)), o8, o9] [.inl (.int 0)] m6 (k + 1)))))) ∧ (((0 ≤ ((ch_scr g).2.2 (Int32.toNatClampNeg (x5 + 1))) ∧ ((ch_scr g).2.2 (Int32.toNatClampNeg (x5 + 1))) ≤ 2) ∧ m3 (9, 0, 0) 15 = 0) → (∀ m6 : ch_M, m6 = ch_wr m3 (9, 0, 0) 19 2 → ((((m6 (9, 0, 0) 19) = 0 → (((lg_cmp ((m6 (10, 0, 1) (0))).toInt64 (0).toInt64) = 0 → ch_J g m_l_law R E 2096 [some (.inr (11, 0, 0)), some (.inr (0, 0, 0)), some (.inr (9, 0, 0)), some (.inr (10, 0, 1)), some (.inr (10, 0, 2)), some (.inl (.int x5)), some (.inl (.int 0)), some (.inl (.int 0)), o8, o9] [] m6 (k + 1)) ∧ (¬ (lg_cmp ((m6 (10, 0, 1) (0))).toInt64 (0).toInt64) = 0 → ch_J g m_l_law R E 1745 [some (.inr (11, 0, 0)), some (.inr (0, 0, 0)), some (.inr (9, 0, 0)), some (.inr (10, 0, 1)), some (.inr (10, 0, 2)), some (.inl (.int x5)), some (.inl (.int 0)), some (.inl (.int 0)), o8, o9] [.inl (.int 0)] m6 (k + 1)))) ∧ (¬ (m6 (9, 0, 0) 19) = 0 → ch_J g m_l_law R E 1728 [some (.inr (11, 0, 0)), some (.inr (0, 0, 0)), some (.inr (9, 0, 0)), some (.inr (10, 0, 1)), some (.inr (10, 0, 2)), some (.inl (.int x5)), some (.inl (.int 0)), some (.inl (.int 0)), o8, o9] [.inl (.int 0)] m6 (k + 1))))))))) ∧ ((¬ (0 ≤ ((ch_scr g).2.2 (Int32.toNatClampNeg (x5 + 1))) ∧ ((ch_scr g).2.2 (Int32.toNatClampNeg (x5 + 1))) ≤ 2)) → ((((0 ≤ ((ch_scr g).2.2 (Int32.toNatClampNeg (x5 + 1))) ∧ ((ch_scr g).2.2 (Int32.toNatClampNeg (x5 + 1))) ≤ 2) ∧ ¬ m (9, 0, 0) 15 = 0) → (∀ m18 : ch_M, m18 = ch_wr m (9, 0, 0) 19 0 → ((((m18 (9, 0, 0) 19) = 1 → ch_J g m_l_law R E 2096 [some (.inr (11, 0, 0)), some (.inr (0, 0, 0)), some (.inr (9, 0, 0)), some (.inr (10, 0, 1)), some (.inr (10, 0, 2)), some (.inl (.int x5)), some (.inl (.int 1)), some (.inl (.int (if ((ch_scr g).2.2 (Int32.toNatClampNeg (x5 + 1))) = 0 then m (9, 0, 0) 15 else if ((ch_scr g).2.2 (Int32.toNatClampNeg (x5 + 1))) = 1 then m (9, 0, 0) 16 else m (9, 0, 0) 17))), o8, o9] [] m18 (k + 1)) ∧ (¬ (m18 (9, 0, 0) 19) = 1 → ch_J g m_l_law R E 1728 [some (.inr (11, 0, 0)), some (.inr (0, 0, 0)), some (.inr (9, 0, 0)), some (.inr (10, 0, 1)), some (.inr (10, 0, 2)), some (.inl (.int x5)), some (.inl (.int 1)), some (.inl (.int (if ((ch_scr g).2.2 (Int32.toNatClampNeg (x5 + 1))) = 0 then m (9, 0, 0) 15 else if ((ch_scr g).2.2 (Int32.toNatClampNeg (x5 + 1))) = 1 then m (9, 0, 0) 16 else m (9, 0, 0) 17))), o8, o9] [.inl (.int 0)] m18 (k + 1)))))) ∧ ((¬ (0 ≤ ((ch_scr g).2.2 (Int32.toNatClampNeg (x5 + 1))) ∧ ((ch_scr g).2.2 (Int32.toNatClampNeg (x5 + 1))) ≤ 2)) → (∀ m18 : ch_M, m18 = ch_wr m (9, 0, 0) 19 1 → ((((m18 (9, 0, 0) 19) = 1 → ch_J g m_l_law R E 2096 [some (.inr (11, 0, 0)), some (.inr (0, 0, 0)), some (.inr (9, 0, 0)), some (.inr (10, 0, 1)), some (.inr (10, 0, 2)), some (.inl (.int x5)), some (.inl (.int 1)), some (.inl (.int 0)), o8, o9] [] m18 (k + 1)) ∧ (¬ (m18 (9, 0, 0) 19) = 1 → ch_J g m_l_law R E 1728 [some (.inr (11, 0, 0)), some (.inr (0, 0, 0)), some (.inr (9, 0, 0)), some (.inr (10, 0, 1)), some (.inr (10, 0, 2)), some (.inl (.int x5)), some (.inl (.int 1)), some (.inl (.int 0)), o8, o9] [.inl (.int 0)] m18 (k + 1)))))) ∧ (((0 ≤ ((ch_scr g).2.2 (Int32.toNatClampNeg (x5 + 1))) ∧ ((ch_scr g).2.2 (Int32.toNatClampNeg (x5 + 1))) ≤ 2) ∧ m (9, 0, 0) 15 = 0) → (∀ m18 : ch_M, m18 = ch_wr m (9, 0, 0) 19 2 → ((((m18 (9, 0, 0) 19) = 1 → ch_J g m_l_law R E 2096 [some (.inr (11, 0, 0)), some (.inr (0, 0, 0)), some (.inr (9, 0, 0)), some (.inr (10, 0, 1)), some (.inr (10, 0, 2)), some (.inl (.int x5)), some (.inl (.int 1)), some (.inl (.int 0)), o8, o9] [] m18 (k + 1)) ∧ (¬ (m18 (9, 0, 0) 19) = 1 → ch_J g m_l_law R E 1728 [some (.inr (11, 0, 0)), some (.inr (0, 0, 0)), some (.inr (9, 0, 0)), some (.inr (10, 0, 1)), some (.inr (10, 0, 2)), some (.inl (.int x5)), some (.inl (.int 1)), some (.inl (.int 0)), o8, o9] [.inl (.int 0)] m18 (k + 1)))))))) ∧ (((0 ≤ ((ch_scr g).2.2 (Int32.toNatClampNeg (x5 + 1))) ∧ ((ch_scr g).2.2 (Int32.toNatClampNeg (x5 + 1))) ≤ 2) ∧ m (3, 0, 0) 0 = 0) → ((((0 ≤ ((ch_scr g).2.2 (Int32.toNatClampNeg (x5 + 1))) ∧ ((ch_scr g).2.2 (Int32.toNatClampNeg (x5 + 1))) ≤ 2) ∧ ¬ m (9, 0, 0) 15 = 0) → (∀ m30 : ch_M, m30 = ch_wr m (9, 0, 0) 19 0 → ((((m30 (9, 0, 0) 19) = 2 → ch_J g m_l_law R E 2096 [some (.inr (11, 0, 0)), some (.inr (0, 0, 0)), some (.inr (9, 0, 0)), some (.inr (10, 0, 1)), some (.inr (10, 0, 2)), some (.inl (.int x5)), some (.inl (.int 2)), some (.inl (.int (if ((ch_scr g).2.2 (Int32.toNatClampNeg (x5 + 1))) = 0 then m (9, 0, 0) 15 else if ((ch_scr g).2.2 (Int32.toNatClampNeg (x5 + 1))) = 1 then m (9, 0, 0) 16 else m (9, 0, 0) 17))), o8, o9] [] m30 (k + 1)) ∧ (¬ (m30 (9, 0, 0) 19) = 2 → ch_J g m_l_law R E 1728 [some (.inr (11, 0, 0)), some (.inr (0, 0, 0)), some (.inr (9, 0, 0)), some (.inr (10, 0, 1)), some (.inr (10, 0, 2)), some (.inl (.int x5)), some (.inl (.int 2)), some (.inl (.int (if ((ch_scr g).2.2 (Int32.toNatClampNeg (x5 + 1))) = 0 then m (9, 0, 0) 15 else if ((ch_scr g).2.2 (Int32.toNatClampNeg (x5 + 1))) = 1 then m (9, 0, 0) 16 else m (9, 0, 0) 17))), o8, o9] [.inl (.int 0)] m30 (k + 1)))))) ∧ ((¬ (0 ≤ ((ch_scr g).2.2 (Int32.toNatClampNeg (x5 + 1))) ∧ ((ch_scr g).2.2 (Int32.toNatClampNeg (x5 + 1))) ≤ 2)) → (∀ m30 : ch_M, m30 = ch_wr m (9, 0, 0) 19 1 → ((((m30 (9, 0, 0) 19) = 2 → ch_J g m_l_law R E 2096 [some (.inr (11, 0, 0)), some (.inr (0, 0, 0)), some (.inr (9, 0, 0)), some (.inr (10, 0, 1)), some (.inr (10, 0, 2)), some (.inl (.int x5)), some (.inl (.int 2)), some (.inl (.int 0)), o8, o9] [] m30 (k + 1)) ∧ (¬ (m30 (9, 0, 0) 19) = 2 → ch_J g m_l_law R E 1728 [some (.inr (11, 0, 0)), some (.inr (0, 0, 0)), some (.inr (9, 0, 0)), some (.inr (10, 0, 1)), some (.inr (10, 0, 2)), some (.inl (.int x5)), some (.inl (.int 2)), some (.inl (.int 0)), o8, o9] [.inl (.int 0)] m30 (k + 1)))))) ∧ (((0 ≤ ((ch_scr g).2.2 (Int32.toNatClampNeg (x5 + 1))) ∧ ((ch_scr g).2.2 (Int32.toNatClampNeg (x5 + 1))) ≤ 2) ∧ m (9, 0, 0) 15 = 0) → (∀ m30 : ch_M, m30 = ch_wr m (9, 0, 0) 19 2 → ((((m30 (9, 0, 0) 19) = 2 → ch_J g m_l_law R E 2096 [some (.inr (11, 0, 0)), some (.inr (0, 0, 0)), some (.inr (9, 0, 0)), some (.inr (10, 0, 1)), some (.inr (10, 0, 2)), some (.inl (.int x5)), some (.inl (.int 2)), some (.inl (.int 0)), o8, o9] [] m30 (k + 1)) ∧ (¬ (m30 (9, 0, 0) 19) = 2 → ch_J g m_l_law R E 1728 [some (.inr (11, 0, 0)), some (.inr (0, 0, 0)), some (.inr (9, 0, 0)), some (.inr (10, 0, 1)), some (.inr (10, 0, 2)), some (.inl (.int x5)), some (.inl (.int 2)), some (.inl (.int 0)), o8, o9] [.inl (.int 0)] m30 (k + 1)))))))))) : ch_J g m_l_law R E 1693 [some (.inr (11, 0, 0)), some (.inr (0, 0, 0)), some (.inr (9, 0, 0)), some (.inr (10, 0, 1)), some (.inr (10, 0, 2)), some (.inl (.int x5)), o6, o7, o8, o9] [] m k := by
  refine ch_aload_n (i := 1) d_l_law_1693 rfl rfl ?_
  refine ch_aload_n (i := 0) d_l_law_1694 rfl rfl ?_
  refine ch_iload d_l_law_1695 rfl ?_
  refine ch_iconst (v := 1) d_l_law_1697 (by decide) ?_
  refine ch_iadd d_l_law_1698 ?_
  have b1 := h.1
  replace h := h.2
  refine ch_sld d_l_law_1699 b1 ?_
  refine ch_aload_n (i := 3) d_l_law_1700 rfl rfl ?_
  refine ch_callSX (as := [.inr (0, 0, 0), .inl (.int ((ch_scr g).2.2 (Int32.toNatClampNeg (x5 + 1)))), .inr (10, 0, 1)]) d_l_law_1701 lk_l_219 ms_l_reason rfl rfl (ch_hR hR (Nat.le_of_ble_eq_true rfl)) (Nat.le_of_ble_eq_true rfl) (ch_rc0 (k := k) (b := 1) hcs (Nat.le_of_ble_eq_true rfl)) (ch_mono (ch_Ki (fun r2 m3 q4 => ?_)) (s_l_reason g (fun (r_ : Int32) (m_ : ch_M) => (((0 ≤ ((ch_scr g).2.2 (Int32.toNatClampNeg (x5 + 1))) ∧ ((ch_scr g).2.2 (Int32.toNatClampNeg (x5 + 1))) ≤ 2) ∧ ¬ m (3, 0, 0) 0 = 0) ∧ 0 = r_ ∧ m_ = (ch_wr m (10, 0, 1) 0 (if ((ch_scr g).2.2 (Int32.toNatClampNeg (x5 + 1))) = 0 then m (3, 0, 0) 0 else if ((ch_scr g).2.2 (Int32.toNatClampNeg (x5 + 1))) = 1 then m (3, 0, 0) 1 else m (3, 0, 0) 2))) ∨ ((¬ (0 ≤ ((ch_scr g).2.2 (Int32.toNatClampNeg (x5 + 1))) ∧ ((ch_scr g).2.2 (Int32.toNatClampNeg (x5 + 1))) ≤ 2)) ∧ 1 = r_ ∧ m = m_) ∨ (((0 ≤ ((ch_scr g).2.2 (Int32.toNatClampNeg (x5 + 1))) ∧ ((ch_scr g).2.2 (Int32.toNatClampNeg (x5 + 1))) ≤ 2) ∧ m (3, 0, 0) 0 = 0) ∧ 2 = r_ ∧ m = m_)) (((ch_scr g).2.2 (Int32.toNatClampNeg (x5 + 1)))) m ⟨(fun c_ => (Or.inl ⟨c_, rfl, rfl⟩)), (fun c_ => (Or.inr (Or.inl ⟨c_, rfl, rfl⟩))), (fun c_ => (Or.inr (Or.inr ⟨c_, rfl, rfl⟩)))⟩))
  rcases q4 with ⟨c_, rfl, hm_⟩ | ⟨c_, rfl, rfl⟩ | ⟨c_, rfl, rfl⟩
  · replace h := h.1 c_ m3 hm_
    refine ch_istore (i := 6) d_l_law_1704 (Nat.le_of_ble_eq_true rfl) (ls' := [some (.inr (11, 0, 0)), some (.inr (0, 0, 0)), some (.inr (9, 0, 0)), some (.inr (10, 0, 1)), some (.inr (10, 0, 2)), some (.inl (.int x5)), some (.inl (.int 0)), o7, o8, o9]) rfl ?_
    refine ch_aload_n (i := 2) d_l_law_1706 rfl rfl ?_
    refine ch_aload_n (i := 0) d_l_law_1707 rfl rfl ?_
    refine ch_iload d_l_law_1708 rfl ?_
    refine ch_iconst (v := 1) d_l_law_1710 (by decide) ?_
    refine ch_iadd d_l_law_1711 ?_
    refine ch_sld d_l_law_1712 b1 ?_
    refine ch_callV (as := [.inl (.int ((ch_scr g).2.2 (Int32.toNatClampNeg (x5 + 1))))]) d_l_law_1713 lk_l_221 mi_m_reason me_m_reason rfl rfl rfl (ch_hR hR (Nat.le_of_ble_eq_true rfl)) (Nat.le_of_ble_eq_true rfl) (ch_rc1 (k := k) (a := 1) (b := 0) hcs (Nat.le_of_ble_eq_true rfl)) (ch_mono (ch_Ki (fun r5 m6 q7 => ?_)) (s_m_reason g (fun (r_ : Int32) (m_ : ch_M) => (((0 ≤ ((ch_scr g).2.2 (Int32.toNatClampNeg (x5 + 1))) ∧ ((ch_scr g).2.2 (Int32.toNatClampNeg (x5 + 1))) ≤ 2) ∧ ¬ m3 (9, 0, 0) 15 = 0) ∧ (if ((ch_scr g).2.2 (Int32.toNatClampNeg (x5 + 1))) = 0 then m3 (9, 0, 0) 15 else if ((ch_scr g).2.2 (Int32.toNatClampNeg (x5 + 1))) = 1 then m3 (9, 0, 0) 16 else m3 (9, 0, 0) 17) = r_ ∧ m_ = ch_wr m3 (9, 0, 0) 19 0) ∨ ((¬ (0 ≤ ((ch_scr g).2.2 (Int32.toNatClampNeg (x5 + 1))) ∧ ((ch_scr g).2.2 (Int32.toNatClampNeg (x5 + 1))) ≤ 2)) ∧ 0 = r_ ∧ m_ = ch_wr m3 (9, 0, 0) 19 1) ∨ (((0 ≤ ((ch_scr g).2.2 (Int32.toNatClampNeg (x5 + 1))) ∧ ((ch_scr g).2.2 (Int32.toNatClampNeg (x5 + 1))) ≤ 2) ∧ m3 (9, 0, 0) 15 = 0) ∧ 0 = r_ ∧ m_ = ch_wr m3 (9, 0, 0) 19 2)) (((ch_scr g).2.2 (Int32.toNatClampNeg (x5 + 1)))) m3 ⟨(fun c_ => (Or.inl ⟨c_, rfl, rfl⟩)), (fun c_ => (Or.inr (Or.inl ⟨c_, rfl, rfl⟩))), (fun c_ => (Or.inr (Or.inr ⟨c_, rfl, rfl⟩)))⟩))
    rcases q7 with ⟨c_, rfl, hm_⟩ | ⟨c_, rfl, hm_⟩ | ⟨c_, rfl, hm_⟩
    · replace h := h.1 c_ m6 hm_
      refine ch_istore (i := 7) d_l_law_1716 (Nat.le_of_ble_eq_true rfl) (ls' := [some (.inr (11, 0, 0)), some (.inr (0, 0, 0)), some (.inr (9, 0, 0)), some (.inr (10, 0, 1)), some (.inr (10, 0, 2)), some (.inl (.int x5)), some (.inl (.int 0)), some (.inl (.int (if ((ch_scr g).2.2 (Int32.toNatClampNeg (x5 + 1))) = 0 then m3 (9, 0, 0) 15 else if ((ch_scr g).2.2 (Int32.toNatClampNeg (x5 + 1))) = 1 then m3 (9, 0, 0) 16 else m3 (9, 0, 0) 17))), o8, o9]) rfl ?_
      refine ch_aload_n (i := 2) d_l_law_1718 rfl rfl ?_
      refine ch_callV (as := []) d_l_law_1719 lk_l_129 mi_m_thrown me_m_thrown rfl rfl rfl (ch_hR hR (Nat.le_of_ble_eq_true rfl)) (Nat.le_of_ble_eq_true rfl) (ch_rc1 (k := k) (a := 1) (b := 0) hcs (Nat.le_of_ble_eq_true rfl)) (ch_mono (ch_Ki (fun r8 m9 q10 => ?_)) (s_m_thrown g (fun (r_ : Int32) (m_ : ch_M) => ((m6 (9, 0, 0) 19) = r_ ∧ m6 = m_))  m6 ⟨rfl, rfl⟩))
      obtain ⟨rfl, rfl⟩ := q10
      replace h := h
      refine ch_iload d_l_law_1722 rfl ?_
      refine ch_icmp_eq (tgt := 1729) d_l_law_1724 (by decide) (fun c => ?_) (fun c => ?_)
      · replace h := h.1 c
        refine ch_iload d_l_law_1729 rfl ?_
        refine ch_if_ne (tgt := 1746) d_l_law_1731 (by decide) (fun c => absurd c (by decide)) (fun _ => ?_)
        refine ch_aload_n (i := 3) d_l_law_1734 rfl rfl ?_
        refine ch_iconst (v := 0) d_l_law_1735 (by decide) ?_
        refine ch_lald (n := 1) d_l_law_1736 (by decide) rfl (vp_in_nI (n := 0) (by decide) (by decide)) ?_
        refine ch_iload d_l_law_1737 rfl ?_
        refine ch_i2l d_l_law_1739 ?_
        refine ch_lcmp d_l_law_1740 ?_
        refine ch_if_eq (tgt := 1746) d_l_law_1741 (by decide) (fun c => ?_) (fun c => ?_)
        · replace h := h.1 c
          refine ch_goto (tgt := 2096) d_l_law_1746 (by decide) ?_
          exact h
        · replace h := h.2 c
          refine ch_iconst (v := 0) d_l_law_1744 (by decide) ?_
          exact h
      · replace h := h.2 c
        refine ch_iconst (v := 0) d_l_law_1727 (by decide) ?_
        exact h
    · replace h := h.2.1 c_ m6 hm_
      refine ch_istore (i := 7) d_l_law_1716 (Nat.le_of_ble_eq_true rfl) (ls' := [some (.inr (11, 0, 0)), some (.inr (0, 0, 0)), some (.inr (9, 0, 0)), some (.inr (10, 0, 1)), some (.inr (10, 0, 2)), some (.inl (.int x5)), some (.inl (.int 0)), some (.inl (.int 0)), o8, o9]) rfl ?_
      refine ch_aload_n (i := 2) d_l_law_1718 rfl rfl ?_
      refine ch_callV (as := []) d_l_law_1719 lk_l_129 mi_m_thrown me_m_thrown rfl rfl rfl (ch_hR hR (Nat.le_of_ble_eq_true rfl)) (Nat.le_of_ble_eq_true rfl) (ch_rc1 (k := k) (a := 1) (b := 0) hcs (Nat.le_of_ble_eq_true rfl)) (ch_mono (ch_Ki (fun r11 m12 q13 => ?_)) (s_m_thrown g (fun (r_ : Int32) (m_ : ch_M) => ((m6 (9, 0, 0) 19) = r_ ∧ m6 = m_))  m6 ⟨rfl, rfl⟩))
      obtain ⟨rfl, rfl⟩ := q13
      replace h := h
      refine ch_iload d_l_law_1722 rfl ?_
      refine ch_icmp_eq (tgt := 1729) d_l_law_1724 (by decide) (fun c => ?_) (fun c => ?_)
      · replace h := h.1 c
        refine ch_iload d_l_law_1729 rfl ?_
        refine ch_if_ne (tgt := 1746) d_l_law_1731 (by decide) (fun c => absurd c (by decide)) (fun _ => ?_)
        refine ch_aload_n (i := 3) d_l_law_1734 rfl rfl ?_
        refine ch_iconst (v := 0) d_l_law_1735 (by decide) ?_
        refine ch_lald (n := 1) d_l_law_1736 (by decide) rfl (vp_in_nI (n := 0) (by decide) (by decide)) ?_
        refine ch_iload d_l_law_1737 rfl ?_
        refine ch_i2l d_l_law_1739 ?_
        refine ch_lcmp d_l_law_1740 ?_
        refine ch_if_eq (tgt := 1746) d_l_law_1741 (by decide) (fun c => ?_) (fun c => ?_)
        · replace h := h.1 c
          refine ch_goto (tgt := 2096) d_l_law_1746 (by decide) ?_
          exact h
        · replace h := h.2 c
          refine ch_iconst (v := 0) d_l_law_1744 (by decide) ?_
          exact h
      · replace h := h.2 c
        refine ch_iconst (v := 0) d_l_law_1727 (by decide) ?_
        exact h
    · replace h := h.2.2 c_ m6 hm_
      refine ch_istore (i := 7) d_l_law_1716 (Nat.le_of_ble_eq_true rfl) (ls' := [some (.inr (11, 0, 0)), some (.inr (0, 0, 0)), some (.inr (9, 0, 0)), some (.inr (10, 0, 1)), some (.inr (10, 0, 2)), some (.inl (.int x5)), some (.inl (.int 0)), some (.inl (.int 0)), o8, o9]) rfl ?_
      refine ch_aload_n (i := 2) d_l_law_1718 rfl rfl ?_
      refine ch_callV (as := []) d_l_law_1719 lk_l_129 mi_m_thrown me_m_thrown rfl rfl rfl (ch_hR hR (Nat.le_of_ble_eq_true rfl)) (Nat.le_of_ble_eq_true rfl) (ch_rc1 (k := k) (a := 1) (b := 0) hcs (Nat.le_of_ble_eq_true rfl)) (ch_mono (ch_Ki (fun r14 m15 q16 => ?_)) (s_m_thrown g (fun (r_ : Int32) (m_ : ch_M) => ((m6 (9, 0, 0) 19) = r_ ∧ m6 = m_))  m6 ⟨rfl, rfl⟩))
      obtain ⟨rfl, rfl⟩ := q16
      replace h := h
      refine ch_iload d_l_law_1722 rfl ?_
      refine ch_icmp_eq (tgt := 1729) d_l_law_1724 (by decide) (fun c => ?_) (fun c => ?_)
      · replace h := h.1 c
        refine ch_iload d_l_law_1729 rfl ?_
        refine ch_if_ne (tgt := 1746) d_l_law_1731 (by decide) (fun c => absurd c (by decide)) (fun _ => ?_)
        refine ch_aload_n (i := 3) d_l_law_1734 rfl rfl ?_
        refine ch_iconst (v := 0) d_l_law_1735 (by decide) ?_
        refine ch_lald (n := 1) d_l_law_1736 (by decide) rfl (vp_in_nI (n := 0) (by decide) (by decide)) ?_
        refine ch_iload d_l_law_1737 rfl ?_
        refine ch_i2l d_l_law_1739 ?_
        refine ch_lcmp d_l_law_1740 ?_
        refine ch_if_eq (tgt := 1746) d_l_law_1741 (by decide) (fun c => ?_) (fun c => ?_)
        · replace h := h.1 c
          refine ch_goto (tgt := 2096) d_l_law_1746 (by decide) ?_
          exact h
        · replace h := h.2 c
          refine ch_iconst (v := 0) d_l_law_1744 (by decide) ?_
          exact h
      · replace h := h.2 c
        refine ch_iconst (v := 0) d_l_law_1727 (by decide) ?_
        exact h
  · replace h := h.2.1 c_
    refine ch_istore (i := 6) d_l_law_1704 (Nat.le_of_ble_eq_true rfl) (ls' := [some (.inr (11, 0, 0)), some (.inr (0, 0, 0)), some (.inr (9, 0, 0)), some (.inr (10, 0, 1)), some (.inr (10, 0, 2)), some (.inl (.int x5)), some (.inl (.int 1)), o7, o8, o9]) rfl ?_
    refine ch_aload_n (i := 2) d_l_law_1706 rfl rfl ?_
    refine ch_aload_n (i := 0) d_l_law_1707 rfl rfl ?_
    refine ch_iload d_l_law_1708 rfl ?_
    refine ch_iconst (v := 1) d_l_law_1710 (by decide) ?_
    refine ch_iadd d_l_law_1711 ?_
    refine ch_sld d_l_law_1712 b1 ?_
    refine ch_callV (as := [.inl (.int ((ch_scr g).2.2 (Int32.toNatClampNeg (x5 + 1))))]) d_l_law_1713 lk_l_221 mi_m_reason me_m_reason rfl rfl rfl (ch_hR hR (Nat.le_of_ble_eq_true rfl)) (Nat.le_of_ble_eq_true rfl) (ch_rc1 (k := k) (a := 1) (b := 0) hcs (Nat.le_of_ble_eq_true rfl)) (ch_mono (ch_Ki (fun r17 m18 q19 => ?_)) (s_m_reason g (fun (r_ : Int32) (m_ : ch_M) => (((0 ≤ ((ch_scr g).2.2 (Int32.toNatClampNeg (x5 + 1))) ∧ ((ch_scr g).2.2 (Int32.toNatClampNeg (x5 + 1))) ≤ 2) ∧ ¬ m (9, 0, 0) 15 = 0) ∧ (if ((ch_scr g).2.2 (Int32.toNatClampNeg (x5 + 1))) = 0 then m (9, 0, 0) 15 else if ((ch_scr g).2.2 (Int32.toNatClampNeg (x5 + 1))) = 1 then m (9, 0, 0) 16 else m (9, 0, 0) 17) = r_ ∧ m_ = ch_wr m (9, 0, 0) 19 0) ∨ ((¬ (0 ≤ ((ch_scr g).2.2 (Int32.toNatClampNeg (x5 + 1))) ∧ ((ch_scr g).2.2 (Int32.toNatClampNeg (x5 + 1))) ≤ 2)) ∧ 0 = r_ ∧ m_ = ch_wr m (9, 0, 0) 19 1) ∨ (((0 ≤ ((ch_scr g).2.2 (Int32.toNatClampNeg (x5 + 1))) ∧ ((ch_scr g).2.2 (Int32.toNatClampNeg (x5 + 1))) ≤ 2) ∧ m (9, 0, 0) 15 = 0) ∧ 0 = r_ ∧ m_ = ch_wr m (9, 0, 0) 19 2)) (((ch_scr g).2.2 (Int32.toNatClampNeg (x5 + 1)))) m ⟨(fun c_ => (Or.inl ⟨c_, rfl, rfl⟩)), (fun c_ => (Or.inr (Or.inl ⟨c_, rfl, rfl⟩))), (fun c_ => (Or.inr (Or.inr ⟨c_, rfl, rfl⟩)))⟩))
    rcases q19 with ⟨c_, rfl, hm_⟩ | ⟨c_, rfl, hm_⟩ | ⟨c_, rfl, hm_⟩
    · replace h := h.1 c_ m18 hm_
      refine ch_istore (i := 7) d_l_law_1716 (Nat.le_of_ble_eq_true rfl) (ls' := [some (.inr (11, 0, 0)), some (.inr (0, 0, 0)), some (.inr (9, 0, 0)), some (.inr (10, 0, 1)), some (.inr (10, 0, 2)), some (.inl (.int x5)), some (.inl (.int 1)), some (.inl (.int (if ((ch_scr g).2.2 (Int32.toNatClampNeg (x5 + 1))) = 0 then m (9, 0, 0) 15 else if ((ch_scr g).2.2 (Int32.toNatClampNeg (x5 + 1))) = 1 then m (9, 0, 0) 16 else m (9, 0, 0) 17))), o8, o9]) rfl ?_
      refine ch_aload_n (i := 2) d_l_law_1718 rfl rfl ?_
      refine ch_callV (as := []) d_l_law_1719 lk_l_129 mi_m_thrown me_m_thrown rfl rfl rfl (ch_hR hR (Nat.le_of_ble_eq_true rfl)) (Nat.le_of_ble_eq_true rfl) (ch_rc1 (k := k) (a := 1) (b := 0) hcs (Nat.le_of_ble_eq_true rfl)) (ch_mono (ch_Ki (fun r20 m21 q22 => ?_)) (s_m_thrown g (fun (r_ : Int32) (m_ : ch_M) => ((m18 (9, 0, 0) 19) = r_ ∧ m18 = m_))  m18 ⟨rfl, rfl⟩))
      obtain ⟨rfl, rfl⟩ := q22
      replace h := h
      refine ch_iload d_l_law_1722 rfl ?_
      refine ch_icmp_eq (tgt := 1729) d_l_law_1724 (by decide) (fun c => ?_) (fun c => ?_)
      · replace h := h.1 c
        refine ch_iload d_l_law_1729 rfl ?_
        refine ch_if_ne (tgt := 1746) d_l_law_1731 (by decide) (fun _ => ?_) (fun c => absurd c (by decide))
        refine ch_goto (tgt := 2096) d_l_law_1746 (by decide) ?_
        exact h
      · replace h := h.2 c
        refine ch_iconst (v := 0) d_l_law_1727 (by decide) ?_
        exact h
    · replace h := h.2.1 c_ m18 hm_
      refine ch_istore (i := 7) d_l_law_1716 (Nat.le_of_ble_eq_true rfl) (ls' := [some (.inr (11, 0, 0)), some (.inr (0, 0, 0)), some (.inr (9, 0, 0)), some (.inr (10, 0, 1)), some (.inr (10, 0, 2)), some (.inl (.int x5)), some (.inl (.int 1)), some (.inl (.int 0)), o8, o9]) rfl ?_
      refine ch_aload_n (i := 2) d_l_law_1718 rfl rfl ?_
      refine ch_callV (as := []) d_l_law_1719 lk_l_129 mi_m_thrown me_m_thrown rfl rfl rfl (ch_hR hR (Nat.le_of_ble_eq_true rfl)) (Nat.le_of_ble_eq_true rfl) (ch_rc1 (k := k) (a := 1) (b := 0) hcs (Nat.le_of_ble_eq_true rfl)) (ch_mono (ch_Ki (fun r23 m24 q25 => ?_)) (s_m_thrown g (fun (r_ : Int32) (m_ : ch_M) => ((m18 (9, 0, 0) 19) = r_ ∧ m18 = m_))  m18 ⟨rfl, rfl⟩))
      obtain ⟨rfl, rfl⟩ := q25
      replace h := h
      refine ch_iload d_l_law_1722 rfl ?_
      refine ch_icmp_eq (tgt := 1729) d_l_law_1724 (by decide) (fun c => ?_) (fun c => ?_)
      · replace h := h.1 c
        refine ch_iload d_l_law_1729 rfl ?_
        refine ch_if_ne (tgt := 1746) d_l_law_1731 (by decide) (fun _ => ?_) (fun c => absurd c (by decide))
        refine ch_goto (tgt := 2096) d_l_law_1746 (by decide) ?_
        exact h
      · replace h := h.2 c
        refine ch_iconst (v := 0) d_l_law_1727 (by decide) ?_
        exact h
    · replace h := h.2.2 c_ m18 hm_
      refine ch_istore (i := 7) d_l_law_1716 (Nat.le_of_ble_eq_true rfl) (ls' := [some (.inr (11, 0, 0)), some (.inr (0, 0, 0)), some (.inr (9, 0, 0)), some (.inr (10, 0, 1)), some (.inr (10, 0, 2)), some (.inl (.int x5)), some (.inl (.int 1)), some (.inl (.int 0)), o8, o9]) rfl ?_
      refine ch_aload_n (i := 2) d_l_law_1718 rfl rfl ?_
      refine ch_callV (as := []) d_l_law_1719 lk_l_129 mi_m_thrown me_m_thrown rfl rfl rfl (ch_hR hR (Nat.le_of_ble_eq_true rfl)) (Nat.le_of_ble_eq_true rfl) (ch_rc1 (k := k) (a := 1) (b := 0) hcs (Nat.le_of_ble_eq_true rfl)) (ch_mono (ch_Ki (fun r26 m27 q28 => ?_)) (s_m_thrown g (fun (r_ : Int32) (m_ : ch_M) => ((m18 (9, 0, 0) 19) = r_ ∧ m18 = m_))  m18 ⟨rfl, rfl⟩))
      obtain ⟨rfl, rfl⟩ := q28
      replace h := h
      refine ch_iload d_l_law_1722 rfl ?_
      refine ch_icmp_eq (tgt := 1729) d_l_law_1724 (by decide) (fun c => ?_) (fun c => ?_)
      · replace h := h.1 c
        refine ch_iload d_l_law_1729 rfl ?_
        refine ch_if_ne (tgt := 1746) d_l_law_1731 (by decide) (fun _ => ?_) (fun c => absurd c (by decide))
        refine ch_goto (tgt := 2096) d_l_law_1746 (by decide) ?_
        exact h
      · replace h := h.2 c
        refine ch_iconst (v := 0) d_l_law_1727 (by decide) ?_
        exact h
  · replace h := h.2.2 c_
    refine ch_istore (i := 6) d_l_law_1704 (Nat.le_of_ble_eq_true rfl) (ls' := [some (.inr (11, 0, 0)), some (.inr (0, 0, 0)), some (.inr (9, 0, 0)), some (.inr (10, 0, 1)), some (.inr (10, 0, 2)), some (.inl (.int x5)), some (.inl (.int 2)), o7, o8, o9]) rfl ?_
    refine ch_aload_n (i := 2) d_l_law_1706 rfl rfl ?_
    refine ch_aload_n (i := 0) d_l_law_1707 rfl rfl ?_
    refine ch_iload d_l_law_1708 rfl ?_
    refine ch_iconst (v := 1) d_l_law_1710 (by decide) ?_
    refine ch_iadd d_l_law_1711 ?_
    refine ch_sld d_l_law_1712 b1 ?_
    refine ch_callV (as := [.inl (.int ((ch_scr g).2.2 (Int32.toNatClampNeg (x5 + 1))))]) d_l_law_1713 lk_l_221 mi_m_reason me_m_reason rfl rfl rfl (ch_hR hR (Nat.le_of_ble_eq_true rfl)) (Nat.le_of_ble_eq_true rfl) (ch_rc1 (k := k) (a := 1) (b := 0) hcs (Nat.le_of_ble_eq_true rfl)) (ch_mono (ch_Ki (fun r29 m30 q31 => ?_)) (s_m_reason g (fun (r_ : Int32) (m_ : ch_M) => (((0 ≤ ((ch_scr g).2.2 (Int32.toNatClampNeg (x5 + 1))) ∧ ((ch_scr g).2.2 (Int32.toNatClampNeg (x5 + 1))) ≤ 2) ∧ ¬ m (9, 0, 0) 15 = 0) ∧ (if ((ch_scr g).2.2 (Int32.toNatClampNeg (x5 + 1))) = 0 then m (9, 0, 0) 15 else if ((ch_scr g).2.2 (Int32.toNatClampNeg (x5 + 1))) = 1 then m (9, 0, 0) 16 else m (9, 0, 0) 17) = r_ ∧ m_ = ch_wr m (9, 0, 0) 19 0) ∨ ((¬ (0 ≤ ((ch_scr g).2.2 (Int32.toNatClampNeg (x5 + 1))) ∧ ((ch_scr g).2.2 (Int32.toNatClampNeg (x5 + 1))) ≤ 2)) ∧ 0 = r_ ∧ m_ = ch_wr m (9, 0, 0) 19 1) ∨ (((0 ≤ ((ch_scr g).2.2 (Int32.toNatClampNeg (x5 + 1))) ∧ ((ch_scr g).2.2 (Int32.toNatClampNeg (x5 + 1))) ≤ 2) ∧ m (9, 0, 0) 15 = 0) ∧ 0 = r_ ∧ m_ = ch_wr m (9, 0, 0) 19 2)) (((ch_scr g).2.2 (Int32.toNatClampNeg (x5 + 1)))) m ⟨(fun c_ => (Or.inl ⟨c_, rfl, rfl⟩)), (fun c_ => (Or.inr (Or.inl ⟨c_, rfl, rfl⟩))), (fun c_ => (Or.inr (Or.inr ⟨c_, rfl, rfl⟩)))⟩))
    rcases q31 with ⟨c_, rfl, hm_⟩ | ⟨c_, rfl, hm_⟩ | ⟨c_, rfl, hm_⟩
    · replace h := h.1 c_ m30 hm_
      refine ch_istore (i := 7) d_l_law_1716 (Nat.le_of_ble_eq_true rfl) (ls' := [some (.inr (11, 0, 0)), some (.inr (0, 0, 0)), some (.inr (9, 0, 0)), some (.inr (10, 0, 1)), some (.inr (10, 0, 2)), some (.inl (.int x5)), some (.inl (.int 2)), some (.inl (.int (if ((ch_scr g).2.2 (Int32.toNatClampNeg (x5 + 1))) = 0 then m (9, 0, 0) 15 else if ((ch_scr g).2.2 (Int32.toNatClampNeg (x5 + 1))) = 1 then m (9, 0, 0) 16 else m (9, 0, 0) 17))), o8, o9]) rfl ?_
      refine ch_aload_n (i := 2) d_l_law_1718 rfl rfl ?_
      refine ch_callV (as := []) d_l_law_1719 lk_l_129 mi_m_thrown me_m_thrown rfl rfl rfl (ch_hR hR (Nat.le_of_ble_eq_true rfl)) (Nat.le_of_ble_eq_true rfl) (ch_rc1 (k := k) (a := 1) (b := 0) hcs (Nat.le_of_ble_eq_true rfl)) (ch_mono (ch_Ki (fun r32 m33 q34 => ?_)) (s_m_thrown g (fun (r_ : Int32) (m_ : ch_M) => ((m30 (9, 0, 0) 19) = r_ ∧ m30 = m_))  m30 ⟨rfl, rfl⟩))
      obtain ⟨rfl, rfl⟩ := q34
      replace h := h
      refine ch_iload d_l_law_1722 rfl ?_
      refine ch_icmp_eq (tgt := 1729) d_l_law_1724 (by decide) (fun c => ?_) (fun c => ?_)
      · replace h := h.1 c
        refine ch_iload d_l_law_1729 rfl ?_
        refine ch_if_ne (tgt := 1746) d_l_law_1731 (by decide) (fun _ => ?_) (fun c => absurd c (by decide))
        refine ch_goto (tgt := 2096) d_l_law_1746 (by decide) ?_
        exact h
      · replace h := h.2 c
        refine ch_iconst (v := 0) d_l_law_1727 (by decide) ?_
        exact h
    · replace h := h.2.1 c_ m30 hm_
      refine ch_istore (i := 7) d_l_law_1716 (Nat.le_of_ble_eq_true rfl) (ls' := [some (.inr (11, 0, 0)), some (.inr (0, 0, 0)), some (.inr (9, 0, 0)), some (.inr (10, 0, 1)), some (.inr (10, 0, 2)), some (.inl (.int x5)), some (.inl (.int 2)), some (.inl (.int 0)), o8, o9]) rfl ?_
      refine ch_aload_n (i := 2) d_l_law_1718 rfl rfl ?_
      refine ch_callV (as := []) d_l_law_1719 lk_l_129 mi_m_thrown me_m_thrown rfl rfl rfl (ch_hR hR (Nat.le_of_ble_eq_true rfl)) (Nat.le_of_ble_eq_true rfl) (ch_rc1 (k := k) (a := 1) (b := 0) hcs (Nat.le_of_ble_eq_true rfl)) (ch_mono (ch_Ki (fun r35 m36 q37 => ?_)) (s_m_thrown g (fun (r_ : Int32) (m_ : ch_M) => ((m30 (9, 0, 0) 19) = r_ ∧ m30 = m_))  m30 ⟨rfl, rfl⟩))
      obtain ⟨rfl, rfl⟩ := q37
      replace h := h
      refine ch_iload d_l_law_1722 rfl ?_
      refine ch_icmp_eq (tgt := 1729) d_l_law_1724 (by decide) (fun c => ?_) (fun c => ?_)
      · replace h := h.1 c
        refine ch_iload d_l_law_1729 rfl ?_
        refine ch_if_ne (tgt := 1746) d_l_law_1731 (by decide) (fun _ => ?_) (fun c => absurd c (by decide))
        refine ch_goto (tgt := 2096) d_l_law_1746 (by decide) ?_
        exact h
      · replace h := h.2 c
        refine ch_iconst (v := 0) d_l_law_1727 (by decide) ?_
        exact h
    · replace h := h.2.2 c_ m30 hm_
      refine ch_istore (i := 7) d_l_law_1716 (Nat.le_of_ble_eq_true rfl) (ls' := [some (.inr (11, 0, 0)), some (.inr (0, 0, 0)), some (.inr (9, 0, 0)), some (.inr (10, 0, 1)), some (.inr (10, 0, 2)), some (.inl (.int x5)), some (.inl (.int 2)), some (.inl (.int 0)), o8, o9]) rfl ?_
      refine ch_aload_n (i := 2) d_l_law_1718 rfl rfl ?_
      refine ch_callV (as := []) d_l_law_1719 lk_l_129 mi_m_thrown me_m_thrown rfl rfl rfl (ch_hR hR (Nat.le_of_ble_eq_true rfl)) (Nat.le_of_ble_eq_true rfl) (ch_rc1 (k := k) (a := 1) (b := 0) hcs (Nat.le_of_ble_eq_true rfl)) (ch_mono (ch_Ki (fun r38 m39 q40 => ?_)) (s_m_thrown g (fun (r_ : Int32) (m_ : ch_M) => ((m30 (9, 0, 0) 19) = r_ ∧ m30 = m_))  m30 ⟨rfl, rfl⟩))
      obtain ⟨rfl, rfl⟩ := q40
      replace h := h
      refine ch_iload d_l_law_1722 rfl ?_
      refine ch_icmp_eq (tgt := 1729) d_l_law_1724 (by decide) (fun c => ?_) (fun c => ?_)
      · replace h := h.1 c
        refine ch_iload d_l_law_1729 rfl ?_
        refine ch_if_ne (tgt := 1746) d_l_law_1731 (by decide) (fun _ => ?_) (fun c => absurd c (by decide))
        refine ch_goto (tgt := 2096) d_l_law_1746 (by decide) ?_
        exact h
      · replace h := h.2 c
        refine ch_iconst (v := 0) d_l_law_1727 (by decide) ?_
        exact h
set_option maxHeartbeats 1600000 in
theorem g_l_law_1749 (g : ch_G) (R : Room) (E : ch_En) (k : Nat) (hR : ch_RR R 18) (hcs : k + 40 ≤ R.cells ∧ 6 * k + 240 ≤ R.slots) (x5 : Int32) (o6 : Option ch_V) (o7 : Option ch_V) (o8 : Option ch_V) (o9 : Option ch_V) (m : ch_M) (h : ((∀ m2 : ch_M, m2 = ch_os m 6 1 (x_ln (ch_ob m 1 0) (ch_ob m 6 1) 12) → (∃ Y_4 : ch_B, (∃ A_5 : ch_B, (m_rel Y_4 (m2 (9, 0, 1))) ∧ (∀ i_, i_ < 12 → Y_4 1 i_ = -1 ∨ vp_in (Y_4 1 i_) 5) ∧ ((∀ (B6 : ch_B), (∀ a_ i_, a_ ≠ 6 → ¬ (a_ = 0 ∧ (i_ = 8 ∨ i_ = 19)) → B6 a_ i_ = ch_ob m2 9 0 a_ i_) → (B6 0 19 = 0) → (B6 0 8 = x_ln Y_4 A_5 12 0 1) → (∀ k_, k_ < Int32.toNatClampNeg (x_ln Y_4 A_5 12 0 1) → B6 6 k_ = x_ln Y_4 A_5 12 1 k_) → (∀ m8 : ch_M, m8 = ch_os m2 9 0 B6 → (((x_ln (ch_ob m 1 0) (ch_ob m 6 1) 12 0 1) = (x_ln Y_4 A_5 12 0 1) → ch_J g m_l_law R E 2096 [some (.inr (11, 0, 0)), some (.inr (0, 0, 0)), some (.inr (9, 0, 0)), some (.inr (10, 0, 1)), some (.inr (10, 0, 2)), some (.inl (.int x5)), o6, o7, o8, o9] [] m8 k) ∧ (¬ (x_ln (ch_ob m 1 0) (ch_ob m 6 1) 12 0 1) = (x_ln Y_4 A_5 12 0 1) → ch_J g m_l_law R E 1761 [some (.inr (11, 0, 0)), some (.inr (0, 0, 0)), some (.inr (9, 0, 0)), some (.inr (10, 0, 1)), some (.inr (10, 0, 2)), some (.inl (.int x5)), o6, o7, o8, o9] [.inl (.int 0)] m8 k)))))))))) : ch_J g m_l_law R E 1749 [some (.inr (11, 0, 0)), some (.inr (0, 0, 0)), some (.inr (9, 0, 0)), some (.inr (10, 0, 1)), some (.inr (10, 0, 2)), some (.inl (.int x5)), o6, o7, o8, o9] [] m k := by
  refine ch_aload_n (i := 1) d_l_law_1749 rfl rfl ?_
  refine ch_callV (as := []) d_l_law_1750 lk_l_222 mi_x_line me_x_line rfl rfl rfl (ch_hR hR (Nat.le_of_ble_eq_true rfl)) (Nat.le_of_ble_eq_true rfl) (ch_rc0 (k := k) (b := 0) hcs (Nat.le_of_ble_eq_true rfl)) (ch_mono (ch_Ki (fun r1 m2 q3 => ?_)) (s_x_line g (fun (r_ : Int32) (m_ : ch_M) => ((x_ln (ch_ob m 1 0) (ch_ob m 6 1) 12 0 1) = r_ ∧ m_ = ch_os m 6 1 (x_ln (ch_ob m 1 0) (ch_ob m 6 1) 12)))  m ⟨rfl, rfl⟩))
  obtain ⟨rfl, hm_⟩ := q3
  replace h := h m2 hm_
  refine ch_aload_n (i := 2) d_l_law_1753 rfl rfl ?_
  obtain ⟨Y_4, h⟩ := h
  obtain ⟨A_5, h⟩ := h
  have b10 := h.1
  replace h := h.2
  have b11 := h.1
  replace h := h.2
  refine ch_callV (as := []) d_l_law_1754 lk_l_225 mi_m_line me_m_line rfl rfl rfl (ch_hR hR (Nat.le_of_ble_eq_true rfl)) (Nat.le_of_ble_eq_true rfl) (ch_rc0 (k := k) (b := 0) hcs (Nat.le_of_ble_eq_true rfl)) (ch_mono (ch_Ki (fun r7 m8 q9 => ?_)) (s_m_line g (fun (r_ : Int32) (m_ : ch_M) => (∃ (B6 : ch_B), (x_ln Y_4 A_5 12 0 1) = r_ ∧ (∀ a_ i_, a_ ≠ 6 → ¬ (a_ = 0 ∧ (i_ = 8 ∨ i_ = 19)) → B6 a_ i_ = ch_ob m2 9 0 a_ i_) ∧ (B6 0 19 = 0) ∧ (B6 0 8 = x_ln Y_4 A_5 12 0 1) ∧ (∀ k_, k_ < Int32.toNatClampNeg (x_ln Y_4 A_5 12 0 1) → B6 6 k_ = x_ln Y_4 A_5 12 1 k_) ∧ m_ = ch_os m2 9 0 B6)) (Y_4) (A_5) m2 ⟨b10, b11, (fun B6 f0_ f1_ f2_ f3_ => ⟨B6, rfl, f0_, f1_, f2_, f3_, rfl⟩)⟩))
  obtain ⟨B6, rfl, f0_, f1_, f2_, f3_, hm_⟩ := q9
  replace h := h B6 f0_ f1_ f2_ f3_ m8 hm_
  refine ch_icmp_eq (tgt := 2096) d_l_law_1757 (by decide) (fun c => ?_) (fun c => ?_)
  · replace h := h.1 c
    exact h
  · replace h := h.2 c
    refine ch_iconst (v := 0) d_l_law_1760 (by decide) ?_
    exact h
set_option maxHeartbeats 1600000 in
theorem g_l_law_1762 (g : ch_G) (R : Room) (E : ch_En) (k : Nat) (hR : ch_RR R 18) (hcs : k + 40 ≤ R.cells ∧ 6 * k + 240 ≤ R.slots) (x5 : Int32) (o6 : Option ch_V) (o7 : Option ch_V) (o8 : Option ch_V) (o9 : Option ch_V) (m : ch_M) (h : (vp_in (m (1, 0, 0) 9) 6) ∧ (∀ i_, i_ < 5 → vp_in (m (1, 0, 8) i_) 5) ∧ ((∀ m2 : ch_M, m2 = ch_os m 6 1 (x_wn (ch_ob m 1 0) (ch_ob m 6 1) (Int32.toNatClampNeg (m (1, 0, 0) 9))) → (∃ Y_6 : ch_B, (∃ A_7 : ch_B, (m_rel Y_6 (m2 (9, 0, 1))) ∧ (vp_in (Y_6 0 9) 6) ∧ (∀ i_, i_ < 5 → vp_in (Y_6 8 i_) 5) ∧ ((∀ (B8 : ch_B), (∀ a_ i_, a_ ≠ 6 → ¬ (a_ = 0 ∧ (i_ = 8 ∨ i_ = 19)) → B8 a_ i_ = ch_ob m2 9 0 a_ i_) → (B8 0 19 = 0) → (B8 0 8 = x_wn Y_6 A_7 (Int32.toNatClampNeg (Y_6 0 9)) 0 1) → (∀ k_, k_ < Int32.toNatClampNeg (x_wn Y_6 A_7 (Int32.toNatClampNeg (Y_6 0 9)) 0 1) → B8 6 k_ = x_wn Y_6 A_7 (Int32.toNatClampNeg (Y_6 0 9)) 1 k_) → (∀ m10 : ch_M, m10 = ch_os m2 9 0 B8 → (((x_wn (ch_ob m 1 0) (ch_ob m 6 1) (Int32.toNatClampNeg (m (1, 0, 0) 9)) 0 1) = (x_wn Y_6 A_7 (Int32.toNatClampNeg (Y_6 0 9)) 0 1) → ch_J g m_l_law R E 2096 [some (.inr (11, 0, 0)), some (.inr (0, 0, 0)), some (.inr (9, 0, 0)), some (.inr (10, 0, 1)), some (.inr (10, 0, 2)), some (.inl (.int x5)), o6, o7, o8, o9] [] m10 k) ∧ (¬ (x_wn (ch_ob m 1 0) (ch_ob m 6 1) (Int32.toNatClampNeg (m (1, 0, 0) 9)) 0 1) = (x_wn Y_6 A_7 (Int32.toNatClampNeg (Y_6 0 9)) 0 1) → ch_J g m_l_law R E 1774 [some (.inr (11, 0, 0)), some (.inr (0, 0, 0)), some (.inr (9, 0, 0)), some (.inr (10, 0, 1)), some (.inr (10, 0, 2)), some (.inl (.int x5)), o6, o7, o8, o9] [.inl (.int 0)] m10 k)))))))))) : ch_J g m_l_law R E 1762 [some (.inr (11, 0, 0)), some (.inr (0, 0, 0)), some (.inr (9, 0, 0)), some (.inr (10, 0, 1)), some (.inr (10, 0, 2)), some (.inl (.int x5)), o6, o7, o8, o9] [] m k := by
  refine ch_aload_n (i := 1) d_l_law_1762 rfl rfl ?_
  have b4 := h.1
  replace h := h.2
  have b5 := h.1
  replace h := h.2
  refine ch_callV (as := []) d_l_law_1763 lk_l_226 mi_x_warrants me_x_warrants rfl rfl rfl (ch_hR hR (Nat.le_of_ble_eq_true rfl)) (Nat.le_of_ble_eq_true rfl) (ch_rc0 (k := k) (b := 0) hcs (Nat.le_of_ble_eq_true rfl)) (ch_mono (ch_Ki (fun r1 m2 q3 => ?_)) (s_x_warrants g (fun (r_ : Int32) (m_ : ch_M) => ((x_wn (ch_ob m 1 0) (ch_ob m 6 1) (Int32.toNatClampNeg (m (1, 0, 0) 9)) 0 1) = r_ ∧ m_ = ch_os m 6 1 (x_wn (ch_ob m 1 0) (ch_ob m 6 1) (Int32.toNatClampNeg (m (1, 0, 0) 9)))))  m ⟨b4, b5, ⟨rfl, rfl⟩⟩))
  obtain ⟨rfl, hm_⟩ := q3
  replace h := h m2 hm_
  refine ch_aload_n (i := 2) d_l_law_1766 rfl rfl ?_
  obtain ⟨Y_6, h⟩ := h
  obtain ⟨A_7, h⟩ := h
  have b12 := h.1
  replace h := h.2
  have b13 := h.1
  replace h := h.2
  have b14 := h.1
  replace h := h.2
  refine ch_callV (as := []) d_l_law_1767 lk_l_229 mi_m_warrants me_m_warrants rfl rfl rfl (ch_hR hR (Nat.le_of_ble_eq_true rfl)) (Nat.le_of_ble_eq_true rfl) (ch_rc0 (k := k) (b := 0) hcs (Nat.le_of_ble_eq_true rfl)) (ch_mono (ch_Ki (fun r9 m10 q11 => ?_)) (s_m_warrants g (fun (r_ : Int32) (m_ : ch_M) => (∃ (B8 : ch_B), (x_wn Y_6 A_7 (Int32.toNatClampNeg (Y_6 0 9)) 0 1) = r_ ∧ (∀ a_ i_, a_ ≠ 6 → ¬ (a_ = 0 ∧ (i_ = 8 ∨ i_ = 19)) → B8 a_ i_ = ch_ob m2 9 0 a_ i_) ∧ (B8 0 19 = 0) ∧ (B8 0 8 = x_wn Y_6 A_7 (Int32.toNatClampNeg (Y_6 0 9)) 0 1) ∧ (∀ k_, k_ < Int32.toNatClampNeg (x_wn Y_6 A_7 (Int32.toNatClampNeg (Y_6 0 9)) 0 1) → B8 6 k_ = x_wn Y_6 A_7 (Int32.toNatClampNeg (Y_6 0 9)) 1 k_) ∧ m_ = ch_os m2 9 0 B8)) (Y_6) (A_7) m2 ⟨b12, b13, b14, (fun B8 f0_ f1_ f2_ f3_ => ⟨B8, rfl, f0_, f1_, f2_, f3_, rfl⟩)⟩))
  obtain ⟨B8, rfl, f0_, f1_, f2_, f3_, hm_⟩ := q11
  replace h := h B8 f0_ f1_ f2_ f3_ m10 hm_
  refine ch_icmp_eq (tgt := 2096) d_l_law_1770 (by decide) (fun c => ?_) (fun c => ?_)
  · replace h := h.1 c
    exact h
  · replace h := h.2 c
    refine ch_iconst (v := 0) d_l_law_1773 (by decide) ?_
    exact h
set_option maxHeartbeats 1600000 in
theorem g_l_law_1775 (g : ch_G) (R : Room) (E : ch_En) (k : Nat) (hR : ch_RR R 18) (hcs : k + 40 ≤ R.cells ∧ 6 * k + 240 ≤ R.slots) (x5 : Int32) (o6 : Option ch_V) (o7 : Option ch_V) (o8 : Option ch_V) (o9 : Option ch_V) (m : ch_M) (h : (vp_in (x5 + 1) (ch_scr g).2.1) ∧ (vp_in (m (6, 1, 0) 1) 61) ∧ (∀ i_, i_ < 60 → narrow .char (.int (m (6, 1, 1) i_)) = .int (m (6, 1, 1) i_)) ∧ (((0 ≤ ((ch_scr g).2.2 (Int32.toNatClampNeg (x5 + 1))) ∧ ((ch_scr g).2.2 (Int32.toNatClampNeg (x5 + 1))) < m (6, 1, 0) 1) → (∀ m3 : ch_M, m3 = (ch_wr m (10, 0, 1) 0 (m (6, 1, 1) (Int32.toNatClampNeg ((ch_scr g).2.2 (Int32.toNatClampNeg (x5 + 1)))))) → (vp_in (m3 (9, 0, 0) 8) 61) ∧ (∀ i_, i_ < Int32.toNatClampNeg (m3 (9, 0, 0) 8) → narrow .char (.int (m3 (9, 0, 6) i_)) = .int (m3 (9, 0, 6) i_)) ∧ (((0 ≤ ((ch_scr g).2.2 (Int32.toNatClampNeg (x5 + 1))) ∧ ((ch_scr g).2.2 (Int32.toNatClampNeg (x5 + 1))) < m3 (9, 0, 0) 8) → (∀ m8 : ch_M, m8 = ch_wr m3 (9, 0, 0) 19 0 → ((((m8 (9, 0, 0) 19) = 0 → (((lg_cmp ((m8 (10, 0, 1) (0))).toInt64 ((m3 (9, 0, 6) (Int32.toNatClampNeg ((ch_scr g).2.2 (Int32.toNatClampNeg (x5 + 1)))))).toInt64) = 0 → ch_J g m_l_law R E 2096 [some (.inr (11, 0, 0)), some (.inr (0, 0, 0)), some (.inr (9, 0, 0)), some (.inr (10, 0, 1)), some (.inr (10, 0, 2)), some (.inl (.int x5)), some (.inl (.int 0)), some (.inl (.int (m3 (9, 0, 6) (Int32.toNatClampNeg ((ch_scr g).2.2 (Int32.toNatClampNeg (x5 + 1))))))), o8, o9] [] m8 (k + 1)) ∧ (¬ (lg_cmp ((m8 (10, 0, 1) (0))).toInt64 ((m3 (9, 0, 6) (Int32.toNatClampNeg ((ch_scr g).2.2 (Int32.toNatClampNeg (x5 + 1)))))).toInt64) = 0 → ch_J g m_l_law R E 1827 [some (.inr (11, 0, 0)), some (.inr (0, 0, 0)), some (.inr (9, 0, 0)), some (.inr (10, 0, 1)), some (.inr (10, 0, 2)), some (.inl (.int x5)), some (.inl (.int 0)), some (.inl (.int (m3 (9, 0, 6) (Int32.toNatClampNeg ((ch_scr g).2.2 (Int32.toNatClampNeg (x5 + 1))))))), o8, o9] [.inl (.int 0)] m8 (k + 1)))) ∧ (¬ (m8 (9, 0, 0) 19) = 0 → ch_J g m_l_law R E 1810 [some (.inr (11, 0, 0)), some (.inr (0, 0, 0)), some (.inr (9, 0, 0)), some (.inr (10, 0, 1)), some (.inr (10, 0, 2)), some (.inl (.int x5)), some (.inl (.int 0)), some (.inl (.int (m3 (9, 0, 6) (Int32.toNatClampNeg ((ch_scr g).2.2 (Int32.toNatClampNeg (x5 + 1))))))), o8, o9] [.inl (.int 0)] m8 (k + 1)))))) ∧ ((¬ (0 ≤ ((ch_scr g).2.2 (Int32.toNatClampNeg (x5 + 1))) ∧ ((ch_scr g).2.2 (Int32.toNatClampNeg (x5 + 1))) < m3 (9, 0, 0) 8)) → (∀ m8 : ch_M, m8 = ch_wr m3 (9, 0, 0) 19 1 → ((((m8 (9, 0, 0) 19) = 0 → (((lg_cmp ((m8 (10, 0, 1) (0))).toInt64 (97).toInt64) = 0 → ch_J g m_l_law R E 2096 [some (.inr (11, 0, 0)), some (.inr (0, 0, 0)), some (.inr (9, 0, 0)), some (.inr (10, 0, 1)), some (.inr (10, 0, 2)), some (.inl (.int x5)), some (.inl (.int 0)), some (.inl (.int 97)), o8, o9] [] m8 (k + 1)) ∧ (¬ (lg_cmp ((m8 (10, 0, 1) (0))).toInt64 (97).toInt64) = 0 → ch_J g m_l_law R E 1827 [some (.inr (11, 0, 0)), some (.inr (0, 0, 0)), some (.inr (9, 0, 0)), some (.inr (10, 0, 1)), some (.inr (10, 0, 2)), some (.inl (.int x5)), some (.inl (.int 0)), some (.inl (.int 97)), o8, o9] [.inl (.int 0)] m8 (k + 1)))) ∧ (¬ (m8 (9, 0, 0) 19) = 0 → ch_J g m_l_law R E 1810 [some (.inr (11, 0, 0)), some (.inr (0, 0, 0)), some (.inr (9, 0, 0)), some (.inr (10, 0, 1)), some (.inr (10, 0, 2)), some (.inl (.int x5)), some (.inl (.int 0)), some (.inl (.int 97)), o8, o9] [.inl (.int 0)] m8 (k + 1))))))))) ∧ ((¬ (0 ≤ ((ch_scr g).2.2 (Int32.toNatClampNeg (x5 + 1))) ∧ ((ch_scr g).2.2 (Int32.toNatClampNeg (x5 + 1))) < m (6, 1, 0) 1)) → (vp_in (m (9, 0, 0) 8) 61) ∧ (∀ i_, i_ < Int32.toNatClampNeg (m (9, 0, 0) 8) → narrow .char (.int (m (9, 0, 6) i_)) = .int (m (9, 0, 6) i_)) ∧ (((0 ≤ ((ch_scr g).2.2 (Int32.toNatClampNeg (x5 + 1))) ∧ ((ch_scr g).2.2 (Int32.toNatClampNeg (x5 + 1))) < m (9, 0, 0) 8) → (∀ m19 : ch_M, m19 = ch_wr m (9, 0, 0) 19 0 → ((((m19 (9, 0, 0) 19) = 1 → ch_J g m_l_law R E 2096 [some (.inr (11, 0, 0)), some (.inr (0, 0, 0)), some (.inr (9, 0, 0)), some (.inr (10, 0, 1)), some (.inr (10, 0, 2)), some (.inl (.int x5)), some (.inl (.int 1)), some (.inl (.int (m (9, 0, 6) (Int32.toNatClampNeg ((ch_scr g).2.2 (Int32.toNatClampNeg (x5 + 1))))))), o8, o9] [] m19 (k + 1)) ∧ (¬ (m19 (9, 0, 0) 19) = 1 → ch_J g m_l_law R E 1810 [some (.inr (11, 0, 0)), some (.inr (0, 0, 0)), some (.inr (9, 0, 0)), some (.inr (10, 0, 1)), some (.inr (10, 0, 2)), some (.inl (.int x5)), some (.inl (.int 1)), some (.inl (.int (m (9, 0, 6) (Int32.toNatClampNeg ((ch_scr g).2.2 (Int32.toNatClampNeg (x5 + 1))))))), o8, o9] [.inl (.int 0)] m19 (k + 1)))))) ∧ ((¬ (0 ≤ ((ch_scr g).2.2 (Int32.toNatClampNeg (x5 + 1))) ∧ ((ch_scr g).2.2 (Int32.toNatClampNeg (x5 + 1))) < m (9, 0, 0) 8)) → (∀ m19 : ch_M, m19 = ch_wr m (9, 0, 0) 19 1 → ((((m19 (9, 0, 0) 19) = 1 → ch_J g m_l_law R E 2096 [some (.inr (11, 0, 0)), some (.inr (0, 0, 0)), some (.inr (9, 0, 0)), some (.inr (10, 0, 1)), some (.inr (10, 0, 2)), some (.inl (.int x5)), some (.inl (.int 1)), some (.inl (.int 97)), o8, o9] [] m19 (k + 1)) ∧ (¬ (m19 (9, 0, 0) 19) = 1 → ch_J g m_l_law R E 1810 [some (.inr (11, 0, 0)), some (.inr (0, 0, 0)), some (.inr (9, 0, 0)), some (.inr (10, 0, 1)), some (.inr (10, 0, 2)), some (.inl (.int x5)), some (.inl (.int 1)), some (.inl (.int 97)), o8, o9] [.inl (.int 0)] m19 (k + 1)))))))))) : ch_J g m_l_law R E 1775 [some (.inr (11, 0, 0)), some (.inr (0, 0, 0)), some (.inr (9, 0, 0)), some (.inr (10, 0, 1)), some (.inr (10, 0, 2)), some (.inl (.int x5)), o6, o7, o8, o9] [] m k := by
  refine ch_aload_n (i := 1) d_l_law_1775 rfl rfl ?_
  refine ch_aload_n (i := 0) d_l_law_1776 rfl rfl ?_
  refine ch_iload d_l_law_1777 rfl ?_
  refine ch_iconst (v := 1) d_l_law_1779 (by decide) ?_
  refine ch_iadd d_l_law_1780 ?_
  have b1 := h.1
  replace h := h.2
  refine ch_sld d_l_law_1781 b1 ?_
  refine ch_aload_n (i := 3) d_l_law_1782 rfl rfl ?_
  have b5 := h.1
  replace h := h.2
  have b6 := h.1
  replace h := h.2
  refine ch_callSX (as := [.inr (0, 0, 0), .inl (.int ((ch_scr g).2.2 (Int32.toNatClampNeg (x5 + 1)))), .inr (10, 0, 1)]) d_l_law_1783 lk_l_230 ms_l_character rfl rfl (ch_hR hR (Nat.le_of_ble_eq_true rfl)) (Nat.le_of_ble_eq_true rfl) (ch_rc0 (k := k) (b := 1) hcs (Nat.le_of_ble_eq_true rfl)) (ch_mono (ch_Ki (fun r2 m3 q4 => ?_)) (s_l_character g (fun (r_ : Int32) (m_ : ch_M) => ((0 ≤ ((ch_scr g).2.2 (Int32.toNatClampNeg (x5 + 1))) ∧ ((ch_scr g).2.2 (Int32.toNatClampNeg (x5 + 1))) < m (6, 1, 0) 1) ∧ 0 = r_ ∧ m_ = (ch_wr m (10, 0, 1) 0 (m (6, 1, 1) (Int32.toNatClampNeg ((ch_scr g).2.2 (Int32.toNatClampNeg (x5 + 1))))))) ∨ ((¬ (0 ≤ ((ch_scr g).2.2 (Int32.toNatClampNeg (x5 + 1))) ∧ ((ch_scr g).2.2 (Int32.toNatClampNeg (x5 + 1))) < m (6, 1, 0) 1)) ∧ 1 = r_ ∧ m = m_)) (((ch_scr g).2.2 (Int32.toNatClampNeg (x5 + 1)))) m ⟨b5, b6, (fun c_ => (Or.inl ⟨c_, rfl, rfl⟩)), (fun c_ => (Or.inr ⟨c_, rfl, rfl⟩))⟩))
  rcases q4 with ⟨c_, rfl, hm_⟩ | ⟨c_, rfl, rfl⟩
  · replace h := h.1 c_ m3 hm_
    refine ch_istore (i := 6) d_l_law_1786 (Nat.le_of_ble_eq_true rfl) (ls' := [some (.inr (11, 0, 0)), some (.inr (0, 0, 0)), some (.inr (9, 0, 0)), some (.inr (10, 0, 1)), some (.inr (10, 0, 2)), some (.inl (.int x5)), some (.inl (.int 0)), o7, o8, o9]) rfl ?_
    refine ch_aload_n (i := 2) d_l_law_1788 rfl rfl ?_
    refine ch_aload_n (i := 0) d_l_law_1789 rfl rfl ?_
    refine ch_iload d_l_law_1790 rfl ?_
    refine ch_iconst (v := 1) d_l_law_1792 (by decide) ?_
    refine ch_iadd d_l_law_1793 ?_
    refine ch_sld d_l_law_1794 b1 ?_
    have b10 := h.1
    replace h := h.2
    have b11 := h.1
    replace h := h.2
    refine ch_callV (as := [.inl (.int ((ch_scr g).2.2 (Int32.toNatClampNeg (x5 + 1))))]) d_l_law_1795 lk_l_232 mi_m_character me_m_character rfl rfl rfl (ch_hR hR (Nat.le_of_ble_eq_true rfl)) (Nat.le_of_ble_eq_true rfl) (ch_rc1 (k := k) (a := 1) (b := 0) hcs (Nat.le_of_ble_eq_true rfl)) (ch_mono (ch_Ki (fun r7 m8 q9 => ?_)) (s_m_character g (fun (r_ : Int32) (m_ : ch_M) => ((0 ≤ ((ch_scr g).2.2 (Int32.toNatClampNeg (x5 + 1))) ∧ ((ch_scr g).2.2 (Int32.toNatClampNeg (x5 + 1))) < m3 (9, 0, 0) 8) ∧ (m3 (9, 0, 6) (Int32.toNatClampNeg ((ch_scr g).2.2 (Int32.toNatClampNeg (x5 + 1))))) = r_ ∧ m_ = ch_wr m3 (9, 0, 0) 19 0) ∨ ((¬ (0 ≤ ((ch_scr g).2.2 (Int32.toNatClampNeg (x5 + 1))) ∧ ((ch_scr g).2.2 (Int32.toNatClampNeg (x5 + 1))) < m3 (9, 0, 0) 8)) ∧ 97 = r_ ∧ m_ = ch_wr m3 (9, 0, 0) 19 1)) (((ch_scr g).2.2 (Int32.toNatClampNeg (x5 + 1)))) m3 ⟨b10, b11, (fun c_ => (Or.inl ⟨c_, rfl, rfl⟩)), (fun c_ => (Or.inr ⟨c_, rfl, rfl⟩))⟩))
    rcases q9 with ⟨c_, rfl, hm_⟩ | ⟨c_, rfl, hm_⟩
    · replace h := h.1 c_ m8 hm_
      refine ch_istore (i := 7) d_l_law_1798 (Nat.le_of_ble_eq_true rfl) (ls' := [some (.inr (11, 0, 0)), some (.inr (0, 0, 0)), some (.inr (9, 0, 0)), some (.inr (10, 0, 1)), some (.inr (10, 0, 2)), some (.inl (.int x5)), some (.inl (.int 0)), some (.inl (.int (m3 (9, 0, 6) (Int32.toNatClampNeg ((ch_scr g).2.2 (Int32.toNatClampNeg (x5 + 1))))))), o8, o9]) rfl ?_
      refine ch_aload_n (i := 2) d_l_law_1800 rfl rfl ?_
      refine ch_callV (as := []) d_l_law_1801 lk_l_129 mi_m_thrown me_m_thrown rfl rfl rfl (ch_hR hR (Nat.le_of_ble_eq_true rfl)) (Nat.le_of_ble_eq_true rfl) (ch_rc1 (k := k) (a := 1) (b := 0) hcs (Nat.le_of_ble_eq_true rfl)) (ch_mono (ch_Ki (fun r12 m13 q14 => ?_)) (s_m_thrown g (fun (r_ : Int32) (m_ : ch_M) => ((m8 (9, 0, 0) 19) = r_ ∧ m8 = m_))  m8 ⟨rfl, rfl⟩))
      obtain ⟨rfl, rfl⟩ := q14
      replace h := h
      refine ch_iload d_l_law_1804 rfl ?_
      refine ch_icmp_eq (tgt := 1811) d_l_law_1806 (by decide) (fun c => ?_) (fun c => ?_)
      · replace h := h.1 c
        refine ch_iload d_l_law_1811 rfl ?_
        refine ch_if_ne (tgt := 1828) d_l_law_1813 (by decide) (fun c => absurd c (by decide)) (fun _ => ?_)
        refine ch_aload_n (i := 3) d_l_law_1816 rfl rfl ?_
        refine ch_iconst (v := 0) d_l_law_1817 (by decide) ?_
        refine ch_lald (n := 1) d_l_law_1818 (by decide) rfl (vp_in_nI (n := 0) (by decide) (by decide)) ?_
        refine ch_iload d_l_law_1819 rfl ?_
        refine ch_i2l d_l_law_1821 ?_
        refine ch_lcmp d_l_law_1822 ?_
        refine ch_if_eq (tgt := 1828) d_l_law_1823 (by decide) (fun c => ?_) (fun c => ?_)
        · replace h := h.1 c
          refine ch_goto (tgt := 2096) d_l_law_1828 (by decide) ?_
          exact h
        · replace h := h.2 c
          refine ch_iconst (v := 0) d_l_law_1826 (by decide) ?_
          exact h
      · replace h := h.2 c
        refine ch_iconst (v := 0) d_l_law_1809 (by decide) ?_
        exact h
    · replace h := h.2 c_ m8 hm_
      refine ch_istore (i := 7) d_l_law_1798 (Nat.le_of_ble_eq_true rfl) (ls' := [some (.inr (11, 0, 0)), some (.inr (0, 0, 0)), some (.inr (9, 0, 0)), some (.inr (10, 0, 1)), some (.inr (10, 0, 2)), some (.inl (.int x5)), some (.inl (.int 0)), some (.inl (.int 97)), o8, o9]) rfl ?_
      refine ch_aload_n (i := 2) d_l_law_1800 rfl rfl ?_
      refine ch_callV (as := []) d_l_law_1801 lk_l_129 mi_m_thrown me_m_thrown rfl rfl rfl (ch_hR hR (Nat.le_of_ble_eq_true rfl)) (Nat.le_of_ble_eq_true rfl) (ch_rc1 (k := k) (a := 1) (b := 0) hcs (Nat.le_of_ble_eq_true rfl)) (ch_mono (ch_Ki (fun r15 m16 q17 => ?_)) (s_m_thrown g (fun (r_ : Int32) (m_ : ch_M) => ((m8 (9, 0, 0) 19) = r_ ∧ m8 = m_))  m8 ⟨rfl, rfl⟩))
      obtain ⟨rfl, rfl⟩ := q17
      replace h := h
      refine ch_iload d_l_law_1804 rfl ?_
      refine ch_icmp_eq (tgt := 1811) d_l_law_1806 (by decide) (fun c => ?_) (fun c => ?_)
      · replace h := h.1 c
        refine ch_iload d_l_law_1811 rfl ?_
        refine ch_if_ne (tgt := 1828) d_l_law_1813 (by decide) (fun c => absurd c (by decide)) (fun _ => ?_)
        refine ch_aload_n (i := 3) d_l_law_1816 rfl rfl ?_
        refine ch_iconst (v := 0) d_l_law_1817 (by decide) ?_
        refine ch_lald (n := 1) d_l_law_1818 (by decide) rfl (vp_in_nI (n := 0) (by decide) (by decide)) ?_
        refine ch_iload d_l_law_1819 rfl ?_
        refine ch_i2l d_l_law_1821 ?_
        refine ch_lcmp d_l_law_1822 ?_
        refine ch_if_eq (tgt := 1828) d_l_law_1823 (by decide) (fun c => ?_) (fun c => ?_)
        · replace h := h.1 c
          refine ch_goto (tgt := 2096) d_l_law_1828 (by decide) ?_
          exact h
        · replace h := h.2 c
          refine ch_iconst (v := 0) d_l_law_1826 (by decide) ?_
          exact h
      · replace h := h.2 c
        refine ch_iconst (v := 0) d_l_law_1809 (by decide) ?_
        exact h
  · replace h := h.2 c_
    refine ch_istore (i := 6) d_l_law_1786 (Nat.le_of_ble_eq_true rfl) (ls' := [some (.inr (11, 0, 0)), some (.inr (0, 0, 0)), some (.inr (9, 0, 0)), some (.inr (10, 0, 1)), some (.inr (10, 0, 2)), some (.inl (.int x5)), some (.inl (.int 1)), o7, o8, o9]) rfl ?_
    refine ch_aload_n (i := 2) d_l_law_1788 rfl rfl ?_
    refine ch_aload_n (i := 0) d_l_law_1789 rfl rfl ?_
    refine ch_iload d_l_law_1790 rfl ?_
    refine ch_iconst (v := 1) d_l_law_1792 (by decide) ?_
    refine ch_iadd d_l_law_1793 ?_
    refine ch_sld d_l_law_1794 b1 ?_
    have b21 := h.1
    replace h := h.2
    have b22 := h.1
    replace h := h.2
    refine ch_callV (as := [.inl (.int ((ch_scr g).2.2 (Int32.toNatClampNeg (x5 + 1))))]) d_l_law_1795 lk_l_232 mi_m_character me_m_character rfl rfl rfl (ch_hR hR (Nat.le_of_ble_eq_true rfl)) (Nat.le_of_ble_eq_true rfl) (ch_rc1 (k := k) (a := 1) (b := 0) hcs (Nat.le_of_ble_eq_true rfl)) (ch_mono (ch_Ki (fun r18 m19 q20 => ?_)) (s_m_character g (fun (r_ : Int32) (m_ : ch_M) => ((0 ≤ ((ch_scr g).2.2 (Int32.toNatClampNeg (x5 + 1))) ∧ ((ch_scr g).2.2 (Int32.toNatClampNeg (x5 + 1))) < m (9, 0, 0) 8) ∧ (m (9, 0, 6) (Int32.toNatClampNeg ((ch_scr g).2.2 (Int32.toNatClampNeg (x5 + 1))))) = r_ ∧ m_ = ch_wr m (9, 0, 0) 19 0) ∨ ((¬ (0 ≤ ((ch_scr g).2.2 (Int32.toNatClampNeg (x5 + 1))) ∧ ((ch_scr g).2.2 (Int32.toNatClampNeg (x5 + 1))) < m (9, 0, 0) 8)) ∧ 97 = r_ ∧ m_ = ch_wr m (9, 0, 0) 19 1)) (((ch_scr g).2.2 (Int32.toNatClampNeg (x5 + 1)))) m ⟨b21, b22, (fun c_ => (Or.inl ⟨c_, rfl, rfl⟩)), (fun c_ => (Or.inr ⟨c_, rfl, rfl⟩))⟩))
    rcases q20 with ⟨c_, rfl, hm_⟩ | ⟨c_, rfl, hm_⟩
    · replace h := h.1 c_ m19 hm_
      refine ch_istore (i := 7) d_l_law_1798 (Nat.le_of_ble_eq_true rfl) (ls' := [some (.inr (11, 0, 0)), some (.inr (0, 0, 0)), some (.inr (9, 0, 0)), some (.inr (10, 0, 1)), some (.inr (10, 0, 2)), some (.inl (.int x5)), some (.inl (.int 1)), some (.inl (.int (m (9, 0, 6) (Int32.toNatClampNeg ((ch_scr g).2.2 (Int32.toNatClampNeg (x5 + 1))))))), o8, o9]) rfl ?_
      refine ch_aload_n (i := 2) d_l_law_1800 rfl rfl ?_
      refine ch_callV (as := []) d_l_law_1801 lk_l_129 mi_m_thrown me_m_thrown rfl rfl rfl (ch_hR hR (Nat.le_of_ble_eq_true rfl)) (Nat.le_of_ble_eq_true rfl) (ch_rc1 (k := k) (a := 1) (b := 0) hcs (Nat.le_of_ble_eq_true rfl)) (ch_mono (ch_Ki (fun r23 m24 q25 => ?_)) (s_m_thrown g (fun (r_ : Int32) (m_ : ch_M) => ((m19 (9, 0, 0) 19) = r_ ∧ m19 = m_))  m19 ⟨rfl, rfl⟩))
      obtain ⟨rfl, rfl⟩ := q25
      replace h := h
      refine ch_iload d_l_law_1804 rfl ?_
      refine ch_icmp_eq (tgt := 1811) d_l_law_1806 (by decide) (fun c => ?_) (fun c => ?_)
      · replace h := h.1 c
        refine ch_iload d_l_law_1811 rfl ?_
        refine ch_if_ne (tgt := 1828) d_l_law_1813 (by decide) (fun _ => ?_) (fun c => absurd c (by decide))
        refine ch_goto (tgt := 2096) d_l_law_1828 (by decide) ?_
        exact h
      · replace h := h.2 c
        refine ch_iconst (v := 0) d_l_law_1809 (by decide) ?_
        exact h
    · replace h := h.2 c_ m19 hm_
      refine ch_istore (i := 7) d_l_law_1798 (Nat.le_of_ble_eq_true rfl) (ls' := [some (.inr (11, 0, 0)), some (.inr (0, 0, 0)), some (.inr (9, 0, 0)), some (.inr (10, 0, 1)), some (.inr (10, 0, 2)), some (.inl (.int x5)), some (.inl (.int 1)), some (.inl (.int 97)), o8, o9]) rfl ?_
      refine ch_aload_n (i := 2) d_l_law_1800 rfl rfl ?_
      refine ch_callV (as := []) d_l_law_1801 lk_l_129 mi_m_thrown me_m_thrown rfl rfl rfl (ch_hR hR (Nat.le_of_ble_eq_true rfl)) (Nat.le_of_ble_eq_true rfl) (ch_rc1 (k := k) (a := 1) (b := 0) hcs (Nat.le_of_ble_eq_true rfl)) (ch_mono (ch_Ki (fun r26 m27 q28 => ?_)) (s_m_thrown g (fun (r_ : Int32) (m_ : ch_M) => ((m19 (9, 0, 0) 19) = r_ ∧ m19 = m_))  m19 ⟨rfl, rfl⟩))
      obtain ⟨rfl, rfl⟩ := q28
      replace h := h
      refine ch_iload d_l_law_1804 rfl ?_
      refine ch_icmp_eq (tgt := 1811) d_l_law_1806 (by decide) (fun c => ?_) (fun c => ?_)
      · replace h := h.1 c
        refine ch_iload d_l_law_1811 rfl ?_
        refine ch_if_ne (tgt := 1828) d_l_law_1813 (by decide) (fun _ => ?_) (fun c => absurd c (by decide))
        refine ch_goto (tgt := 2096) d_l_law_1828 (by decide) ?_
        exact h
      · replace h := h.2 c
        refine ch_iconst (v := 0) d_l_law_1809 (by decide) ?_
        exact h
set_option maxHeartbeats 1600000 in
theorem g_l_law_1831 (g : ch_G) (R : Room) (E : ch_En) (k : Nat) (hR : ch_RR R 18) (hcs : k + 40 ≤ R.cells ∧ 6 * k + 240 ≤ R.slots) (x5 : Int32) (o6 : Option ch_V) (o7 : Option ch_V) (o8 : Option ch_V) (o9 : Option ch_V) (m : ch_M) (h : (y_fls (ch_ob m 1 0)) ∧ (((¬ 12 - ch_cnO (ch_ob m 1 0 1) (-1) 12 = 0) → (∀ m2 : ch_M, m2 = (ch_wr (ch_wr m (10, 0, 2) 0 (y_sum (ch_ob m 1 0 2) 12)) (10, 0, 2) 1 (12 - ch_cnO (ch_ob m 1 0 1) (-1) 12)) → (∃ Y_5 : ch_B, (m_rel Y_5 (m2 (9, 0, 1))) ∧ (∀ i_, i_ < 12 → Y_5 1 i_ = -1 ∨ vp_in (Y_5 1 i_) 5) ∧ (y_fls Y_5) ∧ (((¬ 12 - ch_cnO (Y_5 1) (-1) 12 = 0) → (∀ m7 : ch_M, m7 = ch_wr m2 (9, 0, 0) 19 0 → ((((m7 (9, 0, 0) 19) = 0 → (((Op.cmpValue (FP.dcmp (ch_dv (m7 (10, 0, 2) 0) (m7 (10, 0, 2) 1)) (FP.ddiv (FP.i2d (y_sum (Y_5 2) 12)) (FP.i2d (12 - ch_cnO (Y_5 1) (-1) 12)))) .l) = 0 → ch_J g m_l_law R E 2096 [some (.inr (11, 0, 0)), some (.inr (0, 0, 0)), some (.inr (9, 0, 0)), some (.inr (10, 0, 1)), some (.inr (10, 0, 2)), some (.inl (.int x5)), some (.inl (.int 0)), some (.inl (.double (FP.ddiv (FP.i2d (y_sum (Y_5 2) 12)) (FP.i2d (12 - ch_cnO (Y_5 1) (-1) 12))))), none, o9] [] m7 (k + 1)) ∧ (¬ (Op.cmpValue (FP.dcmp (ch_dv (m7 (10, 0, 2) 0) (m7 (10, 0, 2) 1)) (FP.ddiv (FP.i2d (y_sum (Y_5 2) 12)) (FP.i2d (12 - ch_cnO (Y_5 1) (-1) 12)))) .l) = 0 → (((Op.cmpValue (FP.dcmp (ch_dv (m7 (10, 0, 2) 0) (m7 (10, 0, 2) 1)) (ch_dv (m7 (10, 0, 2) 0) (m7 (10, 0, 2) 1))) .l) = 0 → ch_J g m_l_law R E 1892 [some (.inr (11, 0, 0)), some (.inr (0, 0, 0)), some (.inr (9, 0, 0)), some (.inr (10, 0, 1)), some (.inr (10, 0, 2)), some (.inl (.int x5)), some (.inl (.int 0)), some (.inl (.double (FP.ddiv (FP.i2d (y_sum (Y_5 2) 12)) (FP.i2d (12 - ch_cnO (Y_5 1) (-1) 12))))), none, o9] [.inl (.int 0)] m7 (k + 1)) ∧ (¬ (Op.cmpValue (FP.dcmp (ch_dv (m7 (10, 0, 2) 0) (m7 (10, 0, 2) 1)) (ch_dv (m7 (10, 0, 2) 0) (m7 (10, 0, 2) 1))) .l) = 0 → ((¬ (Op.cmpValue (FP.dcmp (FP.ddiv (FP.i2d (y_sum (Y_5 2) 12)) (FP.i2d (12 - ch_cnO (Y_5 1) (-1) 12))) (FP.ddiv (FP.i2d (y_sum (Y_5 2) 12)) (FP.i2d (12 - ch_cnO (Y_5 1) (-1) 12)))) .l) = 0 → ch_J g m_l_law R E 2096 [some (.inr (11, 0, 0)), some (.inr (0, 0, 0)), some (.inr (9, 0, 0)), some (.inr (10, 0, 1)), some (.inr (10, 0, 2)), some (.inl (.int x5)), some (.inl (.int 0)), some (.inl (.double (FP.ddiv (FP.i2d (y_sum (Y_5 2) 12)) (FP.i2d (12 - ch_cnO (Y_5 1) (-1) 12))))), none, o9] [] m7 (k + 1)) ∧ ((Op.cmpValue (FP.dcmp (FP.ddiv (FP.i2d (y_sum (Y_5 2) 12)) (FP.i2d (12 - ch_cnO (Y_5 1) (-1) 12))) (FP.ddiv (FP.i2d (y_sum (Y_5 2) 12)) (FP.i2d (12 - ch_cnO (Y_5 1) (-1) 12)))) .l) = 0 → ch_J g m_l_law R E 1892 [some (.inr (11, 0, 0)), some (.inr (0, 0, 0)), some (.inr (9, 0, 0)), some (.inr (10, 0, 1)), some (.inr (10, 0, 2)), some (.inl (.int x5)), some (.inl (.int 0)), some (.inl (.double (FP.ddiv (FP.i2d (y_sum (Y_5 2) 12)) (FP.i2d (12 - ch_cnO (Y_5 1) (-1) 12))))), none, o9] [.inl (.int 0)] m7 (k + 1)))))))) ∧ (¬ (m7 (9, 0, 0) 19) = 0 → ch_J g m_l_law R E 1855 [some (.inr (11, 0, 0)), some (.inr (0, 0, 0)), some (.inr (9, 0, 0)), some (.inr (10, 0, 1)), some (.inr (10, 0, 2)), some (.inl (.int x5)), some (.inl (.int 0)), some (.inl (.double (FP.ddiv (FP.i2d (y_sum (Y_5 2) 12)) (FP.i2d (12 - ch_cnO (Y_5 1) (-1) 12))))), none, o9] [.inl (.int 0)] m7 (k + 1)))))) ∧ ((12 - ch_cnO (Y_5 1) (-1) 12 = 0) → (∀ m7 : ch_M, m7 = ch_wr m2 (9, 0, 0) 19 1 → ((((m7 (9, 0, 0) 19) = 0 → (((Op.cmpValue (FP.dcmp (ch_dv (m7 (10, 0, 2) 0) (m7 (10, 0, 2) 1)) (FP.i2d 0)) .l) = 0 → ch_J g m_l_law R E 2096 [some (.inr (11, 0, 0)), some (.inr (0, 0, 0)), some (.inr (9, 0, 0)), some (.inr (10, 0, 1)), some (.inr (10, 0, 2)), some (.inl (.int x5)), some (.inl (.int 0)), some (.inl (.double (FP.i2d 0))), none, o9] [] m7 (k + 1)) ∧ (¬ (Op.cmpValue (FP.dcmp (ch_dv (m7 (10, 0, 2) 0) (m7 (10, 0, 2) 1)) (FP.i2d 0)) .l) = 0 → (((Op.cmpValue (FP.dcmp (ch_dv (m7 (10, 0, 2) 0) (m7 (10, 0, 2) 1)) (ch_dv (m7 (10, 0, 2) 0) (m7 (10, 0, 2) 1))) .l) = 0 → ch_J g m_l_law R E 1892 [some (.inr (11, 0, 0)), some (.inr (0, 0, 0)), some (.inr (9, 0, 0)), some (.inr (10, 0, 1)), some (.inr (10, 0, 2)), some (.inl (.int x5)), some (.inl (.int 0)), some (.inl (.double (FP.i2d 0))), none, o9] [.inl (.int 0)] m7 (k + 1)) ∧ (¬ (Op.cmpValue (FP.dcmp (ch_dv (m7 (10, 0, 2) 0) (m7 (10, 0, 2) 1)) (ch_dv (m7 (10, 0, 2) 0) (m7 (10, 0, 2) 1))) .l) = 0 → ((¬ (Op.cmpValue (FP.dcmp (FP.i2d 0) (FP.i2d 0)) .l) = 0 → ch_J g m_l_law R E 2096 [some (.inr (11, 0, 0)), some (.inr (0, 0, 0)), some (.inr (9, 0, 0)), some (.inr (10, 0, 1)), some (.inr (10, 0, 2)), some (.inl (.int x5)), some (.inl (.int 0)), some (.inl (.double (FP.i2d 0))), none, o9] [] m7 (k + 1)) ∧ ((Op.cmpValue (FP.dcmp (FP.i2d 0) (FP.i2d 0)) .l) = 0 → ch_J g m_l_law R E 1892 [some (.inr (11, 0, 0)), some (.inr (0, 0, 0)), some (.inr (9, 0, 0)), some (.inr (10, 0, 1)), some (.inr (10, 0, 2)), some (.inl (.int x5)), some (.inl (.int 0)), some (.inl (.double (FP.i2d 0))), none, o9] [.inl (.int 0)] m7 (k + 1)))))))) ∧ (¬ (m7 (9, 0, 0) 19) = 0 → ch_J g m_l_law R E 1855 [some (.inr (11, 0, 0)), some (.inr (0, 0, 0)), some (.inr (9, 0, 0)), some (.inr (10, 0, 1)), some (.inr (10, 0, 2)), some (.inl (.int x5)), some (.inl (.int 0)), some (.inl (.double (FP.i2d 0))), none, o9] [.inl (.int 0)] m7 (k + 1)))))))))) ∧ ((12 - ch_cnO (ch_ob m 1 0 1) (-1) 12 = 0) → (∃ Y_18 : ch_B, (m_rel Y_18 (m (9, 0, 1))) ∧ (∀ i_, i_ < 12 → Y_18 1 i_ = -1 ∨ vp_in (Y_18 1 i_) 5) ∧ (y_fls Y_18) ∧ (((¬ 12 - ch_cnO (Y_18 1) (-1) 12 = 0) → (∀ m20 : ch_M, m20 = ch_wr m (9, 0, 0) 19 0 → ((((m20 (9, 0, 0) 19) = 1 → ch_J g m_l_law R E 2096 [some (.inr (11, 0, 0)), some (.inr (0, 0, 0)), some (.inr (9, 0, 0)), some (.inr (10, 0, 1)), some (.inr (10, 0, 2)), some (.inl (.int x5)), some (.inl (.int 1)), some (.inl (.double (FP.ddiv (FP.i2d (y_sum (Y_18 2) 12)) (FP.i2d (12 - ch_cnO (Y_18 1) (-1) 12))))), none, o9] [] m20 (k + 1)) ∧ (¬ (m20 (9, 0, 0) 19) = 1 → ch_J g m_l_law R E 1855 [some (.inr (11, 0, 0)), some (.inr (0, 0, 0)), some (.inr (9, 0, 0)), some (.inr (10, 0, 1)), some (.inr (10, 0, 2)), some (.inl (.int x5)), some (.inl (.int 1)), some (.inl (.double (FP.ddiv (FP.i2d (y_sum (Y_18 2) 12)) (FP.i2d (12 - ch_cnO (Y_18 1) (-1) 12))))), none, o9] [.inl (.int 0)] m20 (k + 1)))))) ∧ ((12 - ch_cnO (Y_18 1) (-1) 12 = 0) → (∀ m20 : ch_M, m20 = ch_wr m (9, 0, 0) 19 1 → ((((m20 (9, 0, 0) 19) = 1 → ch_J g m_l_law R E 2096 [some (.inr (11, 0, 0)), some (.inr (0, 0, 0)), some (.inr (9, 0, 0)), some (.inr (10, 0, 1)), some (.inr (10, 0, 2)), some (.inl (.int x5)), some (.inl (.int 1)), some (.inl (.double (FP.i2d 0))), none, o9] [] m20 (k + 1)) ∧ (¬ (m20 (9, 0, 0) 19) = 1 → ch_J g m_l_law R E 1855 [some (.inr (11, 0, 0)), some (.inr (0, 0, 0)), some (.inr (9, 0, 0)), some (.inr (10, 0, 1)), some (.inr (10, 0, 2)), some (.inl (.int x5)), some (.inl (.int 1)), some (.inl (.double (FP.i2d 0))), none, o9] [.inl (.int 0)] m20 (k + 1))))))))))) : ch_J g m_l_law R E 1831 [some (.inr (11, 0, 0)), some (.inr (0, 0, 0)), some (.inr (9, 0, 0)), some (.inr (10, 0, 1)), some (.inr (10, 0, 2)), some (.inl (.int x5)), o6, o7, o8, o9] [] m k := by
  refine ch_aload_n (i := 1) d_l_law_1831 rfl rfl ?_
  refine ch_aload d_l_law_1832 rfl ?_
  have b4 := h.1
  replace h := h.2
  refine ch_callSX (as := [.inr (0, 0, 0), .inr (10, 0, 2)]) d_l_law_1834 lk_l_233 ms_l_meanChalk rfl rfl (ch_hR hR (Nat.le_of_ble_eq_true rfl)) (Nat.le_of_ble_eq_true rfl) (ch_rc0 (k := k) (b := 1) hcs (Nat.le_of_ble_eq_true rfl)) (ch_mono (ch_Ki (fun r1 m2 q3 => ?_)) (s_l_meanChalk g (fun (r_ : Int32) (m_ : ch_M) => ((¬ 12 - ch_cnO (ch_ob m 1 0 1) (-1) 12 = 0) ∧ 0 = r_ ∧ m_ = (ch_wr (ch_wr m (10, 0, 2) 0 (y_sum (ch_ob m 1 0 2) 12)) (10, 0, 2) 1 (12 - ch_cnO (ch_ob m 1 0 1) (-1) 12))) ∨ ((12 - ch_cnO (ch_ob m 1 0 1) (-1) 12 = 0) ∧ 1 = r_ ∧ m = m_))  m ⟨b4, (fun c_ => (Or.inl ⟨c_, rfl, rfl⟩)), (fun c_ => (Or.inr ⟨c_, rfl, rfl⟩))⟩))
  rcases q3 with ⟨c_, rfl, hm_⟩ | ⟨c_, rfl, rfl⟩
  · replace h := h.1 c_ m2 hm_
    refine ch_istore (i := 6) d_l_law_1837 (Nat.le_of_ble_eq_true rfl) (ls' := [some (.inr (11, 0, 0)), some (.inr (0, 0, 0)), some (.inr (9, 0, 0)), some (.inr (10, 0, 1)), some (.inr (10, 0, 2)), some (.inl (.int x5)), some (.inl (.int 0)), o7, o8, o9]) rfl ?_
    refine ch_aload_n (i := 2) d_l_law_1839 rfl rfl ?_
    obtain ⟨Y_5, h⟩ := h
    have b9 := h.1
    replace h := h.2
    have b10 := h.1
    replace h := h.2
    have b11 := h.1
    replace h := h.2
    refine ch_callV (as := []) d_l_law_1840 lk_l_236 mi_m_meanChalk me_m_meanChalk rfl rfl rfl (ch_hR hR (Nat.le_of_ble_eq_true rfl)) (Nat.le_of_ble_eq_true rfl) (ch_rc1 (k := k) (a := 1) (b := 0) hcs (Nat.le_of_ble_eq_true rfl)) (ch_mono (ch_Kd (fun r6 m7 q8 => ?_)) (s_m_meanChalk g (fun (r_ : UInt64) (m_ : ch_M) => ((¬ 12 - ch_cnO (Y_5 1) (-1) 12 = 0) ∧ (FP.ddiv (FP.i2d (y_sum (Y_5 2) 12)) (FP.i2d (12 - ch_cnO (Y_5 1) (-1) 12))) = r_ ∧ m_ = ch_wr m2 (9, 0, 0) 19 0) ∨ ((12 - ch_cnO (Y_5 1) (-1) 12 = 0) ∧ (FP.i2d 0) = r_ ∧ m_ = ch_wr m2 (9, 0, 0) 19 1)) (Y_5) m2 ⟨b9, b10, b11, (fun c_ => (Or.inl ⟨c_, rfl, rfl⟩)), (fun c_ => (Or.inr ⟨c_, rfl, rfl⟩))⟩))
    rcases q8 with ⟨c_, rfl, hm_⟩ | ⟨c_, rfl, hm_⟩
    · replace h := h.1 c_ m7 hm_
      refine ch_dstore (i := 7) d_l_law_1843 (Nat.le_of_ble_eq_true rfl) (ls' := [some (.inr (11, 0, 0)), some (.inr (0, 0, 0)), some (.inr (9, 0, 0)), some (.inr (10, 0, 1)), some (.inr (10, 0, 2)), some (.inl (.int x5)), some (.inl (.int 0)), some (.inl (.double (FP.ddiv (FP.i2d (y_sum (Y_5 2) 12)) (FP.i2d (12 - ch_cnO (Y_5 1) (-1) 12))))), none, o9]) rfl ?_
      refine ch_aload_n (i := 2) d_l_law_1845 rfl rfl ?_
      refine ch_callV (as := []) d_l_law_1846 lk_l_129 mi_m_thrown me_m_thrown rfl rfl rfl (ch_hR hR (Nat.le_of_ble_eq_true rfl)) (Nat.le_of_ble_eq_true rfl) (ch_rc1 (k := k) (a := 1) (b := 0) hcs (Nat.le_of_ble_eq_true rfl)) (ch_mono (ch_Ki (fun r12 m13 q14 => ?_)) (s_m_thrown g (fun (r_ : Int32) (m_ : ch_M) => ((m7 (9, 0, 0) 19) = r_ ∧ m7 = m_))  m7 ⟨rfl, rfl⟩))
      obtain ⟨rfl, rfl⟩ := q14
      replace h := h
      refine ch_iload d_l_law_1849 rfl ?_
      refine ch_icmp_eq (tgt := 1856) d_l_law_1851 (by decide) (fun c => ?_) (fun c => ?_)
      · replace h := h.1 c
        refine ch_iload d_l_law_1856 rfl ?_
        refine ch_if_ne (tgt := 1893) d_l_law_1858 (by decide) (fun c => absurd c (by decide)) (fun _ => ?_)
        refine ch_aload d_l_law_1861 rfl ?_
        refine ch_iconst (v := 0) d_l_law_1863 (by decide) ?_
        refine ch_dald (n := 1) d_l_law_1864 (by decide) rfl (vp_in_nI (n := 0) (by decide) (by decide)) ?_
        refine ch_dload d_l_law_1865 rfl ?_
        refine ch_dcmp d_l_law_1867 ?_
        refine ch_if_eq (tgt := 1893) d_l_law_1868 (by decide) (fun c => ?_) (fun c => ?_)
        · replace h := h.1 c
          refine ch_goto (tgt := 2096) d_l_law_1893 (by decide) ?_
          exact h
        · replace h := h.2 c
          refine ch_aload d_l_law_1871 rfl ?_
          refine ch_iconst (v := 0) d_l_law_1873 (by decide) ?_
          refine ch_dald (n := 1) d_l_law_1874 (by decide) rfl (vp_in_nI (n := 0) (by decide) (by decide)) ?_
          refine ch_aload d_l_law_1875 rfl ?_
          refine ch_iconst (v := 0) d_l_law_1877 (by decide) ?_
          refine ch_dald (n := 1) d_l_law_1878 (by decide) rfl (vp_in_nI (n := 0) (by decide) (by decide)) ?_
          refine ch_dcmp d_l_law_1879 ?_
          refine ch_if_eq (tgt := 1891) d_l_law_1880 (by decide) (fun c => ?_) (fun c => ?_)
          · replace h := h.1 c
            refine ch_iconst (v := 0) d_l_law_1891 (by decide) ?_
            exact h
          · replace h := h.2 c
            refine ch_dload d_l_law_1883 rfl ?_
            refine ch_dload d_l_law_1885 rfl ?_
            refine ch_dcmp d_l_law_1887 ?_
            refine ch_if_ne (tgt := 1893) d_l_law_1888 (by decide) (fun c => ?_) (fun c => ?_)
            · replace h := h.1 c
              refine ch_goto (tgt := 2096) d_l_law_1893 (by decide) ?_
              exact h
            · replace h := h.2 c
              refine ch_iconst (v := 0) d_l_law_1891 (by decide) ?_
              exact h
      · replace h := h.2 c
        refine ch_iconst (v := 0) d_l_law_1854 (by decide) ?_
        exact h
    · replace h := h.2 c_ m7 hm_
      refine ch_dstore (i := 7) d_l_law_1843 (Nat.le_of_ble_eq_true rfl) (ls' := [some (.inr (11, 0, 0)), some (.inr (0, 0, 0)), some (.inr (9, 0, 0)), some (.inr (10, 0, 1)), some (.inr (10, 0, 2)), some (.inl (.int x5)), some (.inl (.int 0)), some (.inl (.double (FP.i2d 0))), none, o9]) rfl ?_
      refine ch_aload_n (i := 2) d_l_law_1845 rfl rfl ?_
      refine ch_callV (as := []) d_l_law_1846 lk_l_129 mi_m_thrown me_m_thrown rfl rfl rfl (ch_hR hR (Nat.le_of_ble_eq_true rfl)) (Nat.le_of_ble_eq_true rfl) (ch_rc1 (k := k) (a := 1) (b := 0) hcs (Nat.le_of_ble_eq_true rfl)) (ch_mono (ch_Ki (fun r15 m16 q17 => ?_)) (s_m_thrown g (fun (r_ : Int32) (m_ : ch_M) => ((m7 (9, 0, 0) 19) = r_ ∧ m7 = m_))  m7 ⟨rfl, rfl⟩))
      obtain ⟨rfl, rfl⟩ := q17
      replace h := h
      refine ch_iload d_l_law_1849 rfl ?_
      refine ch_icmp_eq (tgt := 1856) d_l_law_1851 (by decide) (fun c => ?_) (fun c => ?_)
      · replace h := h.1 c
        refine ch_iload d_l_law_1856 rfl ?_
        refine ch_if_ne (tgt := 1893) d_l_law_1858 (by decide) (fun c => absurd c (by decide)) (fun _ => ?_)
        refine ch_aload d_l_law_1861 rfl ?_
        refine ch_iconst (v := 0) d_l_law_1863 (by decide) ?_
        refine ch_dald (n := 1) d_l_law_1864 (by decide) rfl (vp_in_nI (n := 0) (by decide) (by decide)) ?_
        refine ch_dload d_l_law_1865 rfl ?_
        refine ch_dcmp d_l_law_1867 ?_
        refine ch_if_eq (tgt := 1893) d_l_law_1868 (by decide) (fun c => ?_) (fun c => ?_)
        · replace h := h.1 c
          refine ch_goto (tgt := 2096) d_l_law_1893 (by decide) ?_
          exact h
        · replace h := h.2 c
          refine ch_aload d_l_law_1871 rfl ?_
          refine ch_iconst (v := 0) d_l_law_1873 (by decide) ?_
          refine ch_dald (n := 1) d_l_law_1874 (by decide) rfl (vp_in_nI (n := 0) (by decide) (by decide)) ?_
          refine ch_aload d_l_law_1875 rfl ?_
          refine ch_iconst (v := 0) d_l_law_1877 (by decide) ?_
          refine ch_dald (n := 1) d_l_law_1878 (by decide) rfl (vp_in_nI (n := 0) (by decide) (by decide)) ?_
          refine ch_dcmp d_l_law_1879 ?_
          refine ch_if_eq (tgt := 1891) d_l_law_1880 (by decide) (fun c => ?_) (fun c => ?_)
          · replace h := h.1 c
            refine ch_iconst (v := 0) d_l_law_1891 (by decide) ?_
            exact h
          · replace h := h.2 c
            refine ch_dload d_l_law_1883 rfl ?_
            refine ch_dload d_l_law_1885 rfl ?_
            refine ch_dcmp d_l_law_1887 ?_
            refine ch_if_ne (tgt := 1893) d_l_law_1888 (by decide) (fun c => ?_) (fun c => ?_)
            · replace h := h.1 c
              refine ch_goto (tgt := 2096) d_l_law_1893 (by decide) ?_
              exact h
            · replace h := h.2 c
              refine ch_iconst (v := 0) d_l_law_1891 (by decide) ?_
              exact h
      · replace h := h.2 c
        refine ch_iconst (v := 0) d_l_law_1854 (by decide) ?_
        exact h
  · replace h := h.2 c_
    refine ch_istore (i := 6) d_l_law_1837 (Nat.le_of_ble_eq_true rfl) (ls' := [some (.inr (11, 0, 0)), some (.inr (0, 0, 0)), some (.inr (9, 0, 0)), some (.inr (10, 0, 1)), some (.inr (10, 0, 2)), some (.inl (.int x5)), some (.inl (.int 1)), o7, o8, o9]) rfl ?_
    refine ch_aload_n (i := 2) d_l_law_1839 rfl rfl ?_
    obtain ⟨Y_18, h⟩ := h
    have b22 := h.1
    replace h := h.2
    have b23 := h.1
    replace h := h.2
    have b24 := h.1
    replace h := h.2
    refine ch_callV (as := []) d_l_law_1840 lk_l_236 mi_m_meanChalk me_m_meanChalk rfl rfl rfl (ch_hR hR (Nat.le_of_ble_eq_true rfl)) (Nat.le_of_ble_eq_true rfl) (ch_rc1 (k := k) (a := 1) (b := 0) hcs (Nat.le_of_ble_eq_true rfl)) (ch_mono (ch_Kd (fun r19 m20 q21 => ?_)) (s_m_meanChalk g (fun (r_ : UInt64) (m_ : ch_M) => ((¬ 12 - ch_cnO (Y_18 1) (-1) 12 = 0) ∧ (FP.ddiv (FP.i2d (y_sum (Y_18 2) 12)) (FP.i2d (12 - ch_cnO (Y_18 1) (-1) 12))) = r_ ∧ m_ = ch_wr m (9, 0, 0) 19 0) ∨ ((12 - ch_cnO (Y_18 1) (-1) 12 = 0) ∧ (FP.i2d 0) = r_ ∧ m_ = ch_wr m (9, 0, 0) 19 1)) (Y_18) m ⟨b22, b23, b24, (fun c_ => (Or.inl ⟨c_, rfl, rfl⟩)), (fun c_ => (Or.inr ⟨c_, rfl, rfl⟩))⟩))
    rcases q21 with ⟨c_, rfl, hm_⟩ | ⟨c_, rfl, hm_⟩
    · replace h := h.1 c_ m20 hm_
      refine ch_dstore (i := 7) d_l_law_1843 (Nat.le_of_ble_eq_true rfl) (ls' := [some (.inr (11, 0, 0)), some (.inr (0, 0, 0)), some (.inr (9, 0, 0)), some (.inr (10, 0, 1)), some (.inr (10, 0, 2)), some (.inl (.int x5)), some (.inl (.int 1)), some (.inl (.double (FP.ddiv (FP.i2d (y_sum (Y_18 2) 12)) (FP.i2d (12 - ch_cnO (Y_18 1) (-1) 12))))), none, o9]) rfl ?_
      refine ch_aload_n (i := 2) d_l_law_1845 rfl rfl ?_
      refine ch_callV (as := []) d_l_law_1846 lk_l_129 mi_m_thrown me_m_thrown rfl rfl rfl (ch_hR hR (Nat.le_of_ble_eq_true rfl)) (Nat.le_of_ble_eq_true rfl) (ch_rc1 (k := k) (a := 1) (b := 0) hcs (Nat.le_of_ble_eq_true rfl)) (ch_mono (ch_Ki (fun r25 m26 q27 => ?_)) (s_m_thrown g (fun (r_ : Int32) (m_ : ch_M) => ((m20 (9, 0, 0) 19) = r_ ∧ m20 = m_))  m20 ⟨rfl, rfl⟩))
      obtain ⟨rfl, rfl⟩ := q27
      replace h := h
      refine ch_iload d_l_law_1849 rfl ?_
      refine ch_icmp_eq (tgt := 1856) d_l_law_1851 (by decide) (fun c => ?_) (fun c => ?_)
      · replace h := h.1 c
        refine ch_iload d_l_law_1856 rfl ?_
        refine ch_if_ne (tgt := 1893) d_l_law_1858 (by decide) (fun _ => ?_) (fun c => absurd c (by decide))
        refine ch_goto (tgt := 2096) d_l_law_1893 (by decide) ?_
        exact h
      · replace h := h.2 c
        refine ch_iconst (v := 0) d_l_law_1854 (by decide) ?_
        exact h
    · replace h := h.2 c_ m20 hm_
      refine ch_dstore (i := 7) d_l_law_1843 (Nat.le_of_ble_eq_true rfl) (ls' := [some (.inr (11, 0, 0)), some (.inr (0, 0, 0)), some (.inr (9, 0, 0)), some (.inr (10, 0, 1)), some (.inr (10, 0, 2)), some (.inl (.int x5)), some (.inl (.int 1)), some (.inl (.double (FP.i2d 0))), none, o9]) rfl ?_
      refine ch_aload_n (i := 2) d_l_law_1845 rfl rfl ?_
      refine ch_callV (as := []) d_l_law_1846 lk_l_129 mi_m_thrown me_m_thrown rfl rfl rfl (ch_hR hR (Nat.le_of_ble_eq_true rfl)) (Nat.le_of_ble_eq_true rfl) (ch_rc1 (k := k) (a := 1) (b := 0) hcs (Nat.le_of_ble_eq_true rfl)) (ch_mono (ch_Ki (fun r28 m29 q30 => ?_)) (s_m_thrown g (fun (r_ : Int32) (m_ : ch_M) => ((m20 (9, 0, 0) 19) = r_ ∧ m20 = m_))  m20 ⟨rfl, rfl⟩))
      obtain ⟨rfl, rfl⟩ := q30
      replace h := h
      refine ch_iload d_l_law_1849 rfl ?_
      refine ch_icmp_eq (tgt := 1856) d_l_law_1851 (by decide) (fun c => ?_) (fun c => ?_)
      · replace h := h.1 c
        refine ch_iload d_l_law_1856 rfl ?_
        refine ch_if_ne (tgt := 1893) d_l_law_1858 (by decide) (fun _ => ?_) (fun c => absurd c (by decide))
        refine ch_goto (tgt := 2096) d_l_law_1893 (by decide) ?_
        exact h
      · replace h := h.2 c
        refine ch_iconst (v := 0) d_l_law_1854 (by decide) ?_
        exact h
set_option maxHeartbeats 1600000 in
theorem g_l_law_1896 (g : ch_G) (R : Room) (E : ch_En) (k : Nat) (hR : ch_RR R 18) (hcs : k + 40 ≤ R.cells ∧ 6 * k + 240 ≤ R.slots) (x5 : Int32) (o6 : Option ch_V) (o7 : Option ch_V) (o8 : Option ch_V) (o9 : Option ch_V) (m : ch_M) (h : ((vf_n64 (FP.f2d (FP.fdiv (FP.i2f (12 - ch_cnO (ch_ob m 1 0 1) (-1) 12)) 1094713344))) ∧ (∃ Y_4 : ch_B, (m_rel Y_4 (m (9, 0, 1))) ∧ (∀ i_, i_ < 12 → Y_4 1 i_ = -1 ∨ vp_in (Y_4 1 i_) 5) ∧ ((∀ m6 : ch_M, m6 = ch_wr m (9, 0, 0) 19 0 → (vf_n64 (FP.f2d (FP.fdiv (FP.i2f (12 - ch_cnO (Y_4 1) (-1) 12)) 1094713344))) ∧ (((Op.cmpValue (FP.dcmp (FP.f2d (FP.fdiv (FP.i2f (12 - ch_cnO (ch_ob m 1 0 1) (-1) 12)) 1094713344)) (FP.f2d (FP.fdiv (FP.i2f (12 - ch_cnO (Y_4 1) (-1) 12)) 1094713344))) .l) = 0 → ch_J g m_l_law R E 2096 [some (.inr (11, 0, 0)), some (.inr (0, 0, 0)), some (.inr (9, 0, 0)), some (.inr (10, 0, 1)), some (.inr (10, 0, 2)), some (.inl (.int x5)), some (.inl (.double (FP.f2d (FP.fdiv (FP.i2f (12 - ch_cnO (ch_ob m 1 0 1) (-1) 12)) 1094713344)))), none, some (.inl (.double (FP.f2d (FP.fdiv (FP.i2f (12 - ch_cnO (Y_4 1) (-1) 12)) 1094713344)))), none] [] m6 k) ∧ (¬ (Op.cmpValue (FP.dcmp (FP.f2d (FP.fdiv (FP.i2f (12 - ch_cnO (ch_ob m 1 0 1) (-1) 12)) 1094713344)) (FP.f2d (FP.fdiv (FP.i2f (12 - ch_cnO (Y_4 1) (-1) 12)) 1094713344))) .l) = 0 → (((Op.cmpValue (FP.dcmp (FP.f2d (FP.fdiv (FP.i2f (12 - ch_cnO (ch_ob m 1 0 1) (-1) 12)) 1094713344)) (FP.f2d (FP.fdiv (FP.i2f (12 - ch_cnO (ch_ob m 1 0 1) (-1) 12)) 1094713344))) .l) = 0 → ch_J g m_l_law R E 1935 [some (.inr (11, 0, 0)), some (.inr (0, 0, 0)), some (.inr (9, 0, 0)), some (.inr (10, 0, 1)), some (.inr (10, 0, 2)), some (.inl (.int x5)), some (.inl (.double (FP.f2d (FP.fdiv (FP.i2f (12 - ch_cnO (ch_ob m 1 0 1) (-1) 12)) 1094713344)))), none, some (.inl (.double (FP.f2d (FP.fdiv (FP.i2f (12 - ch_cnO (Y_4 1) (-1) 12)) 1094713344)))), none] [.inl (.int 0)] m6 k) ∧ (¬ (Op.cmpValue (FP.dcmp (FP.f2d (FP.fdiv (FP.i2f (12 - ch_cnO (ch_ob m 1 0 1) (-1) 12)) 1094713344)) (FP.f2d (FP.fdiv (FP.i2f (12 - ch_cnO (ch_ob m 1 0 1) (-1) 12)) 1094713344))) .l) = 0 → ((¬ (Op.cmpValue (FP.dcmp (FP.f2d (FP.fdiv (FP.i2f (12 - ch_cnO (Y_4 1) (-1) 12)) 1094713344)) (FP.f2d (FP.fdiv (FP.i2f (12 - ch_cnO (Y_4 1) (-1) 12)) 1094713344))) .l) = 0 → ch_J g m_l_law R E 2096 [some (.inr (11, 0, 0)), some (.inr (0, 0, 0)), some (.inr (9, 0, 0)), some (.inr (10, 0, 1)), some (.inr (10, 0, 2)), some (.inl (.int x5)), some (.inl (.double (FP.f2d (FP.fdiv (FP.i2f (12 - ch_cnO (ch_ob m 1 0 1) (-1) 12)) 1094713344)))), none, some (.inl (.double (FP.f2d (FP.fdiv (FP.i2f (12 - ch_cnO (Y_4 1) (-1) 12)) 1094713344)))), none] [] m6 k) ∧ ((Op.cmpValue (FP.dcmp (FP.f2d (FP.fdiv (FP.i2f (12 - ch_cnO (Y_4 1) (-1) 12)) 1094713344)) (FP.f2d (FP.fdiv (FP.i2f (12 - ch_cnO (Y_4 1) (-1) 12)) 1094713344))) .l) = 0 → ch_J g m_l_law R E 1935 [some (.inr (11, 0, 0)), some (.inr (0, 0, 0)), some (.inr (9, 0, 0)), some (.inr (10, 0, 1)), some (.inr (10, 0, 2)), some (.inl (.int x5)), some (.inl (.double (FP.f2d (FP.fdiv (FP.i2f (12 - ch_cnO (ch_ob m 1 0 1) (-1) 12)) 1094713344)))), none, some (.inl (.double (FP.f2d (FP.fdiv (FP.i2f (12 - ch_cnO (Y_4 1) (-1) 12)) 1094713344)))), none] [.inl (.int 0)] m6 k))))))))))) : ch_J g m_l_law R E 1896 [some (.inr (11, 0, 0)), some (.inr (0, 0, 0)), some (.inr (9, 0, 0)), some (.inr (10, 0, 1)), some (.inr (10, 0, 2)), some (.inl (.int x5)), o6, o7, o8, o9] [] m k := by
  refine ch_aload_n (i := 1) d_l_law_1896 rfl rfl ?_
  refine ch_callV (as := []) d_l_law_1897 lk_l_237 mi_x_ownedShare me_x_ownedShare rfl rfl rfl (ch_hR hR (Nat.le_of_ble_eq_true rfl)) (Nat.le_of_ble_eq_true rfl) (ch_rc0 (k := k) (b := 0) hcs (Nat.le_of_ble_eq_true rfl)) (ch_mono (ch_Kf (fun r1 m2 q3 => ?_)) (s_x_ownedShare g (fun (r_ : UInt32) (m_ : ch_M) => ((FP.fdiv (FP.i2f (12 - ch_cnO (ch_ob m 1 0 1) (-1) 12)) 1094713344) = r_ ∧ m = m_))  m ⟨rfl, rfl⟩))
  obtain ⟨rfl, rfl⟩ := q3
  replace h := h
  refine ch_f2d d_l_law_1900 h.1 ?_
  replace h := h.2
  refine ch_dstore (i := 6) d_l_law_1901 (Nat.le_of_ble_eq_true rfl) (ls' := [some (.inr (11, 0, 0)), some (.inr (0, 0, 0)), some (.inr (9, 0, 0)), some (.inr (10, 0, 1)), some (.inr (10, 0, 2)), some (.inl (.int x5)), some (.inl (.double (FP.f2d (FP.fdiv (FP.i2f (12 - ch_cnO (ch_ob m 1 0 1) (-1) 12)) 1094713344)))), none, o8, o9]) rfl ?_
  refine ch_aload_n (i := 2) d_l_law_1903 rfl rfl ?_
  obtain ⟨Y_4, h⟩ := h
  have b8 := h.1
  replace h := h.2
  have b9 := h.1
  replace h := h.2
  refine ch_callV (as := []) d_l_law_1904 lk_l_241 mi_m_ownedShare me_m_ownedShare rfl rfl rfl (ch_hR hR (Nat.le_of_ble_eq_true rfl)) (Nat.le_of_ble_eq_true rfl) (ch_rc0 (k := k) (b := 0) hcs (Nat.le_of_ble_eq_true rfl)) (ch_mono (ch_Kf (fun r5 m6 q7 => ?_)) (s_m_ownedShare g (fun (r_ : UInt32) (m_ : ch_M) => ((FP.fdiv (FP.i2f (12 - ch_cnO (Y_4 1) (-1) 12)) 1094713344) = r_ ∧ m_ = ch_wr m (9, 0, 0) 19 0)) (Y_4) m ⟨b8, b9, ⟨rfl, rfl⟩⟩))
  obtain ⟨rfl, hm_⟩ := q7
  replace h := h m6 hm_
  refine ch_f2d d_l_law_1907 h.1 ?_
  replace h := h.2
  refine ch_dstore (i := 8) d_l_law_1908 (Nat.le_of_ble_eq_true rfl) (ls' := [some (.inr (11, 0, 0)), some (.inr (0, 0, 0)), some (.inr (9, 0, 0)), some (.inr (10, 0, 1)), some (.inr (10, 0, 2)), some (.inl (.int x5)), some (.inl (.double (FP.f2d (FP.fdiv (FP.i2f (12 - ch_cnO (ch_ob m 1 0 1) (-1) 12)) 1094713344)))), none, some (.inl (.double (FP.f2d (FP.fdiv (FP.i2f (12 - ch_cnO (Y_4 1) (-1) 12)) 1094713344)))), none]) rfl ?_
  refine ch_dload d_l_law_1910 rfl ?_
  refine ch_dload d_l_law_1912 rfl ?_
  refine ch_dcmp d_l_law_1914 ?_
  refine ch_if_eq (tgt := 1936) d_l_law_1915 (by decide) (fun c => ?_) (fun c => ?_)
  · replace h := h.1 c
    refine ch_goto (tgt := 2096) d_l_law_1936 (by decide) ?_
    exact h
  · replace h := h.2 c
    refine ch_dload d_l_law_1918 rfl ?_
    refine ch_dload d_l_law_1920 rfl ?_
    refine ch_dcmp d_l_law_1922 ?_
    refine ch_if_eq (tgt := 1934) d_l_law_1923 (by decide) (fun c => ?_) (fun c => ?_)
    · replace h := h.1 c
      refine ch_iconst (v := 0) d_l_law_1934 (by decide) ?_
      exact h
    · replace h := h.2 c
      refine ch_dload d_l_law_1926 rfl ?_
      refine ch_dload d_l_law_1928 rfl ?_
      refine ch_dcmp d_l_law_1930 ?_
      refine ch_if_ne (tgt := 1936) d_l_law_1931 (by decide) (fun c => ?_) (fun c => ?_)
      · replace h := h.1 c
        refine ch_goto (tgt := 2096) d_l_law_1936 (by decide) ?_
        exact h
      · replace h := h.2 c
        refine ch_iconst (v := 0) d_l_law_1934 (by decide) ?_
        exact h
set_option maxHeartbeats 1600000 in
theorem g_l_law_1939 (g : ch_G) (R : Room) (E : ch_En) (k : Nat) (hR : ch_RR R 18) (hcs : k + 40 ≤ R.cells ∧ 6 * k + 240 ≤ R.slots) (x5 : Int32) (o6 : Option ch_V) (o7 : Option ch_V) (o8 : Option ch_V) (o9 : Option ch_V) (m : ch_M) (h : (vp_in (x5 + 1) (ch_scr g).2.1) ∧ (vp_in (m (1, 0, 0) 8) 6) ∧ (((0 ≤ ((ch_scr g).2.2 (Int32.toNatClampNeg (x5 + 1))) ∧ ((ch_scr g).2.2 (Int32.toNatClampNeg (x5 + 1))) ≤ 11) → (∀ m3 : ch_M, m3 = (ch_wr m (10, 0, 1) 0 (x_acR (ch_ob m 1 0) (m (2, 0, 0) 2) (m (6, 0, 0) 1) ((ch_scr g).2.2 (Int32.toNatClampNeg (x5 + 1))))) → (∃ Y_6 : ch_B, (m_rel Y_6 (m3 (9, 0, 1))) ∧ (vp_in (Y_6 0 8) 6) ∧ (∀ i_, i_ < 12 → Y_6 1 i_ = -1 ∨ vp_in (Y_6 1 i_) 5) ∧ (((0 ≤ ((ch_scr g).2.2 (Int32.toNatClampNeg (x5 + 1))) ∧ ((ch_scr g).2.2 (Int32.toNatClampNeg (x5 + 1))) ≤ 11) → (∀ m8 : ch_M, m8 = ch_wr m3 (9, 0, 0) 19 0 → ((((m8 (9, 0, 0) 19) = 0 → (((lg_cmp ((m8 (10, 0, 1) (0))).toInt64 ((x_acR Y_6 (m3 (9, 0, 0) 4) (m3 (9, 0, 0) 10) ((ch_scr g).2.2 (Int32.toNatClampNeg (x5 + 1))))).toInt64) = 0 → ch_J g m_l_law R E 2096 [some (.inr (11, 0, 0)), some (.inr (0, 0, 0)), some (.inr (9, 0, 0)), some (.inr (10, 0, 1)), some (.inr (10, 0, 2)), some (.inl (.int x5)), some (.inl (.int 0)), some (.inl (.int (x_acR Y_6 (m3 (9, 0, 0) 4) (m3 (9, 0, 0) 10) ((ch_scr g).2.2 (Int32.toNatClampNeg (x5 + 1)))))), o8, o9] [] m8 (k + 1)) ∧ (¬ (lg_cmp ((m8 (10, 0, 1) (0))).toInt64 ((x_acR Y_6 (m3 (9, 0, 0) 4) (m3 (9, 0, 0) 10) ((ch_scr g).2.2 (Int32.toNatClampNeg (x5 + 1))))).toInt64) = 0 → ch_J g m_l_law R E 1991 [some (.inr (11, 0, 0)), some (.inr (0, 0, 0)), some (.inr (9, 0, 0)), some (.inr (10, 0, 1)), some (.inr (10, 0, 2)), some (.inl (.int x5)), some (.inl (.int 0)), some (.inl (.int (x_acR Y_6 (m3 (9, 0, 0) 4) (m3 (9, 0, 0) 10) ((ch_scr g).2.2 (Int32.toNatClampNeg (x5 + 1)))))), o8, o9] [.inl (.int 0)] m8 (k + 1)))) ∧ (¬ (m8 (9, 0, 0) 19) = 0 → ch_J g m_l_law R E 1974 [some (.inr (11, 0, 0)), some (.inr (0, 0, 0)), some (.inr (9, 0, 0)), some (.inr (10, 0, 1)), some (.inr (10, 0, 2)), some (.inl (.int x5)), some (.inl (.int 0)), some (.inl (.int (x_acR Y_6 (m3 (9, 0, 0) 4) (m3 (9, 0, 0) 10) ((ch_scr g).2.2 (Int32.toNatClampNeg (x5 + 1)))))), o8, o9] [.inl (.int 0)] m8 (k + 1)))))) ∧ ((¬ (0 ≤ ((ch_scr g).2.2 (Int32.toNatClampNeg (x5 + 1))) ∧ ((ch_scr g).2.2 (Int32.toNatClampNeg (x5 + 1))) ≤ 11)) → (∀ m8 : ch_M, m8 = ch_wr m3 (9, 0, 0) 19 1 → ((((m8 (9, 0, 0) 19) = 0 → (((lg_cmp ((m8 (10, 0, 1) (0))).toInt64 (0).toInt64) = 0 → ch_J g m_l_law R E 2096 [some (.inr (11, 0, 0)), some (.inr (0, 0, 0)), some (.inr (9, 0, 0)), some (.inr (10, 0, 1)), some (.inr (10, 0, 2)), some (.inl (.int x5)), some (.inl (.int 0)), some (.inl (.int 0)), o8, o9] [] m8 (k + 1)) ∧ (¬ (lg_cmp ((m8 (10, 0, 1) (0))).toInt64 (0).toInt64) = 0 → ch_J g m_l_law R E 1991 [some (.inr (11, 0, 0)), some (.inr (0, 0, 0)), some (.inr (9, 0, 0)), some (.inr (10, 0, 1)), some (.inr (10, 0, 2)), some (.inl (.int x5)), some (.inl (.int 0)), some (.inl (.int 0)), o8, o9] [.inl (.int 0)] m8 (k + 1)))) ∧ (¬ (m8 (9, 0, 0) 19) = 0 → ch_J g m_l_law R E 1974 [some (.inr (11, 0, 0)), some (.inr (0, 0, 0)), some (.inr (9, 0, 0)), some (.inr (10, 0, 1)), some (.inr (10, 0, 2)), some (.inl (.int x5)), some (.inl (.int 0)), some (.inl (.int 0)), o8, o9] [.inl (.int 0)] m8 (k + 1)))))))))) ∧ ((¬ (0 ≤ ((ch_scr g).2.2 (Int32.toNatClampNeg (x5 + 1))) ∧ ((ch_scr g).2.2 (Int32.toNatClampNeg (x5 + 1))) ≤ 11)) → (∃ Y_19 : ch_B, (m_rel Y_19 (m (9, 0, 1))) ∧ (vp_in (Y_19 0 8) 6) ∧ (∀ i_, i_ < 12 → Y_19 1 i_ = -1 ∨ vp_in (Y_19 1 i_) 5) ∧ (((0 ≤ ((ch_scr g).2.2 (Int32.toNatClampNeg (x5 + 1))) ∧ ((ch_scr g).2.2 (Int32.toNatClampNeg (x5 + 1))) ≤ 11) → (∀ m21 : ch_M, m21 = ch_wr m (9, 0, 0) 19 0 → ((((m21 (9, 0, 0) 19) = 1 → ch_J g m_l_law R E 2096 [some (.inr (11, 0, 0)), some (.inr (0, 0, 0)), some (.inr (9, 0, 0)), some (.inr (10, 0, 1)), some (.inr (10, 0, 2)), some (.inl (.int x5)), some (.inl (.int 1)), some (.inl (.int (x_acR Y_19 (m (9, 0, 0) 4) (m (9, 0, 0) 10) ((ch_scr g).2.2 (Int32.toNatClampNeg (x5 + 1)))))), o8, o9] [] m21 (k + 1)) ∧ (¬ (m21 (9, 0, 0) 19) = 1 → ch_J g m_l_law R E 1974 [some (.inr (11, 0, 0)), some (.inr (0, 0, 0)), some (.inr (9, 0, 0)), some (.inr (10, 0, 1)), some (.inr (10, 0, 2)), some (.inl (.int x5)), some (.inl (.int 1)), some (.inl (.int (x_acR Y_19 (m (9, 0, 0) 4) (m (9, 0, 0) 10) ((ch_scr g).2.2 (Int32.toNatClampNeg (x5 + 1)))))), o8, o9] [.inl (.int 0)] m21 (k + 1)))))) ∧ ((¬ (0 ≤ ((ch_scr g).2.2 (Int32.toNatClampNeg (x5 + 1))) ∧ ((ch_scr g).2.2 (Int32.toNatClampNeg (x5 + 1))) ≤ 11)) → (∀ m21 : ch_M, m21 = ch_wr m (9, 0, 0) 19 1 → ((((m21 (9, 0, 0) 19) = 1 → ch_J g m_l_law R E 2096 [some (.inr (11, 0, 0)), some (.inr (0, 0, 0)), some (.inr (9, 0, 0)), some (.inr (10, 0, 1)), some (.inr (10, 0, 2)), some (.inl (.int x5)), some (.inl (.int 1)), some (.inl (.int 0)), o8, o9] [] m21 (k + 1)) ∧ (¬ (m21 (9, 0, 0) 19) = 1 → ch_J g m_l_law R E 1974 [some (.inr (11, 0, 0)), some (.inr (0, 0, 0)), some (.inr (9, 0, 0)), some (.inr (10, 0, 1)), some (.inr (10, 0, 2)), some (.inl (.int x5)), some (.inl (.int 1)), some (.inl (.int 0)), o8, o9] [.inl (.int 0)] m21 (k + 1))))))))))) : ch_J g m_l_law R E 1939 [some (.inr (11, 0, 0)), some (.inr (0, 0, 0)), some (.inr (9, 0, 0)), some (.inr (10, 0, 1)), some (.inr (10, 0, 2)), some (.inl (.int x5)), o6, o7, o8, o9] [] m k := by
  refine ch_aload_n (i := 1) d_l_law_1939 rfl rfl ?_
  refine ch_aload_n (i := 0) d_l_law_1940 rfl rfl ?_
  refine ch_iload d_l_law_1941 rfl ?_
  refine ch_iconst (v := 1) d_l_law_1943 (by decide) ?_
  refine ch_iadd d_l_law_1944 ?_
  have b1 := h.1
  replace h := h.2
  refine ch_sld d_l_law_1945 b1 ?_
  refine ch_aload_n (i := 3) d_l_law_1946 rfl rfl ?_
  have b5 := h.1
  replace h := h.2
  refine ch_callSX (as := [.inr (0, 0, 0), .inl (.int ((ch_scr g).2.2 (Int32.toNatClampNeg (x5 + 1)))), .inr (10, 0, 1)]) d_l_law_1947 lk_l_242 ms_l_account rfl rfl (ch_hR hR (Nat.le_of_ble_eq_true rfl)) (Nat.le_of_ble_eq_true rfl) (ch_rc0 (k := k) (b := 1) hcs (Nat.le_of_ble_eq_true rfl)) (ch_mono (ch_Ki (fun r2 m3 q4 => ?_)) (s_l_account g (fun (r_ : Int32) (m_ : ch_M) => ((0 ≤ ((ch_scr g).2.2 (Int32.toNatClampNeg (x5 + 1))) ∧ ((ch_scr g).2.2 (Int32.toNatClampNeg (x5 + 1))) ≤ 11) ∧ 0 = r_ ∧ m_ = (ch_wr m (10, 0, 1) 0 (x_acR (ch_ob m 1 0) (m (2, 0, 0) 2) (m (6, 0, 0) 1) ((ch_scr g).2.2 (Int32.toNatClampNeg (x5 + 1)))))) ∨ ((¬ (0 ≤ ((ch_scr g).2.2 (Int32.toNatClampNeg (x5 + 1))) ∧ ((ch_scr g).2.2 (Int32.toNatClampNeg (x5 + 1))) ≤ 11)) ∧ 1 = r_ ∧ m = m_)) (((ch_scr g).2.2 (Int32.toNatClampNeg (x5 + 1)))) m ⟨b5, (fun c_ => (Or.inl ⟨c_, rfl, rfl⟩)), (fun c_ => (Or.inr ⟨c_, rfl, rfl⟩))⟩))
  rcases q4 with ⟨c_, rfl, hm_⟩ | ⟨c_, rfl, rfl⟩
  · replace h := h.1 c_ m3 hm_
    refine ch_istore (i := 6) d_l_law_1950 (Nat.le_of_ble_eq_true rfl) (ls' := [some (.inr (11, 0, 0)), some (.inr (0, 0, 0)), some (.inr (9, 0, 0)), some (.inr (10, 0, 1)), some (.inr (10, 0, 2)), some (.inl (.int x5)), some (.inl (.int 0)), o7, o8, o9]) rfl ?_
    refine ch_aload_n (i := 2) d_l_law_1952 rfl rfl ?_
    refine ch_aload_n (i := 0) d_l_law_1953 rfl rfl ?_
    refine ch_iload d_l_law_1954 rfl ?_
    refine ch_iconst (v := 1) d_l_law_1956 (by decide) ?_
    refine ch_iadd d_l_law_1957 ?_
    refine ch_sld d_l_law_1958 b1 ?_
    obtain ⟨Y_6, h⟩ := h
    have b10 := h.1
    replace h := h.2
    have b11 := h.1
    replace h := h.2
    have b12 := h.1
    replace h := h.2
    refine ch_callV (as := [.inl (.int ((ch_scr g).2.2 (Int32.toNatClampNeg (x5 + 1))))]) d_l_law_1959 lk_l_244 mi_m_account me_m_account rfl rfl rfl (ch_hR hR (Nat.le_of_ble_eq_true rfl)) (Nat.le_of_ble_eq_true rfl) (ch_rc1 (k := k) (a := 1) (b := 0) hcs (Nat.le_of_ble_eq_true rfl)) (ch_mono (ch_Ki (fun r7 m8 q9 => ?_)) (s_m_account g (fun (r_ : Int32) (m_ : ch_M) => ((0 ≤ ((ch_scr g).2.2 (Int32.toNatClampNeg (x5 + 1))) ∧ ((ch_scr g).2.2 (Int32.toNatClampNeg (x5 + 1))) ≤ 11) ∧ (x_acR Y_6 (m3 (9, 0, 0) 4) (m3 (9, 0, 0) 10) ((ch_scr g).2.2 (Int32.toNatClampNeg (x5 + 1)))) = r_ ∧ m_ = ch_wr m3 (9, 0, 0) 19 0) ∨ ((¬ (0 ≤ ((ch_scr g).2.2 (Int32.toNatClampNeg (x5 + 1))) ∧ ((ch_scr g).2.2 (Int32.toNatClampNeg (x5 + 1))) ≤ 11)) ∧ 0 = r_ ∧ m_ = ch_wr m3 (9, 0, 0) 19 1)) (Y_6) (((ch_scr g).2.2 (Int32.toNatClampNeg (x5 + 1)))) m3 ⟨b10, b11, b12, (fun c_ => (Or.inl ⟨c_, rfl, rfl⟩)), (fun c_ => (Or.inr ⟨c_, rfl, rfl⟩))⟩))
    rcases q9 with ⟨c_, rfl, hm_⟩ | ⟨c_, rfl, hm_⟩
    · replace h := h.1 c_ m8 hm_
      refine ch_istore (i := 7) d_l_law_1962 (Nat.le_of_ble_eq_true rfl) (ls' := [some (.inr (11, 0, 0)), some (.inr (0, 0, 0)), some (.inr (9, 0, 0)), some (.inr (10, 0, 1)), some (.inr (10, 0, 2)), some (.inl (.int x5)), some (.inl (.int 0)), some (.inl (.int (x_acR Y_6 (m3 (9, 0, 0) 4) (m3 (9, 0, 0) 10) ((ch_scr g).2.2 (Int32.toNatClampNeg (x5 + 1)))))), o8, o9]) rfl ?_
      refine ch_aload_n (i := 2) d_l_law_1964 rfl rfl ?_
      refine ch_callV (as := []) d_l_law_1965 lk_l_129 mi_m_thrown me_m_thrown rfl rfl rfl (ch_hR hR (Nat.le_of_ble_eq_true rfl)) (Nat.le_of_ble_eq_true rfl) (ch_rc1 (k := k) (a := 1) (b := 0) hcs (Nat.le_of_ble_eq_true rfl)) (ch_mono (ch_Ki (fun r13 m14 q15 => ?_)) (s_m_thrown g (fun (r_ : Int32) (m_ : ch_M) => ((m8 (9, 0, 0) 19) = r_ ∧ m8 = m_))  m8 ⟨rfl, rfl⟩))
      obtain ⟨rfl, rfl⟩ := q15
      replace h := h
      refine ch_iload d_l_law_1968 rfl ?_
      refine ch_icmp_eq (tgt := 1975) d_l_law_1970 (by decide) (fun c => ?_) (fun c => ?_)
      · replace h := h.1 c
        refine ch_iload d_l_law_1975 rfl ?_
        refine ch_if_ne (tgt := 1992) d_l_law_1977 (by decide) (fun c => absurd c (by decide)) (fun _ => ?_)
        refine ch_aload_n (i := 3) d_l_law_1980 rfl rfl ?_
        refine ch_iconst (v := 0) d_l_law_1981 (by decide) ?_
        refine ch_lald (n := 1) d_l_law_1982 (by decide) rfl (vp_in_nI (n := 0) (by decide) (by decide)) ?_
        refine ch_iload d_l_law_1983 rfl ?_
        refine ch_i2l d_l_law_1985 ?_
        refine ch_lcmp d_l_law_1986 ?_
        refine ch_if_eq (tgt := 1992) d_l_law_1987 (by decide) (fun c => ?_) (fun c => ?_)
        · replace h := h.1 c
          refine ch_goto (tgt := 2096) d_l_law_1992 (by decide) ?_
          exact h
        · replace h := h.2 c
          refine ch_iconst (v := 0) d_l_law_1990 (by decide) ?_
          exact h
      · replace h := h.2 c
        refine ch_iconst (v := 0) d_l_law_1973 (by decide) ?_
        exact h
    · replace h := h.2 c_ m8 hm_
      refine ch_istore (i := 7) d_l_law_1962 (Nat.le_of_ble_eq_true rfl) (ls' := [some (.inr (11, 0, 0)), some (.inr (0, 0, 0)), some (.inr (9, 0, 0)), some (.inr (10, 0, 1)), some (.inr (10, 0, 2)), some (.inl (.int x5)), some (.inl (.int 0)), some (.inl (.int 0)), o8, o9]) rfl ?_
      refine ch_aload_n (i := 2) d_l_law_1964 rfl rfl ?_
      refine ch_callV (as := []) d_l_law_1965 lk_l_129 mi_m_thrown me_m_thrown rfl rfl rfl (ch_hR hR (Nat.le_of_ble_eq_true rfl)) (Nat.le_of_ble_eq_true rfl) (ch_rc1 (k := k) (a := 1) (b := 0) hcs (Nat.le_of_ble_eq_true rfl)) (ch_mono (ch_Ki (fun r16 m17 q18 => ?_)) (s_m_thrown g (fun (r_ : Int32) (m_ : ch_M) => ((m8 (9, 0, 0) 19) = r_ ∧ m8 = m_))  m8 ⟨rfl, rfl⟩))
      obtain ⟨rfl, rfl⟩ := q18
      replace h := h
      refine ch_iload d_l_law_1968 rfl ?_
      refine ch_icmp_eq (tgt := 1975) d_l_law_1970 (by decide) (fun c => ?_) (fun c => ?_)
      · replace h := h.1 c
        refine ch_iload d_l_law_1975 rfl ?_
        refine ch_if_ne (tgt := 1992) d_l_law_1977 (by decide) (fun c => absurd c (by decide)) (fun _ => ?_)
        refine ch_aload_n (i := 3) d_l_law_1980 rfl rfl ?_
        refine ch_iconst (v := 0) d_l_law_1981 (by decide) ?_
        refine ch_lald (n := 1) d_l_law_1982 (by decide) rfl (vp_in_nI (n := 0) (by decide) (by decide)) ?_
        refine ch_iload d_l_law_1983 rfl ?_
        refine ch_i2l d_l_law_1985 ?_
        refine ch_lcmp d_l_law_1986 ?_
        refine ch_if_eq (tgt := 1992) d_l_law_1987 (by decide) (fun c => ?_) (fun c => ?_)
        · replace h := h.1 c
          refine ch_goto (tgt := 2096) d_l_law_1992 (by decide) ?_
          exact h
        · replace h := h.2 c
          refine ch_iconst (v := 0) d_l_law_1990 (by decide) ?_
          exact h
      · replace h := h.2 c
        refine ch_iconst (v := 0) d_l_law_1973 (by decide) ?_
        exact h
  · replace h := h.2 c_
    refine ch_istore (i := 6) d_l_law_1950 (Nat.le_of_ble_eq_true rfl) (ls' := [some (.inr (11, 0, 0)), some (.inr (0, 0, 0)), some (.inr (9, 0, 0)), some (.inr (10, 0, 1)), some (.inr (10, 0, 2)), some (.inl (.int x5)), some (.inl (.int 1)), o7, o8, o9]) rfl ?_
    refine ch_aload_n (i := 2) d_l_law_1952 rfl rfl ?_
    refine ch_aload_n (i := 0) d_l_law_1953 rfl rfl ?_
    refine ch_iload d_l_law_1954 rfl ?_
    refine ch_iconst (v := 1) d_l_law_1956 (by decide) ?_
    refine ch_iadd d_l_law_1957 ?_
    refine ch_sld d_l_law_1958 b1 ?_
    obtain ⟨Y_19, h⟩ := h
    have b23 := h.1
    replace h := h.2
    have b24 := h.1
    replace h := h.2
    have b25 := h.1
    replace h := h.2
    refine ch_callV (as := [.inl (.int ((ch_scr g).2.2 (Int32.toNatClampNeg (x5 + 1))))]) d_l_law_1959 lk_l_244 mi_m_account me_m_account rfl rfl rfl (ch_hR hR (Nat.le_of_ble_eq_true rfl)) (Nat.le_of_ble_eq_true rfl) (ch_rc1 (k := k) (a := 1) (b := 0) hcs (Nat.le_of_ble_eq_true rfl)) (ch_mono (ch_Ki (fun r20 m21 q22 => ?_)) (s_m_account g (fun (r_ : Int32) (m_ : ch_M) => ((0 ≤ ((ch_scr g).2.2 (Int32.toNatClampNeg (x5 + 1))) ∧ ((ch_scr g).2.2 (Int32.toNatClampNeg (x5 + 1))) ≤ 11) ∧ (x_acR Y_19 (m (9, 0, 0) 4) (m (9, 0, 0) 10) ((ch_scr g).2.2 (Int32.toNatClampNeg (x5 + 1)))) = r_ ∧ m_ = ch_wr m (9, 0, 0) 19 0) ∨ ((¬ (0 ≤ ((ch_scr g).2.2 (Int32.toNatClampNeg (x5 + 1))) ∧ ((ch_scr g).2.2 (Int32.toNatClampNeg (x5 + 1))) ≤ 11)) ∧ 0 = r_ ∧ m_ = ch_wr m (9, 0, 0) 19 1)) (Y_19) (((ch_scr g).2.2 (Int32.toNatClampNeg (x5 + 1)))) m ⟨b23, b24, b25, (fun c_ => (Or.inl ⟨c_, rfl, rfl⟩)), (fun c_ => (Or.inr ⟨c_, rfl, rfl⟩))⟩))
    rcases q22 with ⟨c_, rfl, hm_⟩ | ⟨c_, rfl, hm_⟩
    · replace h := h.1 c_ m21 hm_
      refine ch_istore (i := 7) d_l_law_1962 (Nat.le_of_ble_eq_true rfl) (ls' := [some (.inr (11, 0, 0)), some (.inr (0, 0, 0)), some (.inr (9, 0, 0)), some (.inr (10, 0, 1)), some (.inr (10, 0, 2)), some (.inl (.int x5)), some (.inl (.int 1)), some (.inl (.int (x_acR Y_19 (m (9, 0, 0) 4) (m (9, 0, 0) 10) ((ch_scr g).2.2 (Int32.toNatClampNeg (x5 + 1)))))), o8, o9]) rfl ?_
      refine ch_aload_n (i := 2) d_l_law_1964 rfl rfl ?_
      refine ch_callV (as := []) d_l_law_1965 lk_l_129 mi_m_thrown me_m_thrown rfl rfl rfl (ch_hR hR (Nat.le_of_ble_eq_true rfl)) (Nat.le_of_ble_eq_true rfl) (ch_rc1 (k := k) (a := 1) (b := 0) hcs (Nat.le_of_ble_eq_true rfl)) (ch_mono (ch_Ki (fun r26 m27 q28 => ?_)) (s_m_thrown g (fun (r_ : Int32) (m_ : ch_M) => ((m21 (9, 0, 0) 19) = r_ ∧ m21 = m_))  m21 ⟨rfl, rfl⟩))
      obtain ⟨rfl, rfl⟩ := q28
      replace h := h
      refine ch_iload d_l_law_1968 rfl ?_
      refine ch_icmp_eq (tgt := 1975) d_l_law_1970 (by decide) (fun c => ?_) (fun c => ?_)
      · replace h := h.1 c
        refine ch_iload d_l_law_1975 rfl ?_
        refine ch_if_ne (tgt := 1992) d_l_law_1977 (by decide) (fun _ => ?_) (fun c => absurd c (by decide))
        refine ch_goto (tgt := 2096) d_l_law_1992 (by decide) ?_
        exact h
      · replace h := h.2 c
        refine ch_iconst (v := 0) d_l_law_1973 (by decide) ?_
        exact h
    · replace h := h.2 c_ m21 hm_
      refine ch_istore (i := 7) d_l_law_1962 (Nat.le_of_ble_eq_true rfl) (ls' := [some (.inr (11, 0, 0)), some (.inr (0, 0, 0)), some (.inr (9, 0, 0)), some (.inr (10, 0, 1)), some (.inr (10, 0, 2)), some (.inl (.int x5)), some (.inl (.int 1)), some (.inl (.int 0)), o8, o9]) rfl ?_
      refine ch_aload_n (i := 2) d_l_law_1964 rfl rfl ?_
      refine ch_callV (as := []) d_l_law_1965 lk_l_129 mi_m_thrown me_m_thrown rfl rfl rfl (ch_hR hR (Nat.le_of_ble_eq_true rfl)) (Nat.le_of_ble_eq_true rfl) (ch_rc1 (k := k) (a := 1) (b := 0) hcs (Nat.le_of_ble_eq_true rfl)) (ch_mono (ch_Ki (fun r29 m30 q31 => ?_)) (s_m_thrown g (fun (r_ : Int32) (m_ : ch_M) => ((m21 (9, 0, 0) 19) = r_ ∧ m21 = m_))  m21 ⟨rfl, rfl⟩))
      obtain ⟨rfl, rfl⟩ := q31
      replace h := h
      refine ch_iload d_l_law_1968 rfl ?_
      refine ch_icmp_eq (tgt := 1975) d_l_law_1970 (by decide) (fun c => ?_) (fun c => ?_)
      · replace h := h.1 c
        refine ch_iload d_l_law_1975 rfl ?_
        refine ch_if_ne (tgt := 1992) d_l_law_1977 (by decide) (fun _ => ?_) (fun c => absurd c (by decide))
        refine ch_goto (tgt := 2096) d_l_law_1992 (by decide) ?_
        exact h
      · replace h := h.2 c
        refine ch_iconst (v := 0) d_l_law_1973 (by decide) ?_
        exact h
set_option maxHeartbeats 1600000 in
theorem g_l_law_1995 (g : ch_G) (R : Room) (E : ch_En) (k : Nat) (hR : ch_RR R 18) (hcs : k + 40 ≤ R.cells ∧ 6 * k + 240 ≤ R.slots) (x5 : Int32) (o6 : Option ch_V) (o7 : Option ch_V) (o8 : Option ch_V) (o9 : Option ch_V) (m : ch_M) (h : (vp_in (m (2, 0, 0) 1) 8) ∧ (((¬ m (2, 0, 0) 2 = 0) → (∀ m2 : ch_M, m2 = (ch_wr (ch_os (ch_os m 1 0 (y_cp (ch_ob m 1 (4 + Int32.toNatClampNeg (m (2, 0, 0) 1))) (ch_ob m 1 0))) 2 0 (p_gB (ch_ob m 2 0))) (10, 0, 1) 0 (m (2, 0, 0) 2 - 1)) → (vp_in (m2 (9, 0, 0) 4) 9) ∧ (((¬ m2 (9, 0, 0) 4 = 0) → (∀ m6 : ch_M, m6 = ch_os m2 9 0 (m_unB (ch_ob m2 9 0)) → ((((m6 (9, 0, 0) 19) = 0 → (((lg_cmp ((m6 (10, 0, 1) (0))).toInt64 ((m2 (9, 0, 0) 4 - 1)).toInt64) = 0 → ch_J g m_l_law R E 2096 [some (.inr (11, 0, 0)), some (.inr (0, 0, 0)), some (.inr (9, 0, 0)), some (.inr (10, 0, 1)), some (.inr (10, 0, 2)), some (.inl (.int x5)), some (.inl (.int 0)), some (.inl (.int (m2 (9, 0, 0) 4 - 1))), o8, o9] [] m6 (k + 1)) ∧ (¬ (lg_cmp ((m6 (10, 0, 1) (0))).toInt64 ((m2 (9, 0, 0) 4 - 1)).toInt64) = 0 → ch_J g m_l_law R E 2035 [some (.inr (11, 0, 0)), some (.inr (0, 0, 0)), some (.inr (9, 0, 0)), some (.inr (10, 0, 1)), some (.inr (10, 0, 2)), some (.inl (.int x5)), some (.inl (.int 0)), some (.inl (.int (m2 (9, 0, 0) 4 - 1))), o8, o9] [.inl (.int 0)] m6 (k + 1)))) ∧ (¬ (m6 (9, 0, 0) 19) = 0 → ch_J g m_l_law R E 2018 [some (.inr (11, 0, 0)), some (.inr (0, 0, 0)), some (.inr (9, 0, 0)), some (.inr (10, 0, 1)), some (.inr (10, 0, 2)), some (.inl (.int x5)), some (.inl (.int 0)), some (.inl (.int (m2 (9, 0, 0) 4 - 1))), o8, o9] [.inl (.int 0)] m6 (k + 1)))))) ∧ ((m2 (9, 0, 0) 4 = 0) → (∀ m6 : ch_M, m6 = ch_wr m2 (9, 0, 0) 19 1 → ((((m6 (9, 0, 0) 19) = 0 → (((lg_cmp ((m6 (10, 0, 1) (0))).toInt64 (0).toInt64) = 0 → ch_J g m_l_law R E 2096 [some (.inr (11, 0, 0)), some (.inr (0, 0, 0)), some (.inr (9, 0, 0)), some (.inr (10, 0, 1)), some (.inr (10, 0, 2)), some (.inl (.int x5)), some (.inl (.int 0)), some (.inl (.int 0)), o8, o9] [] m6 (k + 1)) ∧ (¬ (lg_cmp ((m6 (10, 0, 1) (0))).toInt64 (0).toInt64) = 0 → ch_J g m_l_law R E 2035 [some (.inr (11, 0, 0)), some (.inr (0, 0, 0)), some (.inr (9, 0, 0)), some (.inr (10, 0, 1)), some (.inr (10, 0, 2)), some (.inl (.int x5)), some (.inl (.int 0)), some (.inl (.int 0)), o8, o9] [.inl (.int 0)] m6 (k + 1)))) ∧ (¬ (m6 (9, 0, 0) 19) = 0 → ch_J g m_l_law R E 2018 [some (.inr (11, 0, 0)), some (.inr (0, 0, 0)), some (.inr (9, 0, 0)), some (.inr (10, 0, 1)), some (.inr (10, 0, 2)), some (.inl (.int x5)), some (.inl (.int 0)), some (.inl (.int 0)), o8, o9] [.inl (.int 0)] m6 (k + 1))))))))) ∧ ((m (2, 0, 0) 2 = 0) → (vp_in (m (9, 0, 0) 4) 9) ∧ (((¬ m (9, 0, 0) 4 = 0) → (∀ m16 : ch_M, m16 = ch_os m 9 0 (m_unB (ch_ob m 9 0)) → ((((m16 (9, 0, 0) 19) = 1 → ch_J g m_l_law R E 2096 [some (.inr (11, 0, 0)), some (.inr (0, 0, 0)), some (.inr (9, 0, 0)), some (.inr (10, 0, 1)), some (.inr (10, 0, 2)), some (.inl (.int x5)), some (.inl (.int 1)), some (.inl (.int (m (9, 0, 0) 4 - 1))), o8, o9] [] m16 (k + 1)) ∧ (¬ (m16 (9, 0, 0) 19) = 1 → ch_J g m_l_law R E 2018 [some (.inr (11, 0, 0)), some (.inr (0, 0, 0)), some (.inr (9, 0, 0)), some (.inr (10, 0, 1)), some (.inr (10, 0, 2)), some (.inl (.int x5)), some (.inl (.int 1)), some (.inl (.int (m (9, 0, 0) 4 - 1))), o8, o9] [.inl (.int 0)] m16 (k + 1)))))) ∧ ((m (9, 0, 0) 4 = 0) → (∀ m16 : ch_M, m16 = ch_wr m (9, 0, 0) 19 1 → ((((m16 (9, 0, 0) 19) = 1 → ch_J g m_l_law R E 2096 [some (.inr (11, 0, 0)), some (.inr (0, 0, 0)), some (.inr (9, 0, 0)), some (.inr (10, 0, 1)), some (.inr (10, 0, 2)), some (.inl (.int x5)), some (.inl (.int 1)), some (.inl (.int 0)), o8, o9] [] m16 (k + 1)) ∧ (¬ (m16 (9, 0, 0) 19) = 1 → ch_J g m_l_law R E 2018 [some (.inr (11, 0, 0)), some (.inr (0, 0, 0)), some (.inr (9, 0, 0)), some (.inr (10, 0, 1)), some (.inr (10, 0, 2)), some (.inl (.int x5)), some (.inl (.int 1)), some (.inl (.int 0)), o8, o9] [.inl (.int 0)] m16 (k + 1)))))))))) : ch_J g m_l_law R E 1995 [some (.inr (11, 0, 0)), some (.inr (0, 0, 0)), some (.inr (9, 0, 0)), some (.inr (10, 0, 1)), some (.inr (10, 0, 2)), some (.inl (.int x5)), o6, o7, o8, o9] [] m k := by
  refine ch_aload_n (i := 1) d_l_law_1995 rfl rfl ?_
  refine ch_aload_n (i := 3) d_l_law_1996 rfl rfl ?_
  have b4 := h.1
  replace h := h.2
  refine ch_callSX (as := [.inr (0, 0, 0), .inr (10, 0, 1)]) d_l_law_1997 lk_l_245 ms_l_undo rfl rfl (ch_hR hR (Nat.le_of_ble_eq_true rfl)) (Nat.le_of_ble_eq_true rfl) (ch_rc0 (k := k) (b := 1) hcs (Nat.le_of_ble_eq_true rfl)) (ch_mono (ch_Ki (fun r1 m2 q3 => ?_)) (s_l_undo g (fun (r_ : Int32) (m_ : ch_M) => ((¬ m (2, 0, 0) 2 = 0) ∧ 0 = r_ ∧ m_ = (ch_wr (ch_os (ch_os m 1 0 (y_cp (ch_ob m 1 (4 + Int32.toNatClampNeg (m (2, 0, 0) 1))) (ch_ob m 1 0))) 2 0 (p_gB (ch_ob m 2 0))) (10, 0, 1) 0 (m (2, 0, 0) 2 - 1))) ∨ ((m (2, 0, 0) 2 = 0) ∧ 1 = r_ ∧ m = m_))  m ⟨b4, (fun c_ => (Or.inl ⟨c_, rfl, rfl⟩)), (fun c_ => (Or.inr ⟨c_, rfl, rfl⟩))⟩))
  rcases q3 with ⟨c_, rfl, hm_⟩ | ⟨c_, rfl, rfl⟩
  · replace h := h.1 c_ m2 hm_
    refine ch_istore (i := 6) d_l_law_2000 (Nat.le_of_ble_eq_true rfl) (ls' := [some (.inr (11, 0, 0)), some (.inr (0, 0, 0)), some (.inr (9, 0, 0)), some (.inr (10, 0, 1)), some (.inr (10, 0, 2)), some (.inl (.int x5)), some (.inl (.int 0)), o7, o8, o9]) rfl ?_
    refine ch_aload_n (i := 2) d_l_law_2002 rfl rfl ?_
    have b8 := h.1
    replace h := h.2
    refine ch_callV (as := []) d_l_law_2003 lk_l_247 mi_m_undo me_m_undo rfl rfl rfl (ch_hR hR (Nat.le_of_ble_eq_true rfl)) (Nat.le_of_ble_eq_true rfl) (ch_rc1 (k := k) (a := 1) (b := 0) hcs (Nat.le_of_ble_eq_true rfl)) (ch_mono (ch_Ki (fun r5 m6 q7 => ?_)) (s_m_undo g (fun (r_ : Int32) (m_ : ch_M) => ((¬ m2 (9, 0, 0) 4 = 0) ∧ (m2 (9, 0, 0) 4 - 1) = r_ ∧ m_ = ch_os m2 9 0 (m_unB (ch_ob m2 9 0))) ∨ ((m2 (9, 0, 0) 4 = 0) ∧ 0 = r_ ∧ m_ = ch_wr m2 (9, 0, 0) 19 1))  m2 ⟨b8, (fun c_ => (Or.inl ⟨c_, rfl, rfl⟩)), (fun c_ => (Or.inr ⟨c_, rfl, rfl⟩))⟩))
    rcases q7 with ⟨c_, rfl, hm_⟩ | ⟨c_, rfl, hm_⟩
    · replace h := h.1 c_ m6 hm_
      refine ch_istore (i := 7) d_l_law_2006 (Nat.le_of_ble_eq_true rfl) (ls' := [some (.inr (11, 0, 0)), some (.inr (0, 0, 0)), some (.inr (9, 0, 0)), some (.inr (10, 0, 1)), some (.inr (10, 0, 2)), some (.inl (.int x5)), some (.inl (.int 0)), some (.inl (.int (m2 (9, 0, 0) 4 - 1))), o8, o9]) rfl ?_
      refine ch_aload_n (i := 2) d_l_law_2008 rfl rfl ?_
      refine ch_callV (as := []) d_l_law_2009 lk_l_129 mi_m_thrown me_m_thrown rfl rfl rfl (ch_hR hR (Nat.le_of_ble_eq_true rfl)) (Nat.le_of_ble_eq_true rfl) (ch_rc1 (k := k) (a := 1) (b := 0) hcs (Nat.le_of_ble_eq_true rfl)) (ch_mono (ch_Ki (fun r9 m10 q11 => ?_)) (s_m_thrown g (fun (r_ : Int32) (m_ : ch_M) => ((m6 (9, 0, 0) 19) = r_ ∧ m6 = m_))  m6 ⟨rfl, rfl⟩))
      obtain ⟨rfl, rfl⟩ := q11
      replace h := h
      refine ch_iload d_l_law_2012 rfl ?_
      refine ch_icmp_eq (tgt := 2019) d_l_law_2014 (by decide) (fun c => ?_) (fun c => ?_)
      · replace h := h.1 c
        refine ch_iload d_l_law_2019 rfl ?_
        refine ch_if_ne (tgt := 2036) d_l_law_2021 (by decide) (fun c => absurd c (by decide)) (fun _ => ?_)
        refine ch_aload_n (i := 3) d_l_law_2024 rfl rfl ?_
        refine ch_iconst (v := 0) d_l_law_2025 (by decide) ?_
        refine ch_lald (n := 1) d_l_law_2026 (by decide) rfl (vp_in_nI (n := 0) (by decide) (by decide)) ?_
        refine ch_iload d_l_law_2027 rfl ?_
        refine ch_i2l d_l_law_2029 ?_
        refine ch_lcmp d_l_law_2030 ?_
        refine ch_if_eq (tgt := 2036) d_l_law_2031 (by decide) (fun c => ?_) (fun c => ?_)
        · replace h := h.1 c
          refine ch_goto (tgt := 2096) d_l_law_2036 (by decide) ?_
          exact h
        · replace h := h.2 c
          refine ch_iconst (v := 0) d_l_law_2034 (by decide) ?_
          exact h
      · replace h := h.2 c
        refine ch_iconst (v := 0) d_l_law_2017 (by decide) ?_
        exact h
    · replace h := h.2 c_ m6 hm_
      refine ch_istore (i := 7) d_l_law_2006 (Nat.le_of_ble_eq_true rfl) (ls' := [some (.inr (11, 0, 0)), some (.inr (0, 0, 0)), some (.inr (9, 0, 0)), some (.inr (10, 0, 1)), some (.inr (10, 0, 2)), some (.inl (.int x5)), some (.inl (.int 0)), some (.inl (.int 0)), o8, o9]) rfl ?_
      refine ch_aload_n (i := 2) d_l_law_2008 rfl rfl ?_
      refine ch_callV (as := []) d_l_law_2009 lk_l_129 mi_m_thrown me_m_thrown rfl rfl rfl (ch_hR hR (Nat.le_of_ble_eq_true rfl)) (Nat.le_of_ble_eq_true rfl) (ch_rc1 (k := k) (a := 1) (b := 0) hcs (Nat.le_of_ble_eq_true rfl)) (ch_mono (ch_Ki (fun r12 m13 q14 => ?_)) (s_m_thrown g (fun (r_ : Int32) (m_ : ch_M) => ((m6 (9, 0, 0) 19) = r_ ∧ m6 = m_))  m6 ⟨rfl, rfl⟩))
      obtain ⟨rfl, rfl⟩ := q14
      replace h := h
      refine ch_iload d_l_law_2012 rfl ?_
      refine ch_icmp_eq (tgt := 2019) d_l_law_2014 (by decide) (fun c => ?_) (fun c => ?_)
      · replace h := h.1 c
        refine ch_iload d_l_law_2019 rfl ?_
        refine ch_if_ne (tgt := 2036) d_l_law_2021 (by decide) (fun c => absurd c (by decide)) (fun _ => ?_)
        refine ch_aload_n (i := 3) d_l_law_2024 rfl rfl ?_
        refine ch_iconst (v := 0) d_l_law_2025 (by decide) ?_
        refine ch_lald (n := 1) d_l_law_2026 (by decide) rfl (vp_in_nI (n := 0) (by decide) (by decide)) ?_
        refine ch_iload d_l_law_2027 rfl ?_
        refine ch_i2l d_l_law_2029 ?_
        refine ch_lcmp d_l_law_2030 ?_
        refine ch_if_eq (tgt := 2036) d_l_law_2031 (by decide) (fun c => ?_) (fun c => ?_)
        · replace h := h.1 c
          refine ch_goto (tgt := 2096) d_l_law_2036 (by decide) ?_
          exact h
        · replace h := h.2 c
          refine ch_iconst (v := 0) d_l_law_2034 (by decide) ?_
          exact h
      · replace h := h.2 c
        refine ch_iconst (v := 0) d_l_law_2017 (by decide) ?_
        exact h
  · replace h := h.2 c_
    refine ch_istore (i := 6) d_l_law_2000 (Nat.le_of_ble_eq_true rfl) (ls' := [some (.inr (11, 0, 0)), some (.inr (0, 0, 0)), some (.inr (9, 0, 0)), some (.inr (10, 0, 1)), some (.inr (10, 0, 2)), some (.inl (.int x5)), some (.inl (.int 1)), o7, o8, o9]) rfl ?_
    refine ch_aload_n (i := 2) d_l_law_2002 rfl rfl ?_
    have b18 := h.1
    replace h := h.2
    refine ch_callV (as := []) d_l_law_2003 lk_l_247 mi_m_undo me_m_undo rfl rfl rfl (ch_hR hR (Nat.le_of_ble_eq_true rfl)) (Nat.le_of_ble_eq_true rfl) (ch_rc1 (k := k) (a := 1) (b := 0) hcs (Nat.le_of_ble_eq_true rfl)) (ch_mono (ch_Ki (fun r15 m16 q17 => ?_)) (s_m_undo g (fun (r_ : Int32) (m_ : ch_M) => ((¬ m (9, 0, 0) 4 = 0) ∧ (m (9, 0, 0) 4 - 1) = r_ ∧ m_ = ch_os m 9 0 (m_unB (ch_ob m 9 0))) ∨ ((m (9, 0, 0) 4 = 0) ∧ 0 = r_ ∧ m_ = ch_wr m (9, 0, 0) 19 1))  m ⟨b18, (fun c_ => (Or.inl ⟨c_, rfl, rfl⟩)), (fun c_ => (Or.inr ⟨c_, rfl, rfl⟩))⟩))
    rcases q17 with ⟨c_, rfl, hm_⟩ | ⟨c_, rfl, hm_⟩
    · replace h := h.1 c_ m16 hm_
      refine ch_istore (i := 7) d_l_law_2006 (Nat.le_of_ble_eq_true rfl) (ls' := [some (.inr (11, 0, 0)), some (.inr (0, 0, 0)), some (.inr (9, 0, 0)), some (.inr (10, 0, 1)), some (.inr (10, 0, 2)), some (.inl (.int x5)), some (.inl (.int 1)), some (.inl (.int (m (9, 0, 0) 4 - 1))), o8, o9]) rfl ?_
      refine ch_aload_n (i := 2) d_l_law_2008 rfl rfl ?_
      refine ch_callV (as := []) d_l_law_2009 lk_l_129 mi_m_thrown me_m_thrown rfl rfl rfl (ch_hR hR (Nat.le_of_ble_eq_true rfl)) (Nat.le_of_ble_eq_true rfl) (ch_rc1 (k := k) (a := 1) (b := 0) hcs (Nat.le_of_ble_eq_true rfl)) (ch_mono (ch_Ki (fun r19 m20 q21 => ?_)) (s_m_thrown g (fun (r_ : Int32) (m_ : ch_M) => ((m16 (9, 0, 0) 19) = r_ ∧ m16 = m_))  m16 ⟨rfl, rfl⟩))
      obtain ⟨rfl, rfl⟩ := q21
      replace h := h
      refine ch_iload d_l_law_2012 rfl ?_
      refine ch_icmp_eq (tgt := 2019) d_l_law_2014 (by decide) (fun c => ?_) (fun c => ?_)
      · replace h := h.1 c
        refine ch_iload d_l_law_2019 rfl ?_
        refine ch_if_ne (tgt := 2036) d_l_law_2021 (by decide) (fun _ => ?_) (fun c => absurd c (by decide))
        refine ch_goto (tgt := 2096) d_l_law_2036 (by decide) ?_
        exact h
      · replace h := h.2 c
        refine ch_iconst (v := 0) d_l_law_2017 (by decide) ?_
        exact h
    · replace h := h.2 c_ m16 hm_
      refine ch_istore (i := 7) d_l_law_2006 (Nat.le_of_ble_eq_true rfl) (ls' := [some (.inr (11, 0, 0)), some (.inr (0, 0, 0)), some (.inr (9, 0, 0)), some (.inr (10, 0, 1)), some (.inr (10, 0, 2)), some (.inl (.int x5)), some (.inl (.int 1)), some (.inl (.int 0)), o8, o9]) rfl ?_
      refine ch_aload_n (i := 2) d_l_law_2008 rfl rfl ?_
      refine ch_callV (as := []) d_l_law_2009 lk_l_129 mi_m_thrown me_m_thrown rfl rfl rfl (ch_hR hR (Nat.le_of_ble_eq_true rfl)) (Nat.le_of_ble_eq_true rfl) (ch_rc1 (k := k) (a := 1) (b := 0) hcs (Nat.le_of_ble_eq_true rfl)) (ch_mono (ch_Ki (fun r22 m23 q24 => ?_)) (s_m_thrown g (fun (r_ : Int32) (m_ : ch_M) => ((m16 (9, 0, 0) 19) = r_ ∧ m16 = m_))  m16 ⟨rfl, rfl⟩))
      obtain ⟨rfl, rfl⟩ := q24
      replace h := h
      refine ch_iload d_l_law_2012 rfl ?_
      refine ch_icmp_eq (tgt := 2019) d_l_law_2014 (by decide) (fun c => ?_) (fun c => ?_)
      · replace h := h.1 c
        refine ch_iload d_l_law_2019 rfl ?_
        refine ch_if_ne (tgt := 2036) d_l_law_2021 (by decide) (fun _ => ?_) (fun c => absurd c (by decide))
        refine ch_goto (tgt := 2096) d_l_law_2036 (by decide) ?_
        exact h
      · replace h := h.2 c
        refine ch_iconst (v := 0) d_l_law_2017 (by decide) ?_
        exact h
set_option maxHeartbeats 1600000 in
theorem g_l_law_2039 (g : ch_G) (R : Room) (E : ch_En) (k : Nat) (hR : ch_RR R 18) (hcs : k + 40 ≤ R.cells ∧ 6 * k + 240 ≤ R.slots) (x5 : Int32) (o6 : Option ch_V) (o7 : Option ch_V) (o8 : Option ch_V) (o9 : Option ch_V) (m : ch_M) (h : ((∀ m2 : ch_M, m2 = ch_wr (ch_os m 1 3 (y_cp (ch_ob m 1 0) (ch_ob m 1 3))) (0, 0, 0) 12 1 → ((∀ m5 : ch_M, m5 = ch_os m2 9 0 (m_svB (ch_ob m2 9 0)) → (((m (1, 0, 0) 8) = (m2 (9, 0, 1) 0) → ch_J g m_l_law R E 2096 [some (.inr (11, 0, 0)), some (.inr (0, 0, 0)), some (.inr (9, 0, 0)), some (.inr (10, 0, 1)), some (.inr (10, 0, 2)), some (.inl (.int x5)), o6, o7, o8, o9] [] m5 k) ∧ (¬ (m (1, 0, 0) 8) = (m2 (9, 0, 1) 0) → ch_J g m_l_law R E 2051 [some (.inr (11, 0, 0)), some (.inr (0, 0, 0)), some (.inr (9, 0, 0)), some (.inr (10, 0, 1)), some (.inr (10, 0, 2)), some (.inl (.int x5)), o6, o7, o8, o9] [.inl (.int 0)] m5 k))))))) : ch_J g m_l_law R E 2039 [some (.inr (11, 0, 0)), some (.inr (0, 0, 0)), some (.inr (9, 0, 0)), some (.inr (10, 0, 1)), some (.inr (10, 0, 2)), some (.inl (.int x5)), o6, o7, o8, o9] [] m k := by
  refine ch_aload_n (i := 1) d_l_law_2039 rfl rfl ?_
  refine ch_callV (as := []) d_l_law_2040 lk_l_248 mi_x_save me_x_save rfl rfl rfl (ch_hR hR (Nat.le_of_ble_eq_true rfl)) (Nat.le_of_ble_eq_true rfl) (ch_rc0 (k := k) (b := 0) hcs (Nat.le_of_ble_eq_true rfl)) (ch_mono (ch_Ki (fun r1 m2 q3 => ?_)) (s_x_save g (fun (r_ : Int32) (m_ : ch_M) => ((m (1, 0, 0) 8) = r_ ∧ m_ = ch_wr (ch_os m 1 3 (y_cp (ch_ob m 1 0) (ch_ob m 1 3))) (0, 0, 0) 12 1))  m ⟨rfl, rfl⟩))
  obtain ⟨rfl, hm_⟩ := q3
  replace h := h m2 hm_
  refine ch_aload_n (i := 2) d_l_law_2043 rfl rfl ?_
  refine ch_callV (as := []) d_l_law_2044 lk_l_251 mi_m_save me_m_save rfl rfl rfl (ch_hR hR (Nat.le_of_ble_eq_true rfl)) (Nat.le_of_ble_eq_true rfl) (ch_rc0 (k := k) (b := 0) hcs (Nat.le_of_ble_eq_true rfl)) (ch_mono (ch_Ki (fun r4 m5 q6 => ?_)) (s_m_save g (fun (r_ : Int32) (m_ : ch_M) => ((m2 (9, 0, 1) 0) = r_ ∧ m_ = ch_os m2 9 0 (m_svB (ch_ob m2 9 0))))  m2 ⟨rfl, rfl⟩))
  obtain ⟨rfl, hm_⟩ := q6
  replace h := h m5 hm_
  refine ch_icmp_eq (tgt := 2096) d_l_law_2047 (by decide) (fun c => ?_) (fun c => ?_)
  · replace h := h.1 c
    exact h
  · replace h := h.2 c
    refine ch_iconst (v := 0) d_l_law_2050 (by decide) ?_
    exact h
set_option maxHeartbeats 1600000 in
theorem g_l_law_2052 (g : ch_G) (R : Room) (E : ch_En) (k : Nat) (hR : ch_RR R 18) (hcs : k + 40 ≤ R.cells ∧ 6 * k + 240 ≤ R.slots) (x5 : Int32) (o6 : Option ch_V) (o7 : Option ch_V) (o8 : Option ch_V) (o9 : Option ch_V) (m : ch_M) (h : (((¬ m (0, 0, 0) 12 = 0) → (∀ m2 : ch_M, m2 = (ch_wr (ch_wr (ch_os m 1 0 (y_cp (ch_ob m 1 3) (ch_ob m 1 0))) (2, 0, 0) 2 0) (10, 0, 1) 0 (m (1, 3, 0) 8)) → (((¬ m2 (9, 0, 0) 6 = 0) → (∀ m5 : ch_M, m5 = ch_os m2 9 0 (m_rsB (ch_ob m2 9 0)) → ((((m5 (9, 0, 0) 19) = 0 → (((lg_cmp ((m5 (10, 0, 1) (0))).toInt64 ((m2 (9, 0, 5) 0)).toInt64) = 0 → ch_J g m_l_law R E 2096 [some (.inr (11, 0, 0)), some (.inr (0, 0, 0)), some (.inr (9, 0, 0)), some (.inr (10, 0, 1)), some (.inr (10, 0, 2)), some (.inl (.int x5)), some (.inl (.int 0)), some (.inl (.int (m2 (9, 0, 5) 0))), o8, o9] [] m5 (k + 1)) ∧ (¬ (lg_cmp ((m5 (10, 0, 1) (0))).toInt64 ((m2 (9, 0, 5) 0)).toInt64) = 0 → ch_J g m_l_law R E 2092 [some (.inr (11, 0, 0)), some (.inr (0, 0, 0)), some (.inr (9, 0, 0)), some (.inr (10, 0, 1)), some (.inr (10, 0, 2)), some (.inl (.int x5)), some (.inl (.int 0)), some (.inl (.int (m2 (9, 0, 5) 0))), o8, o9] [.inl (.int 0)] m5 (k + 1)))) ∧ (¬ (m5 (9, 0, 0) 19) = 0 → ch_J g m_l_law R E 2075 [some (.inr (11, 0, 0)), some (.inr (0, 0, 0)), some (.inr (9, 0, 0)), some (.inr (10, 0, 1)), some (.inr (10, 0, 2)), some (.inl (.int x5)), some (.inl (.int 0)), some (.inl (.int (m2 (9, 0, 5) 0))), o8, o9] [.inl (.int 0)] m5 (k + 1)))))) ∧ ((m2 (9, 0, 0) 6 = 0) → (∀ m5 : ch_M, m5 = ch_wr m2 (9, 0, 0) 19 1 → ((((m5 (9, 0, 0) 19) = 0 → (((lg_cmp ((m5 (10, 0, 1) (0))).toInt64 (0).toInt64) = 0 → ch_J g m_l_law R E 2096 [some (.inr (11, 0, 0)), some (.inr (0, 0, 0)), some (.inr (9, 0, 0)), some (.inr (10, 0, 1)), some (.inr (10, 0, 2)), some (.inl (.int x5)), some (.inl (.int 0)), some (.inl (.int 0)), o8, o9] [] m5 (k + 1)) ∧ (¬ (lg_cmp ((m5 (10, 0, 1) (0))).toInt64 (0).toInt64) = 0 → ch_J g m_l_law R E 2092 [some (.inr (11, 0, 0)), some (.inr (0, 0, 0)), some (.inr (9, 0, 0)), some (.inr (10, 0, 1)), some (.inr (10, 0, 2)), some (.inl (.int x5)), some (.inl (.int 0)), some (.inl (.int 0)), o8, o9] [.inl (.int 0)] m5 (k + 1)))) ∧ (¬ (m5 (9, 0, 0) 19) = 0 → ch_J g m_l_law R E 2075 [some (.inr (11, 0, 0)), some (.inr (0, 0, 0)), some (.inr (9, 0, 0)), some (.inr (10, 0, 1)), some (.inr (10, 0, 2)), some (.inl (.int x5)), some (.inl (.int 0)), some (.inl (.int 0)), o8, o9] [.inl (.int 0)] m5 (k + 1))))))))) ∧ ((m (0, 0, 0) 12 = 0) → (((¬ m (9, 0, 0) 6 = 0) → (∀ m14 : ch_M, m14 = ch_os m 9 0 (m_rsB (ch_ob m 9 0)) → ((((m14 (9, 0, 0) 19) = 1 → ch_J g m_l_law R E 2096 [some (.inr (11, 0, 0)), some (.inr (0, 0, 0)), some (.inr (9, 0, 0)), some (.inr (10, 0, 1)), some (.inr (10, 0, 2)), some (.inl (.int x5)), some (.inl (.int 1)), some (.inl (.int (m (9, 0, 5) 0))), o8, o9] [] m14 (k + 1)) ∧ (¬ (m14 (9, 0, 0) 19) = 1 → ch_J g m_l_law R E 2075 [some (.inr (11, 0, 0)), some (.inr (0, 0, 0)), some (.inr (9, 0, 0)), some (.inr (10, 0, 1)), some (.inr (10, 0, 2)), some (.inl (.int x5)), some (.inl (.int 1)), some (.inl (.int (m (9, 0, 5) 0))), o8, o9] [.inl (.int 0)] m14 (k + 1)))))) ∧ ((m (9, 0, 0) 6 = 0) → (∀ m14 : ch_M, m14 = ch_wr m (9, 0, 0) 19 1 → ((((m14 (9, 0, 0) 19) = 1 → ch_J g m_l_law R E 2096 [some (.inr (11, 0, 0)), some (.inr (0, 0, 0)), some (.inr (9, 0, 0)), some (.inr (10, 0, 1)), some (.inr (10, 0, 2)), some (.inl (.int x5)), some (.inl (.int 1)), some (.inl (.int 0)), o8, o9] [] m14 (k + 1)) ∧ (¬ (m14 (9, 0, 0) 19) = 1 → ch_J g m_l_law R E 2075 [some (.inr (11, 0, 0)), some (.inr (0, 0, 0)), some (.inr (9, 0, 0)), some (.inr (10, 0, 1)), some (.inr (10, 0, 2)), some (.inl (.int x5)), some (.inl (.int 1)), some (.inl (.int 0)), o8, o9] [.inl (.int 0)] m14 (k + 1)))))))))) : ch_J g m_l_law R E 2052 [some (.inr (11, 0, 0)), some (.inr (0, 0, 0)), some (.inr (9, 0, 0)), some (.inr (10, 0, 1)), some (.inr (10, 0, 2)), some (.inl (.int x5)), o6, o7, o8, o9] [] m k := by
  refine ch_aload_n (i := 1) d_l_law_2052 rfl rfl ?_
  refine ch_aload_n (i := 3) d_l_law_2053 rfl rfl ?_
  refine ch_callSX (as := [.inr (0, 0, 0), .inr (10, 0, 1)]) d_l_law_2054 lk_l_252 ms_l_restore rfl rfl (ch_hR hR (Nat.le_of_ble_eq_true rfl)) (Nat.le_of_ble_eq_true rfl) (ch_rc0 (k := k) (b := 1) hcs (Nat.le_of_ble_eq_true rfl)) (ch_mono (ch_Ki (fun r1 m2 q3 => ?_)) (s_l_restore g (fun (r_ : Int32) (m_ : ch_M) => ((¬ m (0, 0, 0) 12 = 0) ∧ 0 = r_ ∧ m_ = (ch_wr (ch_wr (ch_os m 1 0 (y_cp (ch_ob m 1 3) (ch_ob m 1 0))) (2, 0, 0) 2 0) (10, 0, 1) 0 (m (1, 3, 0) 8))) ∨ ((m (0, 0, 0) 12 = 0) ∧ 1 = r_ ∧ m = m_))  m ⟨(fun c_ => (Or.inl ⟨c_, rfl, rfl⟩)), (fun c_ => (Or.inr ⟨c_, rfl, rfl⟩))⟩))
  rcases q3 with ⟨c_, rfl, hm_⟩ | ⟨c_, rfl, rfl⟩
  · replace h := h.1 c_ m2 hm_
    refine ch_istore (i := 6) d_l_law_2057 (Nat.le_of_ble_eq_true rfl) (ls' := [some (.inr (11, 0, 0)), some (.inr (0, 0, 0)), some (.inr (9, 0, 0)), some (.inr (10, 0, 1)), some (.inr (10, 0, 2)), some (.inl (.int x5)), some (.inl (.int 0)), o7, o8, o9]) rfl ?_
    refine ch_aload_n (i := 2) d_l_law_2059 rfl rfl ?_
    refine ch_callV (as := []) d_l_law_2060 lk_l_254 mi_m_restore me_m_restore rfl rfl rfl (ch_hR hR (Nat.le_of_ble_eq_true rfl)) (Nat.le_of_ble_eq_true rfl) (ch_rc1 (k := k) (a := 1) (b := 0) hcs (Nat.le_of_ble_eq_true rfl)) (ch_mono (ch_Ki (fun r4 m5 q6 => ?_)) (s_m_restore g (fun (r_ : Int32) (m_ : ch_M) => ((¬ m2 (9, 0, 0) 6 = 0) ∧ (m2 (9, 0, 5) 0) = r_ ∧ m_ = ch_os m2 9 0 (m_rsB (ch_ob m2 9 0))) ∨ ((m2 (9, 0, 0) 6 = 0) ∧ 0 = r_ ∧ m_ = ch_wr m2 (9, 0, 0) 19 1))  m2 ⟨(fun c_ => (Or.inl ⟨c_, rfl, rfl⟩)), (fun c_ => (Or.inr ⟨c_, rfl, rfl⟩))⟩))
    rcases q6 with ⟨c_, rfl, hm_⟩ | ⟨c_, rfl, hm_⟩
    · replace h := h.1 c_ m5 hm_
      refine ch_istore (i := 7) d_l_law_2063 (Nat.le_of_ble_eq_true rfl) (ls' := [some (.inr (11, 0, 0)), some (.inr (0, 0, 0)), some (.inr (9, 0, 0)), some (.inr (10, 0, 1)), some (.inr (10, 0, 2)), some (.inl (.int x5)), some (.inl (.int 0)), some (.inl (.int (m2 (9, 0, 5) 0))), o8, o9]) rfl ?_
      refine ch_aload_n (i := 2) d_l_law_2065 rfl rfl ?_
      refine ch_callV (as := []) d_l_law_2066 lk_l_129 mi_m_thrown me_m_thrown rfl rfl rfl (ch_hR hR (Nat.le_of_ble_eq_true rfl)) (Nat.le_of_ble_eq_true rfl) (ch_rc1 (k := k) (a := 1) (b := 0) hcs (Nat.le_of_ble_eq_true rfl)) (ch_mono (ch_Ki (fun r7 m8 q9 => ?_)) (s_m_thrown g (fun (r_ : Int32) (m_ : ch_M) => ((m5 (9, 0, 0) 19) = r_ ∧ m5 = m_))  m5 ⟨rfl, rfl⟩))
      obtain ⟨rfl, rfl⟩ := q9
      replace h := h
      refine ch_iload d_l_law_2069 rfl ?_
      refine ch_icmp_eq (tgt := 2076) d_l_law_2071 (by decide) (fun c => ?_) (fun c => ?_)
      · replace h := h.1 c
        refine ch_iload d_l_law_2076 rfl ?_
        refine ch_if_ne (tgt := 2093) d_l_law_2078 (by decide) (fun c => absurd c (by decide)) (fun _ => ?_)
        refine ch_aload_n (i := 3) d_l_law_2081 rfl rfl ?_
        refine ch_iconst (v := 0) d_l_law_2082 (by decide) ?_
        refine ch_lald (n := 1) d_l_law_2083 (by decide) rfl (vp_in_nI (n := 0) (by decide) (by decide)) ?_
        refine ch_iload d_l_law_2084 rfl ?_
        refine ch_i2l d_l_law_2086 ?_
        refine ch_lcmp d_l_law_2087 ?_
        refine ch_if_eq (tgt := 2093) d_l_law_2088 (by decide) (fun c => ?_) (fun c => ?_)
        · replace h := h.1 c
          refine ch_goto (tgt := 2096) d_l_law_2093 (by decide) ?_
          exact h
        · replace h := h.2 c
          refine ch_iconst (v := 0) d_l_law_2091 (by decide) ?_
          exact h
      · replace h := h.2 c
        refine ch_iconst (v := 0) d_l_law_2074 (by decide) ?_
        exact h
    · replace h := h.2 c_ m5 hm_
      refine ch_istore (i := 7) d_l_law_2063 (Nat.le_of_ble_eq_true rfl) (ls' := [some (.inr (11, 0, 0)), some (.inr (0, 0, 0)), some (.inr (9, 0, 0)), some (.inr (10, 0, 1)), some (.inr (10, 0, 2)), some (.inl (.int x5)), some (.inl (.int 0)), some (.inl (.int 0)), o8, o9]) rfl ?_
      refine ch_aload_n (i := 2) d_l_law_2065 rfl rfl ?_
      refine ch_callV (as := []) d_l_law_2066 lk_l_129 mi_m_thrown me_m_thrown rfl rfl rfl (ch_hR hR (Nat.le_of_ble_eq_true rfl)) (Nat.le_of_ble_eq_true rfl) (ch_rc1 (k := k) (a := 1) (b := 0) hcs (Nat.le_of_ble_eq_true rfl)) (ch_mono (ch_Ki (fun r10 m11 q12 => ?_)) (s_m_thrown g (fun (r_ : Int32) (m_ : ch_M) => ((m5 (9, 0, 0) 19) = r_ ∧ m5 = m_))  m5 ⟨rfl, rfl⟩))
      obtain ⟨rfl, rfl⟩ := q12
      replace h := h
      refine ch_iload d_l_law_2069 rfl ?_
      refine ch_icmp_eq (tgt := 2076) d_l_law_2071 (by decide) (fun c => ?_) (fun c => ?_)
      · replace h := h.1 c
        refine ch_iload d_l_law_2076 rfl ?_
        refine ch_if_ne (tgt := 2093) d_l_law_2078 (by decide) (fun c => absurd c (by decide)) (fun _ => ?_)
        refine ch_aload_n (i := 3) d_l_law_2081 rfl rfl ?_
        refine ch_iconst (v := 0) d_l_law_2082 (by decide) ?_
        refine ch_lald (n := 1) d_l_law_2083 (by decide) rfl (vp_in_nI (n := 0) (by decide) (by decide)) ?_
        refine ch_iload d_l_law_2084 rfl ?_
        refine ch_i2l d_l_law_2086 ?_
        refine ch_lcmp d_l_law_2087 ?_
        refine ch_if_eq (tgt := 2093) d_l_law_2088 (by decide) (fun c => ?_) (fun c => ?_)
        · replace h := h.1 c
          refine ch_goto (tgt := 2096) d_l_law_2093 (by decide) ?_
          exact h
        · replace h := h.2 c
          refine ch_iconst (v := 0) d_l_law_2091 (by decide) ?_
          exact h
      · replace h := h.2 c
        refine ch_iconst (v := 0) d_l_law_2074 (by decide) ?_
        exact h
  · replace h := h.2 c_
    refine ch_istore (i := 6) d_l_law_2057 (Nat.le_of_ble_eq_true rfl) (ls' := [some (.inr (11, 0, 0)), some (.inr (0, 0, 0)), some (.inr (9, 0, 0)), some (.inr (10, 0, 1)), some (.inr (10, 0, 2)), some (.inl (.int x5)), some (.inl (.int 1)), o7, o8, o9]) rfl ?_
    refine ch_aload_n (i := 2) d_l_law_2059 rfl rfl ?_
    refine ch_callV (as := []) d_l_law_2060 lk_l_254 mi_m_restore me_m_restore rfl rfl rfl (ch_hR hR (Nat.le_of_ble_eq_true rfl)) (Nat.le_of_ble_eq_true rfl) (ch_rc1 (k := k) (a := 1) (b := 0) hcs (Nat.le_of_ble_eq_true rfl)) (ch_mono (ch_Ki (fun r13 m14 q15 => ?_)) (s_m_restore g (fun (r_ : Int32) (m_ : ch_M) => ((¬ m (9, 0, 0) 6 = 0) ∧ (m (9, 0, 5) 0) = r_ ∧ m_ = ch_os m 9 0 (m_rsB (ch_ob m 9 0))) ∨ ((m (9, 0, 0) 6 = 0) ∧ 0 = r_ ∧ m_ = ch_wr m (9, 0, 0) 19 1))  m ⟨(fun c_ => (Or.inl ⟨c_, rfl, rfl⟩)), (fun c_ => (Or.inr ⟨c_, rfl, rfl⟩))⟩))
    rcases q15 with ⟨c_, rfl, hm_⟩ | ⟨c_, rfl, hm_⟩
    · replace h := h.1 c_ m14 hm_
      refine ch_istore (i := 7) d_l_law_2063 (Nat.le_of_ble_eq_true rfl) (ls' := [some (.inr (11, 0, 0)), some (.inr (0, 0, 0)), some (.inr (9, 0, 0)), some (.inr (10, 0, 1)), some (.inr (10, 0, 2)), some (.inl (.int x5)), some (.inl (.int 1)), some (.inl (.int (m (9, 0, 5) 0))), o8, o9]) rfl ?_
      refine ch_aload_n (i := 2) d_l_law_2065 rfl rfl ?_
      refine ch_callV (as := []) d_l_law_2066 lk_l_129 mi_m_thrown me_m_thrown rfl rfl rfl (ch_hR hR (Nat.le_of_ble_eq_true rfl)) (Nat.le_of_ble_eq_true rfl) (ch_rc1 (k := k) (a := 1) (b := 0) hcs (Nat.le_of_ble_eq_true rfl)) (ch_mono (ch_Ki (fun r16 m17 q18 => ?_)) (s_m_thrown g (fun (r_ : Int32) (m_ : ch_M) => ((m14 (9, 0, 0) 19) = r_ ∧ m14 = m_))  m14 ⟨rfl, rfl⟩))
      obtain ⟨rfl, rfl⟩ := q18
      replace h := h
      refine ch_iload d_l_law_2069 rfl ?_
      refine ch_icmp_eq (tgt := 2076) d_l_law_2071 (by decide) (fun c => ?_) (fun c => ?_)
      · replace h := h.1 c
        refine ch_iload d_l_law_2076 rfl ?_
        refine ch_if_ne (tgt := 2093) d_l_law_2078 (by decide) (fun _ => ?_) (fun c => absurd c (by decide))
        refine ch_goto (tgt := 2096) d_l_law_2093 (by decide) ?_
        exact h
      · replace h := h.2 c
        refine ch_iconst (v := 0) d_l_law_2074 (by decide) ?_
        exact h
    · replace h := h.2 c_ m14 hm_
      refine ch_istore (i := 7) d_l_law_2063 (Nat.le_of_ble_eq_true rfl) (ls' := [some (.inr (11, 0, 0)), some (.inr (0, 0, 0)), some (.inr (9, 0, 0)), some (.inr (10, 0, 1)), some (.inr (10, 0, 2)), some (.inl (.int x5)), some (.inl (.int 1)), some (.inl (.int 0)), o8, o9]) rfl ?_
      refine ch_aload_n (i := 2) d_l_law_2065 rfl rfl ?_
      refine ch_callV (as := []) d_l_law_2066 lk_l_129 mi_m_thrown me_m_thrown rfl rfl rfl (ch_hR hR (Nat.le_of_ble_eq_true rfl)) (Nat.le_of_ble_eq_true rfl) (ch_rc1 (k := k) (a := 1) (b := 0) hcs (Nat.le_of_ble_eq_true rfl)) (ch_mono (ch_Ki (fun r19 m20 q21 => ?_)) (s_m_thrown g (fun (r_ : Int32) (m_ : ch_M) => ((m14 (9, 0, 0) 19) = r_ ∧ m14 = m_))  m14 ⟨rfl, rfl⟩))
      obtain ⟨rfl, rfl⟩ := q21
      replace h := h
      refine ch_iload d_l_law_2069 rfl ?_
      refine ch_icmp_eq (tgt := 2076) d_l_law_2071 (by decide) (fun c => ?_) (fun c => ?_)
      · replace h := h.1 c
        refine ch_iload d_l_law_2076 rfl ?_
        refine ch_if_ne (tgt := 2093) d_l_law_2078 (by decide) (fun _ => ?_) (fun c => absurd c (by decide))
        refine ch_goto (tgt := 2096) d_l_law_2093 (by decide) ?_
        exact h
      · replace h := h.2 c
        refine ch_iconst (v := 0) d_l_law_2074 (by decide) ?_
        exact h
set_option maxHeartbeats 1600000 in
theorem g_l_law_2096 (g : ch_G) (R : Room) (E : ch_En) (k : Nat) (hR : ch_RR R 18) (hcs : k + 40 ≤ R.cells ∧ 6 * k + 240 ≤ R.slots) (x5 : Int32) (o6 : Option ch_V) (o7 : Option ch_V) (o8 : Option ch_V) (o9 : Option ch_V) (m : ch_M) (h : ch_J g m_l_law R E 28 [some (.inr (11, 0, 0)), some (.inr (0, 0, 0)), some (.inr (9, 0, 0)), some (.inr (10, 0, 1)), some (.inr (10, 0, 2)), some (.inl (.int (x5 + 4))), o6, o7, o8, o9] [] m k) : ch_J g m_l_law R E 2096 [some (.inr (11, 0, 0)), some (.inr (0, 0, 0)), some (.inr (9, 0, 0)), some (.inr (10, 0, 1)), some (.inr (10, 0, 2)), some (.inl (.int x5)), o6, o7, o8, o9] [] m k := by
  refine ch_iinc (i := 5) (v := (x5 + 4)) d_l_law_2096 rfl rfl (Nat.le_of_ble_eq_true rfl) (ls' := [some (.inr (11, 0, 0)), some (.inr (0, 0, 0)), some (.inr (9, 0, 0)), some (.inr (10, 0, 1)), some (.inr (10, 0, 2)), some (.inl (.int (x5 + 4))), o6, o7, o8, o9]) rfl ?_
  refine ch_goto (tgt := 28) d_l_law_2099 (by decide) ?_
  exact h
