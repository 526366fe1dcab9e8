theorem a_rl14 {k : Nat} (hk : k < 18) : ch_rl (14, 0, 1) k = true := by
  have e : ch_nl 14 1 = 18 := rfl
  rw [ch_rl_s, e]
  simp [hk]
theorem a_S_upY {A : a_G} {T : Nat} {Y Y' : ch_B} {m : ch_M} (h : a_S (a_up A T Y') m) (e : y_sm Y Y') : a_S (a_up A T Y) m := by
  obtain ⟨b1, b2, ⟨⟨b3, n, b4, b5, b6, b7⟩, b8⟩, b9, b11, b12⟩ := h
  refine ⟨b1, b2, ⟨⟨b3, n, b4, b5, b6, fun k hk => ?_⟩, fun k hk => ?_⟩, b9, b11, b12⟩
  · have h7 := b7 k hk
    cases k with
    | zero => exact y_sm_tr e h7
    | succ k => exact h7
  · have h8 := b8 k hk
    cases k with
    | zero => exact y_inv_sm h8 (y_sm_sym e)
    | succ k => exact h8
abbrev l_cJ (g : ch_G) (Q : ch_O → ch_M → Prop) (x1 x2 : Int32) (m : ch_M) (k : Nat) : Prop := ch_J g m_l_changes (ch_rm m_l_changes) (ch_E g m_l_changes Q) 273 [some (.inr (0, 0, 0)), some (.inl (.int x1)), some (.inl (.int x2))] [] m k
theorem l_acR0 (Y : ch_B) : x_acR (y_can Y) 0 0 0 = Y 0 8 := by
  have h0 : ∀ Z : ch_B, x_acR Z 0 0 0 = Z 0 8 := fun Z => rfl
  rw [h0]
  exact y_can_at (by decide)
/-- changes, but for its texts -/
theorem l_changes_of (g : ch_G) (q : Int32 → ch_M → Prop) (A : a_G) (p1 : Int32) (m : ch_M) (hA : a_S A m) (h0 : A.2.2.2.2 = 0) (hT : A.1 + 720 < 2 ^ 31) (hT0 : 0 < A.1)
    (hq1 : ∀ M, a_S (a_up A (A.1 + 720) (ch_ob m 1 0)) M → (∀ k, k < 18 → M (14, 0, 1) k = m (14, 0, 1) k) → q 1 M) (hq0 : ∀ M, a_S A M → y_sm (ch_ob m 1 0) (ch_ob M 1 0) → (∀ k, k < 18 → M (14, 0, 1) k = m (14, 0, 1) k) → q 0 M)
    (hs : ∀ x2 m4, a_S A m4 → y_sm (ch_ob m 1 0) (ch_ob m4 1 0) → (∀ k, k < 18 → m4 (14, 0, 1) k = m (14, 0, 1) k) → l_cJ g (ch_oi q) p1 x2 m4 1) : ch_C g m_l_changes [.inr (0, 0, 0), .inl (.int p1)] m (ch_oi q) := by
  refine e_l_changes g _ p1 m ?_
  have fin : ∀ m4, a_S A m4 → y_sm (ch_ob m 1 0) (ch_ob m4 1 0) → (∀ k, k < 18 → m4 (14, 0, 1) k = m (14, 0, 1) k) → ∀ R M, a_R A m4 R M → ∀ m24 : ch_M, m24 = M → ((R < 0 → ch_oi q (.inl (some (.inl (.int 0)))) m24) ∧ (¬ R < 0 → ch_oi q (.inl (some (.inl (.int 1)))) m24)) := fun m4 h4 e4 e14 R M hR m24 e24 => by
    subst e24
    obtain ⟨k14, hR⟩ := hR
    have f14 : ∀ k, k < 18 → m24 (14, 0, 1) k = m (14, 0, 1) k := fun k hk => (k14 k).trans (e14 k hk)
    rcases hR with ⟨r1, r2⟩ | ⟨r1, r2, r3⟩
    · exact ⟨fun z => absurd z (Int32.not_lt.mpr r1), fun _ => ch_oi_iff.mpr (hq1 m24 (a_S_upY r2 e4) f14)⟩
    · exact ⟨fun _ => ch_oi_iff.mpr (hq0 m24 r2 (y_sm_tr e4 r3) f14), fun z => absurd (Int32.not_lt.mp z) r1⟩
  have hz : ∀ Y : ch_B, y_inv A.1 Y → ¬ Y 0 8 + 1 = (0 : Int32) := fun Y hY => by
    obtain ⟨n, hn, e⟩ := vp_in_of (y_i8 hY) (by decide)
    rw [e, nI_1]
    exact nI_ne0 (by omega) (by omega)
  refine g_l_changes_0 g _ 0 (by omega) _ m ⟨A.1, a_S_inv hA h0, ⟨by decide, by decide⟩, fun M hs1 hw m4 e4 => ?_⟩
  subst e4
  have h4 : a_S A m4 := a_S_same hA hs1 hw
  have e4 : y_sm (ch_ob m 1 0) (ch_ob m4 1 0) := a_same_sm hs1 (by decide)
  have r14 : ∀ {a b : ch_M}, a_same a b → ∀ k, k < 18 → b (14, 0, 1) k = a (14, 0, 1) k := fun h k hk => h 14 0 1 k (by unfold a_sc; omega) (a_rl14 hk)
  have e14 := r14 hs1
  have f4 := fin m4 h4 e4 e14
  rw [l_acR0]
  refine ⟨hz _ hA.1, by decide, ?_⟩
  have c1 : ∀ {P : Prop}, P → (P) := fun h => h
  refine ⟨fun _ => ⟨by decide, A, h4, hT, hT0, f4⟩, fun _ => ⟨by decide, A, h4, hT, hT0, f4⟩, fun _ => ⟨by decide, A, h4, hT, hT0, f4⟩, fun _ => ⟨by decide, A, h4, hT, hT0, f4⟩, fun _ => ⟨by decide, A, h4, hT, hT0, f4⟩,
    fun _ => ⟨by decide, fun _ => fun R _ => ⟨A, h4, hT, hT0, f4⟩, fun _ => ⟨A, h4, hT, hT0, f4⟩⟩,
    fun _ => ⟨by decide, fun _ => fun R _ => ⟨A, h4, hT, hT0, f4⟩, fun _ => ⟨A, h4, hT, hT0, f4⟩⟩,
    fun _ => ⟨by decide, fun _ => fun R _ => ⟨A, h4, hT, hT0, f4⟩, fun _ => ⟨A, h4, hT, hT0, f4⟩⟩,
    fun _ => ⟨by decide, fun _ => fun R _ => ⟨A, h4, hT, hT0, f4⟩, fun _ => ⟨A, h4, hT, hT0, f4⟩⟩,
    fun _ => ⟨A, h4, hT, hT0, f4⟩, fun _ => ⟨A, h4, hT, hT0, f4⟩, fun _ => ⟨A, h4, hT, hT0, f4⟩,
    fun _ => ⟨by decide, A, h4, hT, hT0, f4⟩, fun _ => ⟨by decide, A, h4, hT, hT0, f4⟩, fun _ => ?_, fun _ => hs _ m4 h4 e4 e14, fun _ => hs _ m4 h4 e4 e14, fun _ => ⟨A, h4, hT, hT0, f4⟩⟩
  refine ⟨A.1, a_S_inv h4 h0, ⟨by decide, by decide⟩, fun M hs2 hw2 m5 e5 => ?_⟩
  subst e5
  have h5 : a_S A m5 := a_S_same h4 hs2 hw2
  have e5 : y_sm (ch_ob m 1 0) (ch_ob m5 1 0) := y_sm_tr e4 (a_same_sm hs2 (by decide))
  rw [l_acR0]
  exact ⟨hz _ h4.1, by decide, A, h5, hT, hT0, fin m5 h5 e5 (fun k hk => (r14 hs2 k hk).trans (e14 k hk))⟩
