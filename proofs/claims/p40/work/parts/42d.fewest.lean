theorem e_f11 : w_fl z_B (w_l (y_can (e_Y 5 11)) 1) 12 1 0 = 3 := by decide +kernel
theorem e_f12 : w_fl z_B (w_l (y_can (e_Y 5 12)) 1) 12 1 0 = 4 ∧ w_fl z_B (w_l (y_can (e_Y 5 12)) 0) 12 1 0 = 0 := by decide +kernel
theorem e_s12 : V_st (y_can (e_Y 5 12)) 1 0 = 3 ∧ V_st (y_can (e_Y 5 12)) 1 3 = 3 ∧ V_st (y_can (e_Y 5 12)) 1 4 = -1002 := by decide +kernel
section FIRST
variable {g : ch_G} {R : Room} {E : ch_En}
abbrev e_L (o2 o3 o4 o5 o6 o7 o8 o9 o10 : Option ch_V) : ch_LT := [some (.inr (11, 0, 0)), some (.inr (0, 0, 0)), o2, o3, o4, o5, o6, o7, o8, o9, o10]
theorem e_S_le {n : Nat} (h : n ≤ 5) : e_S n = e_Y n 0 := if_pos h
theorem e_S_5 (j : Nat) : e_S (5 + j) = e_Y 5 j := by
  unfold e_S
  by_cases h : j = 0
  · subst h
    rfl
  · rw [if_neg (by omega), show 5 + j - 5 = j by omega]
variable {o3 o4 o5 o6 o7 o8 o9 o10 : Option ch_V}
theorem e_467 (hR : ch_RR R 18) (hC : 120000 ≤ R.cells ∧ 720000 ≤ R.slots) (nx : ∀ m k o2, k ≤ 40000 → ch_J g m_l_law R E 479 (e_L o2 o3 o4 o5 o6 o7 o8 o9 o10) [] m k) {A : a_G} {Y : ch_B} {Q : Int32 × Int32 × Int32} (x2 : Int32) (m : ch_M) (k : Nat) (h0 : A.2.1 = 0) (hW : a_W A Y Q m) (hk : k ≤ 30000) : ch_J g m_l_law R E 467 (e_L (some (.inl (.int x2))) o3 o4 o5 o6 o7 o8 o9 o10) [] m k :=
  g_l_law_467 g R E k hR hC (by omega) _ _ _ _ _ _ _ _ _ m ⟨A, Y, _, hW, h0, nx _ _ _ (by omega)⟩
theorem e_436 (hR : ch_RR R 18) (hC : 120000 ≤ R.cells ∧ 720000 ≤ R.slots) (nx : ∀ m k o2, k ≤ 40000 → ch_J g m_l_law R E 479 (e_L o2 o3 o4 o5 o6 o7 o8 o9 o10) [] m k) {T n c : Nat} {Y : ch_B} {Q : Int32 × Int32 × Int32} (x2 : Int32) (m : ch_M) (k : Nat) (hW : a_W (e_D T n c) Y Q m) (hk : k ≤ 29000) : ch_J g m_l_law R E 436 (e_L (some (.inl (.int x2))) o3 o4 o5 o6 o7 o8 o9 o10) [] m k := by
  obtain ⟨q0, q3, q2⟩ := e_a0
  refine g_l_law_436 g R E k hR hC (by omega) _ _ _ _ _ _ _ _ _ m ⟨_, _, _, hW, (show ¬ (1 : Int32) = 0 by decide), fun M1 h1 _ m1 e1 => ?_⟩
  subst e1
  have h1 : a_W (a_re (e_D T n c)) (e_Y 0 0) _ m1 := h1
  refine ⟨fun z => absurd (show e_Y 0 0 0 8 = 0 from rfl) z, fun _ => ?_⟩
  refine ⟨_, _, _, h1, ⟨by decide, by decide⟩, fun M2 h2 m2 e2 => ?_⟩
  subst e2
  refine ⟨fun z => absurd q0 z, fun _ => ?_⟩
  refine ⟨_, _, _, h2, ⟨by decide, by decide⟩, fun M3 h3 m3 e3 => ?_⟩
  subst e3
  refine ⟨fun z => absurd q3 z, fun _ => ?_⟩
  refine ⟨_, _, _, h3, ⟨by decide, by decide⟩, fun M4 h4 m4 e4 => ?_⟩
  subst e4
  refine ⟨fun z => absurd q2 z, fun _ => ?_⟩
  exact e_467 hR hC nx _ m4 _ rfl h4 (by omega)
theorem e_un {T n c : Nat} {Y : ch_B} {Q : Int32 × Int32 × Int32} {m : ch_M} (h : a_W (a_dn (e_D T n c)) ((e_D T n c).2.2.1 0) Q m) : a_W (e_D T (n - 1) (c - 1)) (e_S (n - 1)) Q m := by
  rw [e_D_dn] at h
  exact h
theorem e_404 (hR : ch_RR R 18) (hC : 120000 ≤ R.cells ∧ 720000 ≤ R.slots) (nx : ∀ m k o2, k ≤ 40000 → ch_J g m_l_law R E 479 (e_L o2 o3 o4 o5 o6 o7 o8 o9 o10) [] m k) {T : Nat} {Q : Int32 × Int32 × Int32} (x2 : Int32) (m : ch_M) (k : Nat) (hW : a_W (e_D T 9 0) (e_S 9) Q m) (hk : k ≤ 28000) : ch_J g m_l_law R E 404 (e_L (some (.inl (.int x2))) o3 o4 o5 o6 o7 o8 o9 o10) [] m k := by
  obtain ⟨-, -, q4, q5⟩ := e_a3
  have hW : a_W (e_D T 9 0) (e_Y 5 4) Q m := hW
  refine g_l_law_404 g R E k hR hC (by omega) _ _ _ _ _ _ _ _ _ m ⟨_, _, _, hW, ⟨by decide, by decide⟩, fun M1 h1 m1 e1 => ?_⟩
  subst e1
  refine ⟨fun z => absurd q4 z, fun _ => ?_⟩
  refine ⟨_, _, _, h1, ⟨by decide, by decide⟩, ⟨by decide, by decide⟩, fun M2 h2 m2 e2 => ?_⟩
  subst e2
  refine ⟨fun z => absurd q5 z, fun _ => ?_⟩
  exact ⟨_, _, _, h2, rfl, e_436 hR hC nx _ m2 _ h2 (by omega)⟩
theorem e_389 (hR : ch_RR R 18) (hC : 120000 ≤ R.cells ∧ 720000 ≤ R.slots) (nx : ∀ m k o2, k ≤ 40000 → ch_J g m_l_law R E 479 (e_L o2 o3 o4 o5 o6 o7 o8 o9 o10) [] m k) {T : Nat} {Q : Int32 × Int32 × Int32} (x2 : Int32) (m : ch_M) (k : Nat) (hW : a_W (e_D T 11 2) (e_S 11) Q m) (hk : k ≤ 27000) : ch_J g m_l_law R E 389 (e_L (some (.inl (.int x2))) o3 o4 o5 o6 o7 o8 o9 o10) [] m k := by
  refine g_l_law_389 g R E k hR hC (by omega) _ _ _ _ _ _ _ _ _ m ⟨_, _, _, hW, (show ¬ (2 : Nat) = 0 by decide), fun M1 h1 _ m1 e1 => ?_⟩
  subst e1
  have h1 := e_un (Y := e_S 0) h1
  refine ⟨fun z => absurd (show nI 1 = 1 from rfl) z, fun _ => ?_⟩
  refine ⟨_, _, _, h1, (show ¬ (1 : Nat) = 0 by decide), fun M2 h2 _ m2 e2 => ?_⟩
  subst e2
  have h2 := e_un (Y := e_S 0) h2
  refine ⟨fun z => absurd (show nI 0 = 0 from rfl) z, fun _ => ?_⟩
  exact e_404 hR hC nx _ m2 _ h2 (by omega)
theorem e_347 (hR : ch_RR R 18) (hC : 120000 ≤ R.cells ∧ 720000 ≤ R.slots) (nx : ∀ m k o2, k ≤ 40000 → ch_J g m_l_law R E 479 (e_L o2 o3 o4 o5 o6 o7 o8 o9 o10) [] m k) {T : Nat} {Q : Int32 × Int32 × Int32} (x2 : Int32) (m : ch_M) (k : Nat) (hW : a_W (e_D T 15 6) (e_S 15) Q m) (hk : k ≤ 26000) : ch_J g m_l_law R E 347 (e_L (some (.inl (.int x2))) o3 o4 o5 o6 o7 o8 o9 o10) [] m k := by
  obtain ⟨-, q9, -, -⟩ := e_a3
  refine g_l_law_347 g R E k hR hC (by omega) _ _ _ _ _ _ _ _ _ m ⟨_, _, _, hW, (show ¬ (6 : Nat) = 0 by decide), fun M1 h1 _ m1 e1 => ?_⟩
  subst e1
  have h1 := e_un (Y := e_S 0) h1
  refine ⟨fun z => absurd (show nI 5 = 5 from rfl) z, fun _ => ?_⟩
  have h1' : a_W (e_D T 14 5) (e_Y 5 9) _ m1 := h1
  refine ⟨_, _, _, h1', ⟨by decide, by decide⟩, fun M0 h0 m0 e0 => ?_⟩
  subst e0
  refine ⟨fun z => absurd q9 z, fun _ => ?_⟩
  refine ⟨_, _, _, h0, (show ¬ (5 : Nat) = 0 by decide), fun M2 h2 _ m2 e2 => ?_⟩
  subst e2
  have h2 := e_un (Y := e_S 0) h2
  refine ⟨fun z => absurd (show nI 4 = 4 from rfl) z, fun _ => ?_⟩
  refine ⟨_, _, _, h2, (show ¬ (4 : Nat) = 0 by decide), fun M3 h3 _ m3 e3 => ?_⟩
  subst e3
  have h3 := e_un (Y := e_S 0) h3
  refine ⟨fun z => absurd (show nI 3 = 3 from rfl) z, fun _ => ?_⟩
  refine ⟨_, _, _, h3, (show ¬ (3 : Nat) = 0 by decide), fun M4 h4 _ m4 e4 => ?_⟩
  subst e4
  have h4 := e_un (Y := e_S 0) h4
  refine ⟨fun z => absurd (show nI 2 = 2 from rfl) z, fun _ => ?_⟩
  exact e_389 hR hC nx _ m4 _ h4 (by omega)
theorem e_310 (hR : ch_RR R 18) (hC : 120000 ≤ R.cells ∧ 720000 ≤ R.slots) (nx : ∀ m k o2, k ≤ 40000 → ch_J g m_l_law R E 479 (e_L o2 o3 o4 o5 o6 o7 o8 o9 o10) [] m k) {T : Nat} {Q : Int32 × Int32 × Int32} (x2 : Int32) (m : ch_M) (k : Nat) (hW : a_W (e_D T 17 8) (e_S 17) Q m) (hk : k ≤ 25000) : ch_J g m_l_law R E 310 (e_L (some (.inl (.int x2))) o3 o4 o5 o6 o7 o8 o9 o10) [] m k := by
  obtain ⟨q11, -, -, -⟩ := e_a3
  refine g_l_law_310 g R E k hR hC (by omega) _ _ _ _ _ _ _ _ _ m ⟨_, _, _, hW, (show ¬ (8 : Nat) = 0 by decide), fun M1 h1 _ m1 e1 => ?_⟩
  subst e1
  have h1 := e_un (Y := e_S 0) h1
  have h1' : a_W (e_D T 16 7) (e_Y 5 11) _ m1 := h1
  refine ⟨fun z => absurd (show nI 7 = 7 from rfl) z, fun _ => ?_⟩
  refine ⟨_, _, _, h1', ⟨by decide, by decide⟩, fun M0 h0 m0 e0 => ?_⟩
  subst e0
  refine ⟨fun z => absurd q11 z, fun _ => ?_⟩
  refine ⟨_, _, _, h0, ⟨by decide, by decide⟩, fun M5 h5 m5 e5 => ?_⟩
  subst e5
  refine ⟨fun z => absurd e_f11 z, fun _ => ?_⟩
  refine ⟨_, _, _, h5, (show ¬ (7 : Nat) = 0 by decide), fun M2 h2 _ m2 e2 => ?_⟩
  subst e2
  have h2 := e_un (Y := e_S 0) h2
  refine ⟨fun z => absurd (show nI 6 = 6 from rfl) z, fun _ => ?_⟩
  exact e_347 hR hC nx _ m2 _ h2 (by omega)
theorem e_251 (hR : ch_RR R 18) (hC : 120000 ≤ R.cells ∧ 720000 ≤ R.slots) (nx : ∀ m k o2, k ≤ 40000 → ch_J g m_l_law R E 479 (e_L o2 o3 o4 o5 o6 o7 o8 o9 o10) [] m k) {T : Nat} {Q : Int32 × Int32 × Int32} (x2 : Int32) (m : ch_M) (k : Nat) (hW : a_W (e_D T 17 8) (e_Y 5 12) Q m) (hk : k ≤ 24000) : ch_J g m_l_law R E 251 (e_L (some (.inl (.int x2))) o3 o4 o5 o6 o7 o8 o9 o10) [] m k := by
  obtain ⟨s0, s3, s4⟩ := e_s12
  obtain ⟨-, l12, g0⟩ := e_q12
  refine g_l_law_251 g R E k hR hC (by omega) _ _ _ _ _ _ _ _ _ m ⟨_, _, _, hW, ⟨by decide, by decide⟩, fun M1 h1 m1 e1 => ?_⟩
  subst e1
  refine ⟨fun z => absurd s0 z, fun _ => ?_⟩
  refine ⟨_, _, _, h1, ⟨by decide, by decide⟩, fun M2 h2 m2 e2 => ?_⟩
  subst e2
  refine ⟨fun z => absurd s3 z, fun _ => ?_⟩
  refine ⟨_, _, _, h2, ⟨by decide, by decide⟩, fun M3 h3 m3 e3 => ?_⟩
  subst e3
  refine ⟨fun z => absurd s4 z, fun _ => ?_⟩
  refine ⟨_, _, _, h3, ⟨by decide, by decide⟩, fun M4 h4 m4 e4 => ?_⟩
  subst e4
  refine ⟨fun z => absurd e_f12.2 z, fun _ => ?_⟩
  refine ⟨_, _, _, h4, ⟨by decide, by decide⟩, fun M5 h5 m5 e5 => ?_⟩
  subst e5
  refine ⟨fun z => absurd l12 z, fun _ => ?_⟩
  refine ⟨_, _, _, h5, fun M6 h6 m6 e6 => ?_⟩
  subst e6
  exact ⟨fun _ => e_310 hR hC nx _ m6 _ h6 (by omega), fun z => absurd g0 z⟩
theorem e_220 (hR : ch_RR R 18) (hC : 120000 ≤ R.cells ∧ 720000 ≤ R.slots) (nx : ∀ m k o2, k ≤ 40000 → ch_J g m_l_law R E 479 (e_L o2 o3 o4 o5 o6 o7 o8 o9 o10) [] m k) {T : Nat} {Q : Int32 × Int32 × Int32} (x2 : Int32) (m : ch_M) (k : Nat) (hW : a_W (e_D T 17 8) (e_Y 5 12) Q m) (hk : k ≤ 23000) : ch_J g m_l_law R E 220 (e_L (some (.inl (.int x2))) o3 o4 o5 o6 o7 o8 o9 o10) [] m k := by
  obtain ⟨q87, -, -⟩ := e_q12
  refine g_l_law_220 g R E k hR hC (by omega) _ _ _ _ _ _ _ _ _ m ⟨_, _, _, hW, rfl, fun z => absurd (show nI 8 = 8 from rfl) z, fun _ => ?_⟩
  refine ⟨_, _, _, hW, ⟨by decide, by decide⟩, ⟨by decide, by decide⟩, fun M1 h1 m1 e1 => ?_⟩
  subst e1
  refine ⟨fun z => absurd q87 z, fun _ => ?_⟩
  refine ⟨_, _, _, h1, ⟨by decide, by decide⟩, fun M2 h2 m2 e2 => ?_⟩
  subst e2
  exact ⟨fun z => absurd e_f12.1 z, fun _ => e_251 hR hC nx _ m2 _ h2 (by omega)⟩
end FIRST
