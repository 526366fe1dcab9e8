/-- the text with so many signs of a string behind it -/
def l_tB (g : ch_G) (j : Nat) (B : ch_B) : Nat → ch_B
  | 0 => B
  | n + 1 => t_putB (l_tB g j B n) (k_ch (ch_tb g j n))
def l_tM (g : ch_G) (m : ch_M) (j : Nat) : ch_M := ch_os m 6 0 (l_tB g j (ch_ob m 6 0) (ch_tn g j))
theorem l_tB_n {g : ch_G} {j : Nat} {B : ch_B} (h : B 0 1 = 0) : ∀ n, n ≤ 60 → l_tB g j B n 0 1 = nI n := by
  intro n
  induction n with
  | zero => exact fun _ => h
  | succ n ih =>
    intro hn
    rw [l_tB]
    unfold t_putB
    rw [ih (by omega), if_neg (show ¬ (60 : Int32) ≤ nI n from nI_ge (b := 60) (by omega) (by decide)), ch_bw_at, nI_1]
theorem l_tB_k {g : ch_G} {j : Nat} {B : ch_B} (h : B 0 1 = 0) {i : Nat} : ∀ n, n ≤ 60 → i < n → l_tB g j B n 1 i = vp_nar .char (k_ch (ch_tb g j i)) := by
  intro n
  induction n with
  | zero => intro _ hi; omega
  | succ n ih =>
    intro hn hi
    rw [l_tB]
    unfold t_putB
    rw [l_tB_n h n (by omega), if_neg (show ¬ (60 : Int32) ≤ nI n from nI_ge (b := 60) (by omega) (by decide)), ch_bw_c (by decide), nI_clamp (by omega)]
    by_cases e : i = n
    · rw [e, ch_bw_at]
    · rw [ch_bw_k e]
      exact ih (by omega) (by omega)
theorem a_S_txt {A : a_G} {m : ch_M} {B : ch_B} {t : Int32} (h : a_S A m) (hB : B 0 1 = t) : a_S (A.1, A.2.1, A.2.2.1, A.2.2.2.1, t) (ch_os m 6 0 B) := by
  have hk : ∀ a j c i, ¬ (a = 6 ∧ j = 0) → ch_os m 6 0 B (a, j, c) i = m (a, j, c) i := fun a j c i a1 => by
    rw [ch_os_ne a1]
  have ho : ∀ j, ch_ob (ch_os m 6 0 B) 1 j = ch_ob m 1 j := fun j => ch_ob_ne (by omega)
  obtain ⟨b1, b2, ⟨⟨b3, n, b4, b5, b6, b7⟩, b8⟩, ⟨b9, b10⟩, b11, b12⟩ := h
  exact ⟨by rw [ho]; exact b1, ⟨by rw [hk 6 1 0 1 (by omega)]; exact b2.1, fun i hi => by rw [hk 6 1 1 i (by omega)]; exact b2.2 i hi⟩, ⟨⟨b3, n, b4, by rw [hk 2 0 0 1 (by omega)]; exact b5, by rw [hk 2 0 0 2 (by omega)]; exact b6, fun k hk' => by rw [ho]; exact b7 k hk'⟩, b8⟩, ⟨by rw [hk 0 0 0 12 (by omega)]; exact b9, fun z => ⟨(b10 z).1, by rw [ho]; exact (b10 z).2⟩⟩, by rw [ch_os_at]; exact hB, by rw [hk 5 0 0 1 (by omega)]; exact b12⟩
set_option maxHeartbeats 1600000 in
theorem s_l_runs (g : ch_G) (q : Int32 → ch_M → Prop) (A_ : a_G) (j1 : Nat) (m : ch_M) (h : (a_S A_ m) ∧ (A_.2.2.2.2 = 0) ∧ (A_.1 + 720 < 2 ^ 31) ∧ (0 < A_.1) ∧ (ch_tn g j1 ≤ 60) ∧ (((x_F (l_tM g m j1)).1 = -1 ∧ ¬ (x_cc (l_tM g m j1)).1 = 0) → (∀ (M_ : ch_M), (a_S (a_up A_ (A_.1 + 720) (ch_ob m 1 0)) M_) → ((0 : Int32) ≤ (x_cc (l_tM g m j1)).1) → (∀ k_, M_ (14, 0, 1) k_ = m (14, 0, 1) k_) → q ((x_cc (l_tM g m j1)).1) (M_))) ∧ ((¬ (x_F (l_tM g m j1)).1 = -1) → (∀ (M_ : ch_M), (a_S A_ M_) → (ch_ob M_ 1 0 = ch_ob m 1 0) → (M_ (0, 0, 0) 13 = (x_F (l_tM g m j1)).1) → (∀ k_, M_ (14, 0, 1) k_ = m (14, 0, 1) k_) → q (-1001) (M_))) ∧ (((x_F (l_tM g m j1)).1 = -1 ∧ (x_cc (l_tM g m j1)).1 = 0) → (∀ (M_ : ch_M), (a_S A_ M_) → (y_sm (ch_ob m 1 0) (ch_ob M_ 1 0)) → (M_ (0, 0, 0) 13 = -1) → (∀ i_, M_ (3, 0, 0) i_ = (x_cc (l_tM g m j1)).2 (3, 0, 0) i_) → (∀ k_, M_ (14, 0, 1) k_ = m (14, 0, 1) k_) → q (-1002) (M_)))) : ch_C g m_l_runs [.inr (0, 0, 0), .inr (12, j1, 0)] m (ch_oi q) := by
  refine e_l_runs g _ j1 m ?_
  obtain ⟨hA, h0, hT, hT0, hl, hq1, hq2, hq3⟩ := h
  have hz : ch_ob m 6 0 0 1 = 0 := hA.2.2.2.2.1.trans h0
  have ez : ∀ (x : Int32), (x = 0) → (A_.1, A_.2.1, A_.2.2.1, A_.2.2.2.1, x) = a_c0 A_ := fun x e => by rw [e]; rfl
  have eA : a_c0 A_ = A_ := by
    have := ez A_.2.2.2.2 h0
    exact this.symm
  have key : ∀ n, n ≤ ch_tn g j1 → ∀ k, k ≤ n → ch_J g m_l_runs (ch_rm m_l_runs) (ch_E g m_l_runs (ch_oi q)) 2 [some (.inr (0, 0, 0)), some (.inr (12, j1, 0)), some (.inl (.int (nI n)))] [] (ch_os m 6 0 (l_tB g j1 (ch_ob m 6 0) n)) k := by
    refine ch_down (fun n => ∀ k, k ≤ n → ch_J g m_l_runs (ch_rm m_l_runs) (ch_E g m_l_runs (ch_oi q)) 2 [some (.inr (0, 0, 0)), some (.inr (12, j1, 0)), some (.inl (.int (nI n)))] [] (ch_os m 6 0 (l_tB g j1 (ch_ob m 6 0) n)) k) (ch_tn g j1) ?_ ?_
    · intro k hk
      have hS := a_S_txt (B := l_tB g j1 (ch_ob m 6 0) (ch_tn g j1)) hA (l_tB_n hz _ hl)
      have e10 : ch_ob (l_tM g m j1) 1 0 = ch_ob m 1 0 := ch_ob_ne (by omega)
      refine g_l_runs_2 g _ k (by omega) j1 _ _ ⟨fun _ => ?_, fun z => absurd (Int32.le_refl _) z⟩
      show ∃ A_4 : a_G, (a_S A_4 (l_tM g m j1)) ∧ _
      refine ⟨_, hS, hT, hT0, fun z M h1 h2 h14 m9 e9 => ?_, fun z M h1 h2 h3 h14 m9 e9 => ?_, fun z M h1 h2 h3 h4 h14 m9 e9 => ?_⟩
      · subst e9
        refine ch_oi_iff.mpr (hq1 z m9 ?_ h2 (fun k => (h14 k).trans (a_14t _ _ k)))
        have e10' : ch_ob (ch_os m 6 0 (l_tB g j1 (ch_ob m 6 0) (ch_tn g j1))) 1 0 = ch_ob m 1 0 := e10
        rw [e10'] at h1
        rw [← eA]
        exact h1
      · subst e9
        refine ch_oi_iff.mpr (hq2 z m9 ?_ (h2.trans e10) h3 (fun k => (h14 k).trans (a_14t _ _ k)))
        rw [← eA]
        exact h1
      · subst e9
        refine ch_oi_iff.mpr (hq3 z m9 ?_ (by rw [← e10]; exact h2) h3 h4 (fun k => (h14 k).trans (a_14t _ _ k)))
        rw [← eA]
        exact h1
    · intro n hn ih k hk
      have en := l_tB_n (g := g) (j := j1) hz n (by omega)
      refine g_l_runs_2 g _ k (by omega) j1 _ _ ⟨fun z => absurd z (nI_ge hn (by omega)), fun _ => ⟨vp_in_nI hn (by omega), by omega, ?_⟩⟩
      rw [ch_os_at, en, nI_clamp (by omega)]
      refine ⟨vp_in_nI (by omega) (by decide), fun _ m20 e20 => ⟨fun _ => ?_, fun z => absurd rfl z⟩, fun z => absurd (nI_lt (b := 60) (by omega) (by decide)) z⟩
      rw [ch_ob_os, ch_os_os] at e20
      subst e20
      rw [nI_1]
      exact ih (k + 1) (by omega)
  refine g_l_runs_0 g _ 0 (by omega) j1 m ?_
  have h9 := key 0 (Nat.zero_le _) 0 (Nat.le_refl _)
  have es : ch_os m 6 0 (l_tB g j1 (ch_ob m 6 0) 0) = m := ch_os_self m 6 0
  rw [es] at h9
  exact h9
