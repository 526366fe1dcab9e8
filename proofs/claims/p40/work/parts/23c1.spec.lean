theorem y_pk_o (Y : ch_B) (c : Int32) (n a i : Nat) (h1 : a ≠ 1) (h2 : a ≠ 2) (h3 : a ≠ 3) (h4 : a = 0 → i ≠ 10) : (y_pk Y c n).1 a i = Y a i := by
  induction n with
  | zero => rfl
  | succ n ih =>
    rw [y_pk]
    split
    · split
      · exact (y_tk_o h1 h2).trans ih
      · dsimp only
        by_cases h : a = 0
        · subst h
          rw [ch_bw_k (h4 rfl), ch_bw_c h3]
          exact ih
        · rw [ch_bw_c h, ch_bw_c h3]
          exact ih
    · exact ih
noncomputable def y_tc (Y : ch_B) : Nat → ch_B × Int32
  | 0 => (Y, 0)
  | n + 1 => ((y_p12 (y_tc Y n).1 (nI n)).1, (y_tc Y n).2 + (y_p12 (y_tc Y n).1 (nI n)).2)
def y_tg (Z : ch_B) : Nat → ch_B
  | 0 => Z
  | n + 1 => if y_tg Z n 0 10 ≤ 0 then y_tg Z n else ch_bw (ch_bw (y_tg Z n) 0 10 (y_tg Z n 0 10 - 1)) 3 n (y_tg Z n 3 n + 1)
theorem y_tc_o (Y : ch_B) (n a i : Nat) (h1 : a ≠ 1) (h2 : a ≠ 2) (h3 : a ≠ 3) (h4 : a = 0 → i ≠ 10) : (y_tc Y n).1 a i = Y a i := by
  induction n with
  | zero => rfl
  | succ n ih =>
    rw [y_tc]
    dsimp only
    rw [y_p12_eq, y_pk_o _ _ _ _ _ h1 h2 h3 h4]
    exact ih
theorem y_tg_o (Y : ch_B) (n a i : Nat) (h3 : a ≠ 3) (h4 : a = 0 → i ≠ 10) : y_tg Y n a i = Y a i := by
  induction n with
  | zero => rfl
  | succ n ih =>
    rw [y_tg]
    split
    · exact ih
    · by_cases h : a = 0
      · subst h
        rw [ch_bw_c h3, ch_bw_k (h4 rfl)]
        exact ih
      · rw [ch_bw_c h3, ch_bw_c h]
        exact ih
theorem y_tg_s (Z : ch_B) (k n : Nat) (h : k ≤ n) (h0 : y_tg Z k 0 10 ≤ 0) : y_tg Z n = y_tg Z k := by
  induction n with
  | zero => rw [show k = 0 by omega]
  | succ n ih =>
    by_cases e : k = n + 1
    · rw [e]
    · have ih := ih (by omega)
      rw [y_tg, ih, if_pos h0]
noncomputable def y_tZ (Y : ch_B) : ch_B := y_tg (y_tc Y (Y 0 8).toNatClampNeg).1 (Y 0 8).toNatClampNeg
noncomputable def y_termR (Y : ch_B) : Int32 := (y_tc Y (Y 0 8).toNatClampNeg).2
noncomputable def y_termB (Y : ch_B) : ch_B := ch_bw (ch_bw (y_tZ Y) 0 15 (Y 0 15 + y_termR Y)) 0 16 (Y 0 16 + 1)
set_option maxHeartbeats 1600000 in
theorem s_y_endTerm (g : ch_G) (q : Int32 → ch_M → Prop) (j : Nat) (m : ch_M) (h : (vp_in (m (1, j, 0) 8) 6) ∧ q (y_termR (ch_ob m 1 j)) (ch_os m 1 j (y_termB (ch_ob m 1 j)))) : ch_C g m_y_endTerm [.inr (1, j, 0)] m (ch_oi q) := by
  refine e_y_endTerm g _ j m ?_
  obtain ⟨h2, hq⟩ := h
  obtain ⟨n, hn, he⟩ := vp_in_of h2 (by decide)
  have e3 : (ch_ob m 1 j 0 8).toNatClampNeg = n := by
    show (m (1, j, 0) 8).toNatClampNeg = n
    rw [he, nI_clamp (by omega)]
  have w : ∀ k a i, a ≠ 1 → a ≠ 2 → a ≠ 3 → (a = 0 → i ≠ 10) → (y_tc (ch_ob m 1 j) k).1 a i = m (1, j, a) i := fun k a i x y z t => y_tc_o _ _ _ _ x y z t
  have v : ∀ k a i, a ≠ 1 → a ≠ 2 → a ≠ 3 → (a = 0 → i ≠ 10) → y_tg (y_tc (ch_ob m 1 j) n).1 k a i = m (1, j, a) i := fun k a i x y z t => (y_tg_o _ _ _ _ z t).trans (w n a i x y z t)
  have fin : ∀ m1 m2, m1 = ch_wr (ch_os m 1 j (y_tg (y_tc (ch_ob m 1 j) n).1 n)) (1, j, 0) 15 (m (1, j, 0) 15 + (y_tc (ch_ob m 1 j) n).2) → m2 = ch_wr m1 (1, j, 0) 16 (m1 (1, j, 0) 16 + 1) → ch_oi q (.inl (some (.inl (.int (y_tc (ch_ob m 1 j) n).2)))) m2 := by
    intro m1 m2 e1 e2
    rw [ch_os_wr] at e1
    subst e1
    rw [ch_os_wr, ch_os_at, ch_bw_k (show (16 : Nat) ≠ 15 by decide), v n 0 16 (by decide) (by decide) (by decide) (by decide)] at e2
    subst e2
    unfold y_termR y_termB y_termR y_tZ at hq
    rw [e3] at hq
    exact ch_oi_iff.mpr hq
  have key2 : ∀ k, k ≤ n → ch_J g m_y_endTerm (ch_rm m_y_endTerm) (ch_E g m_y_endTerm (ch_oi q)) 28 [some (.inr (1, j, 0)), some (.inl (.int (y_tc (ch_ob m 1 j) n).2)), some (.inl (.int (nI k)))] [] (ch_os m 1 j (y_tg (y_tc (ch_ob m 1 j) n).1 k)) 0 := by
    refine ch_down (fun k => ch_J g m_y_endTerm (ch_rm m_y_endTerm) (ch_E g m_y_endTerm (ch_oi q)) 28 [some (.inr (1, j, 0)), some (.inl (.int (y_tc (ch_ob m 1 j) n).2)), some (.inl (.int (nI k)))] [] (ch_os m 1 j (y_tg (y_tc (ch_ob m 1 j) n).1 k)) 0) n ?_ ?_
    · refine g_y_endTerm_28 g _ j _ _ _ ?_
      simp only [ch_os_at, v n 0 8 (by decide) (by decide) (by decide) (by decide), v n 0 15 (by decide) (by decide) (by decide) (by decide)]
      exact ⟨fun _ m1 e1 m2 e2 => fin m1 m2 e1 e2, fun c => absurd (by rw [he]; exact nI_le (Nat.le_refl n) (by omega)) c⟩
    · intro k hk ih
      obtain ⟨a1, a2, a3, a4⟩ := ch_kn hk (by omega)
      refine g_y_endTerm_28 g _ j _ _ _ ?_
      simp only [a3, a4, ch_os_at, v k 0 8 (by decide) (by decide) (by decide) (by decide), v k 0 15 (by decide) (by decide) (by decide) (by decide)]
      rw [he]
      refine ⟨fun c => absurd c a1, fun _ => ⟨fun c m1 e1 m2 e2 => ?_, fun c m1 e1 => ⟨vp_in_nI (by omega) (by decide), fun m2 e2 => ?_⟩⟩⟩
      · rw [← y_tg_s (y_tc (ch_ob m 1 j) n).1 k n (by omega) c] at e1
        exact fin m1 m2 e1 e2
      · rw [ch_os_wr] at e1
        subst e1
        rw [ch_os_wr, ch_os_at, ch_bw_c (show (3 : Nat) ≠ 0 by decide)] at e2
        subst e2
        rw [y_tg, if_neg c] at ih
        exact ih
  have key1 : ∀ k, k ≤ n → ch_J g m_y_endTerm (ch_rm m_y_endTerm) (ch_E g m_y_endTerm (ch_oi q)) 4 [some (.inr (1, j, 0)), some (.inl (.int (y_tc (ch_ob m 1 j) k).2)), some (.inl (.int (nI k)))] [] (ch_os m 1 j (y_tc (ch_ob m 1 j) k).1) 0 := by
    refine ch_down (fun k => ch_J g m_y_endTerm (ch_rm m_y_endTerm) (ch_E g m_y_endTerm (ch_oi q)) 4 [some (.inr (1, j, 0)), some (.inl (.int (y_tc (ch_ob m 1 j) k).2)), some (.inl (.int (nI k)))] [] (ch_os m 1 j (y_tc (ch_ob m 1 j) k).1) 0) n ?_ ?_
    · refine g_y_endTerm_4 g _ j _ _ _ ?_
      simp only [ch_os_at, w n 0 8 (by decide) (by decide) (by decide) (by decide)]
      exact ⟨fun _ => key2 0 (Nat.zero_le n), fun c => absurd (by rw [he]; exact nI_le (Nat.le_refl n) (by omega)) c⟩
    · intro k hk ih
      obtain ⟨a1, a2, a3, a4⟩ := ch_kn hk (by omega)
      refine g_y_endTerm_4 g _ j _ _ _ ?_
      simp only [a4, ch_os_at, ch_ob_os, ch_os_os, w k 0 8 (by decide) (by decide) (by decide) (by decide)]
      rw [he]
      refine ⟨fun c => absurd c a1, fun _ => ⟨vp_in_nI (by omega) (by decide), fun m2 e2 => ?_⟩⟩
      subst e2
      exact ih
  refine g_y_endTerm_0 g _ _ _ ?_
  have h0 := key1 0 (Nat.zero_le n)
  have e0 : ch_os m 1 j (y_tc (ch_ob m 1 j) 0).1 = m := ch_os_self m 1 j
  rw [e0] at h0
  exact h0
