def w_z (B : ch_B) : Nat → ch_B
  | 0 => B
  | n + 1 => ch_bw (ch_bw (w_z B n) 1 (12 + n) 0) 2 (12 + n) 0
def w_t1 (B : ch_B) (l : Int32 → Int32) (s t : Nat) : ch_B := w_ty B (l (nI (s + t))) s (s + t) (nI t)
def w_s1 (B : ch_B) (l : Int32 → Int32) (s : Nat) : ch_B := w_t1 (w_t1 (w_t1 (ch_bw B 3 s 0) l s 3) l s 2) l s 1
def w_fl (B : ch_B) (l : Int32 → Int32) : Nat → ch_B
  | 0 => w_z B 3
  | n + 1 => w_s1 (w_fl B l n) l (11 - n)
set_option maxHeartbeats 1600000 in
theorem s_w_fewestBack (g : ch_G) (q : Int32 → ch_M → Prop) (j1 : Nat) (p2 : Int32) (m : ch_M) (h : q (w_fl (ch_ob m 8 0) (w_l (ch_ob m 1 j1) p2) 12 1 0) (ch_os m 8 0 (w_fl (ch_ob m 8 0) (w_l (ch_ob m 1 j1) p2) 12))) : ch_C g m_w_fewestBack [.inr (8, 0, 0), .inr (1, j1, 0), .inl (.int p2)] m (ch_oi q) := by
  refine e_w_fewestBack g _ j1 p2 m ?_
  have lp : ∀ n, n ≤ 12 → ∀ o4, ch_J g m_w_fewestBack (ch_rm m_w_fewestBack) (ch_E g m_w_fewestBack (ch_oi q)) 32 [some (.inr (8, 0, 0)), some (.inr (1, j1, 0)), some (.inl (.int p2)), some (.inl (.int (nI (12 - n) - 1))), o4] [] (ch_os m 8 0 (w_fl (ch_ob m 8 0) (w_l (ch_ob m 1 j1) p2) n)) 0 := by
    refine ch_down (fun n => ∀ o4, ch_J g m_w_fewestBack (ch_rm m_w_fewestBack) (ch_E g m_w_fewestBack (ch_oi q)) 32 [some (.inr (8, 0, 0)), some (.inr (1, j1, 0)), some (.inl (.int p2)), some (.inl (.int (nI (12 - n) - 1))), o4] [] (ch_os m 8 0 (w_fl (ch_ob m 8 0) (w_l (ch_ob m 1 j1) p2) n)) 0) 12 ?_ ?_
    · intro o4
      refine g_w_fewestBack_32 g _ _ _ _ _ _ ?_
      rw [ch_os_at]
      exact ⟨fun _ => ch_oi_iff.mpr h, fun c => absurd (by decide) c⟩
    · intro n hn ih o4
      obtain ⟨b1, b2, b3⟩ : nI (12 - n) - 1 = nI (11 - n) ∧ ¬ nI (11 - n) < 0 ∧ nI (11 - n) + (-1) = nI (12 - (n + 1)) - 1 := by
        obtain rfl | rfl | rfl | rfl | rfl | rfl | rfl | rfl | rfl | rfl | rfl | rfl : n = 0 ∨ n = 1 ∨ n = 2 ∨ n = 3 ∨ n = 4 ∨ n = 5 ∨ n = 6 ∨ n = 7 ∨ n = 8 ∨ n = 9 ∨ n = 10 ∨ n = 11 := by omega
        all_goals decide
      refine g_w_fewestBack_32 g _ _ _ _ _ _ ?_
      rw [b1]
      refine ⟨fun c => absurd c b2, fun _ => ⟨vp_in_nI (by omega) (by decide), fun m2 e2 => ?_⟩⟩
      rw [ch_os_wr, nI_clamp (by omega)] at e2
      subst e2
      have ts : ∀ (B : ch_B) (t : Nat), t = 1 ∨ t = 2 ∨ t = 3 → ch_J g m_w_fewestBack (ch_rm m_w_fewestBack) (ch_E g m_w_fewestBack (ch_oi q)) 46 [some (.inr (8, 0, 0)), some (.inr (1, j1, 0)), some (.inl (.int p2)), some (.inl (.int (nI (11 - n)))), some (.inl (.int (nI (t - 1))))] [] (ch_os m 8 0 (w_t1 B (w_l (ch_ob m 1 j1) p2) (11 - n) t)) 0 → ch_J g m_w_fewestBack (ch_rm m_w_fewestBack) (ch_E g m_w_fewestBack (ch_oi q)) 46 [some (.inr (8, 0, 0)), some (.inr (1, j1, 0)), some (.inl (.int p2)), some (.inl (.int (nI (11 - n)))), some (.inl (.int (nI t)))] [] (ch_os m 8 0 B) 0 := by
        intro B t ht k
        refine g_w_fewestBack_46 g _ _ _ _ _ _ ?_
        obtain ⟨c1, c2⟩ : ¬ nI t < 1 ∧ nI t + (-1) = nI (t - 1) := by
          obtain rfl | rfl | rfl := ht
          all_goals decide
        have c3 : nI (11 - n) + nI t = nI (11 - n + t) := nI_add _ _
        rw [c2]
        refine ⟨fun c => absurd c c1, fun _ => ⟨vp_in_nI (by omega) (by decide), by rw [c3]; exact vp_in_nI (by omega) (by decide), fun m3 e3 => ?_⟩⟩
        rw [c3, nI_clamp (by omega), nI_clamp (by omega), ch_ob_os, ch_os_os, ch_ob_c (by decide)] at e3
        subst e3
        exact k
      refine ts _ 3 (by decide) (ts _ 2 (by decide) (ts _ 1 (by decide) ?_))
      refine g_w_fewestBack_46 g _ _ _ _ _ _ ?_
      rw [b3]
      exact ⟨fun _ => ih _, fun c => absurd (by decide) c⟩
  have l0 : ∀ n, n ≤ 3 → ch_J g m_w_fewestBack (ch_rm m_w_fewestBack) (ch_E g m_w_fewestBack (ch_oi q)) 3 [some (.inr (8, 0, 0)), some (.inr (1, j1, 0)), some (.inl (.int p2)), some (.inl (.int (nI (12 + n)))), none] [] (ch_os m 8 0 (w_z (ch_ob m 8 0) n)) 0 := by
    refine ch_down _ 3 ?_ ?_
    · refine g_w_fewestBack_3 g _ _ _ _ _ _ ?_
      exact ⟨fun _ => lp 0 (by decide) none, fun c => absurd (by decide) c⟩
    · intro n hn ih
      refine g_w_fewestBack_3 g _ _ _ _ _ _ ?_
      rw [nI_clamp (by omega), nI_1]
      refine ⟨fun c => absurd c (nI_ge (b := 15) (by omega) (by decide)), fun _ => ⟨vp_in_nI (by omega) (by decide), fun m2 e2 m3 e3 => ?_⟩⟩
      rw [ch_os_wr] at e2
      subst e2
      rw [ch_os_wr] at e3
      subst e3
      exact ih
  refine g_w_fewestBack_0 g _ _ _ _ ?_
  have h0 := l0 0 (by decide)
  have e0 : ch_os m 8 0 (w_z (ch_ob m 8 0) 0) = m := ch_os_self m 8 0
  rw [e0] at h0
  exact h0
