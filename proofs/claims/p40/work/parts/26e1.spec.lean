def d_tn (m : ch_M) (j : Nat) : Bool × ch_M := if (d_tk 4 m j).1 = true then (true, if (d_pd (d_tk 4 m j).2 j).1 = true then ch_os (d_pd (d_tk 4 m j).2 j).2 4 0 (ch_bw (ch_ob (d_pd (d_tk 4 m j).2 j).2 4 0) 0 4 ((d_pd (d_tk 4 m j).2 j).2 (4, 0, 0) 4 * 10 + d_dg (ch_ob (d_tk 4 m j).2 6 j) ((d_tk 4 m j).2 (7, 0, 0) 0))) else (d_pd (d_tk 4 m j).2 j).2) else (false, (d_tk 4 m j).2)
set_option maxHeartbeats 1600000 in
theorem s_d_takeNumber (g : ch_G) (q : Int32 → ch_M → Prop) (j1 : Nat) (m : ch_M) (h : (((d_tn m j1).1 = true) → q 1 (((d_tn m j1).2))) ∧ ((¬ (d_tn m j1).1 = true) → q 0 (((d_tn m j1).2)))) : ch_C g m_d_takeNumber [.inr (7, 0, 0), .inr (6, j1, 0), .inr (4, 0, 0)] m (ch_oi q) := by
  refine e_d_takeNumber g _ j1 m ?_
  obtain ⟨ha, hb⟩ := h
  unfold d_tn at ha hb
  refine g_d_takeNumber_0 g _ _ _ ?_
  simp only [ch_oi_iff, ch_wr_os, forall_eq]
  refine ⟨fun c => ?_, fun c => ?_⟩
  · rw [if_pos c] at ha
    have ha := ha rfl
    refine ⟨fun d => ?_, fun d => ?_⟩
    · dsimp only at ha
      rw [if_pos d] at ha
      exact ha
    · dsimp only at ha
      rw [if_neg d] at ha
      exact ha
  · rw [if_neg c] at hb
    exact hb Bool.false_ne_true
def d_sl (j j2 : Nat) : Nat → ch_M → ch_M
  | 0, m => m
  | n + 1, m => if 1 ≤ d_dg (ch_ob m 6 j) (m (7, 0, 0) 0) ∧ d_dg (ch_ob m 6 j) (m (7, 0, 0) 0) ≤ 3 then d_sl j j2 n (d_nx (ch_os m 5 j2 (s_addB (ch_ob m 5 j2) (d_dg (ch_ob m 6 j) (m (7, 0, 0) 0))))) else m
def d_st (m : ch_M) (j j2 : Nat) : Bool × ch_M := (decide (¬ d_sl j j2 12 (ch_os m 5 j2 (ch_bw (ch_ob m 5 j2) 0 1 0)) (5, j2, 0) 1 ≤ 0), d_sl j j2 12 (ch_os m 5 j2 (ch_bw (ch_ob m 5 j2) 0 1 0)))
set_option maxHeartbeats 1600000 in
theorem s_d_takeSteps (g : ch_G) (q : Int32 → ch_M → Prop) (j1 : Nat) (j2 : Nat) (m : ch_M) (h : (((d_st m j1 j2).1 = true) → q 1 (((d_st m j1 j2).2))) ∧ ((¬ (d_st m j1 j2).1 = true) → q 0 (((d_st m j1 j2).2)))) : ch_C g m_d_takeSteps [.inr (7, 0, 0), .inr (6, j1, 0), .inr (5, j2, 0)] m (ch_oi q) := by
  refine e_d_takeSteps g _ j1 j2 m ?_
  have key : ∀ n, n ≤ 12 → ∀ (m : ch_M) o4, m (5, j2, 0) 1 = nI (12 - n) → ((¬ d_sl j1 j2 n m (5, j2, 0) 1 ≤ 0 → q 1 (d_sl j1 j2 n m)) ∧ (d_sl j1 j2 n m (5, j2, 0) 1 ≤ 0 → q 0 (d_sl j1 j2 n m))) → ch_J g m_d_takeSteps (ch_rm m_d_takeSteps) (ch_E g m_d_takeSteps (ch_oi q)) 7 [some (.inr (7, 0, 0)), some (.inr (6, j1, 0)), some (.inr (5, j2, 0)), some (.inl (.int (nI (12 - n)))), o4] [] m 0 := by
    intro n
    induction n with
    | zero =>
      intro _ m o4 hm hq
      refine g_d_takeSteps_7 g _ _ _ _ _ m ?_
      exact ⟨fun _ => ⟨fun c => ch_oi_iff.mpr (hq.2 c), fun c => ch_oi_iff.mpr (hq.1 c)⟩, fun c => absurd (by decide) c⟩
    | succ n ih =>
      intro hn m o4 hm hq
      refine g_d_takeSteps_7 g _ _ _ _ _ m ?_
      have hs : ∀ c : ¬ (1 ≤ d_dg (ch_ob m 6 j1) (m (7, 0, 0) 0) ∧ d_dg (ch_ob m 6 j1) (m (7, 0, 0) 0) ≤ 3), (m (5, j2, 0) 1 ≤ 0 → ch_oi q (.inl (some (.inl (.int 0)))) m) ∧ (¬ m (5, j2, 0) 1 ≤ 0 → ch_oi q (.inl (some (.inl (.int 1)))) m) := by
        intro c
        rw [d_sl, if_neg c] at hq
        exact ⟨fun d => ch_oi_iff.mpr (hq.2 d), fun d => ch_oi_iff.mpr (hq.1 d)⟩
      obtain ⟨a1, a2, a3, a4⟩ := ch_k12 (show 12 - (n + 1) < 12 by omega)
      have e12 : 12 - (n + 1) + 1 = 12 - n := by omega
      refine ⟨fun c => absurd c a1, fun _ => ⟨fun c => hs (fun z => by grind), fun c => ⟨fun d => ?_, fun d => hs (fun z => d z.2)⟩⟩⟩
      have c2 : 1 ≤ d_dg (ch_ob m 6 j1) (m (7, 0, 0) 0) ∧ d_dg (ch_ob m 6 j1) (m (7, 0, 0) 0) ≤ 3 := ⟨by grind, d⟩
      rw [d_sl, if_pos c2] at hq
      refine ⟨by rw [hm]; exact vp_in_nI (by omega) (by decide), fun m5 e5 m8 e8 => ?_⟩
      have e9 : m8 = d_nx (ch_os m 5 j2 (s_addB (ch_ob m 5 j2) (d_dg (ch_ob m 6 j1) (m (7, 0, 0) 0)))) := by
        rw [e8, ← e5, ch_wr_os]
        rfl
      rw [← e9] at hq
      have e10 : m8 (5, j2, 0) 1 = nI (12 - n) := by
        rw [e9]
        unfold d_nx
        rw [ch_os_ne (fun z => absurd (show (5 : Nat) = 7 from z.1) (by decide)), ch_os_at]
        unfold s_addB
        have e11 : ch_ob m 5 j2 0 1 = nI (12 - (n + 1)) := hm
        rw [e11, if_neg a1, ch_bw_at, a4, e12]
      have := ih (by omega) m8 (some (.inl (.int (d_dg (ch_ob m 6 j1) (m (7, 0, 0) 0))))) e10 hq
      rw [← e12, ← a4] at this
      exact this
  refine g_d_takeSteps_0 g _ _ _ _ ?_
  intro m1 e1
  rw [ch_wr_os] at e1
  subst e1
  refine key 12 (Nat.le_refl _) _ _ (by rw [ch_os_at, ch_bw_at]; rfl) ?_
  unfold d_st at h
  simp only [decide_eq_true_eq] at h
  exact ⟨h.1, fun c => h.2 (fun z => z c)⟩
