/-- the fault of a text, from here on, at most so many commands -/
def d_ff (j : Nat) : Nat → ch_M → Int32 × ch_M
  | 0, m => (m (7, 0, 0) 0, m)
  | n + 1, m => if (d_tc m j).1 = true then (if (d_tc m j).2 (7, 0, 0) 0 = (d_tc m j).2 (6, j, 0) 1 then (-1, (d_tc m j).2) else if (d_ts (d_tc m j).2 j 59).1 = true then d_ff j n (d_ts (d_tc m j).2 j 59).2 else ((d_ts (d_tc m j).2 j 59).2 (7, 0, 0) 0, (d_ts (d_tc m j).2 j 59).2)) else ((d_tc m j).2 (7, 0, 0) 0, (d_tc m j).2)
set_option maxHeartbeats 1600000 in
theorem s_d_findFault (g : ch_G) (q : Int32 → ch_M → Prop) (j1 : Nat) (m : ch_M) (h : q ((d_ff j1 60 (ch_os m 7 0 (ch_bw (ch_ob m 7 0) 0 0 0))).1) (((d_ff j1 60 (ch_os m 7 0 (ch_bw (ch_ob m 7 0) 0 0 0))).2))) : ch_C g m_d_findFault [.inr (7, 0, 0), .inr (6, j1, 0), .inr (4, 0, 0)] m (ch_oi q) := by
  refine e_d_findFault g _ j1 m ?_
  have key : ∀ n, n ≤ 60 → ∀ m : ch_M, q (d_ff j1 n m).1 (d_ff j1 n m).2 → ch_J g m_d_findFault (ch_rm m_d_findFault) (ch_E g m_d_findFault (ch_oi q)) 7 [some (.inr (7, 0, 0)), some (.inr (6, j1, 0)), some (.inr (4, 0, 0)), some (.inl (.int (nI (60 - n))))] [] m 0 := by
    intro n
    induction n with
    | zero =>
      intro _ m hq
      refine g_d_findFault_7 g _ _ _ m ?_
      exact ⟨fun _ => ch_oi_iff.mpr hq, fun c => absurd (by decide) c⟩
    | succ n ih =>
      intro hn m hq
      refine g_d_findFault_7 g _ _ _ m ?_
      rw [d_ff] at hq
      have a1 : ¬ (60 : Int32) ≤ nI (60 - (n + 1)) := nI_ge (b := 60) (by omega) (by decide)
      have a4 : nI (60 - (n + 1)) + 1 = nI (60 - n) := by
        rw [nI_1]
        congr 1
        omega
      simp only [ch_oi_iff, forall_eq, a4]
      refine ⟨fun c => absurd c a1, fun _ => ⟨fun c => ?_, fun c => ?_⟩⟩
      · rw [if_pos c] at hq
        refine ⟨fun d => ?_, fun d => ?_⟩
        · rw [if_neg d] at hq
          refine ⟨fun e => ?_, fun e => ?_⟩
          · rw [if_pos e] at hq
            exact ih (by omega) _ hq
          · rw [if_neg e] at hq
            exact hq
        · rw [if_pos d] at hq
          exact hq
      · rw [if_neg c] at hq
        exact hq
  refine g_d_findFault_0 g _ _ _ ?_
  intro m1 e1
  rw [ch_wr_os] at e1
  subst e1
  exact key 60 (Nat.le_refl _) _ h
set_option maxHeartbeats 1600000 in
theorem s_w_lineAt (g : ch_G) (q : Int32 → ch_M → Prop) (j1 : Nat) (p2 : Int32) (p3 : Int32) (m : ch_M) (h : ((ch_line (ch_ob m 1 j1) p2 (p3 - 1)) → q 1 m) ∧ ((¬ ch_line (ch_ob m 1 j1) p2 (p3 - 1)) → q 0 m)) : ch_C g m_w_lineAt [.inr (8, 0, 0), .inr (1, j1, 0), .inl (.int p2), .inl (.int p3)] m (ch_oi q) := by
  refine e_w_lineAt g _ j1 p2 p3 m ?_
  obtain ⟨ha, hb⟩ := h
  refine g_w_lineAt_0 g _ _ _ _ _ ?_
  simp only [ch_oi_iff]
  exact ⟨ha, hb⟩
