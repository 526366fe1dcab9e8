/-- the least of so many cells from a on, at most 12 -/
def w_lm (B : ch_B) (a : Nat) : Nat → Int32
  | 0 => 12
  | n + 1 => if B 1 (a + n) < w_lm B a n then B 1 (a + n) else w_lm B a n
def w_nb (s : Nat) : Nat := (if s < 12 then s else 12) - (s - 3)
def w_fo (B : ch_B) (l : Int32 → Int32) : Nat → ch_B × Int32
  | 0 => (ch_bw B 1 0 0, 12)
  | n + 1 => (ch_bw (w_fo B l n).1 1 (n + 1) (w_lm (w_fo B l n).1 (n + 1 - 3) (w_nb (n + 1)) + l (nI (n + 1))), if n + 1 < 12 then (w_fo B l n).2 else if w_lm (w_fo B l n).1 (n + 1 - 3) (w_nb (n + 1)) + l (nI (n + 1)) < (w_fo B l n).2 then w_lm (w_fo B l n).1 (n + 1 - 3) (w_nb (n + 1)) + l (nI (n + 1)) else (w_fo B l n).2)
set_option maxHeartbeats 1600000 in
theorem s_w_fewestOn (g : ch_G) (q : Int32 → ch_M → Prop) (j1 : Nat) (p2 : Int32) (m : ch_M) (h : q ((w_fo (ch_ob m 8 0) (w_l (ch_ob m 1 j1) p2) 14).2) (ch_os m 8 0 ((w_fo (ch_ob m 8 0) (w_l (ch_ob m 1 j1) p2) 14).1))) : ch_C g m_w_fewestOn [.inr (8, 0, 0), .inr (1, j1, 0), .inl (.int p2)] m (ch_oi q) := by
  refine e_w_fewestOn g _ j1 p2 m ?_
  have key : ∀ n, n ≤ 14 → ∀ o5 o6, ch_J g m_w_fewestOn (ch_rm m_w_fewestOn) (ch_E g m_w_fewestOn (ch_oi q)) 13 [some (.inr (8, 0, 0)), some (.inr (1, j1, 0)), some (.inl (.int p2)), some (.inl (.int (w_fo (ch_ob m 8 0) (w_l (ch_ob m 1 j1) p2) n).2)), some (.inl (.int (nI (n + 1)))), o5, o6] [] (ch_os m 8 0 (w_fo (ch_ob m 8 0) (w_l (ch_ob m 1 j1) p2) n).1) 0 := by
    refine ch_down (fun n => ∀ o5 o6, ch_J g m_w_fewestOn (ch_rm m_w_fewestOn) (ch_E g m_w_fewestOn (ch_oi q)) 13 [some (.inr (8, 0, 0)), some (.inr (1, j1, 0)), some (.inl (.int p2)), some (.inl (.int (w_fo (ch_ob m 8 0) (w_l (ch_ob m 1 j1) p2) n).2)), some (.inl (.int (nI (n + 1)))), o5, o6] [] (ch_os m 8 0 (w_fo (ch_ob m 8 0) (w_l (ch_ob m 1 j1) p2) n).1) 0) 14 ?_ ?_
    · intro o5 o6
      refine g_w_fewestOn_13 g _ _ _ _ _ _ _ _ ?_
      exact ⟨fun _ => ch_oi_iff.mpr h, fun c => absurd (by decide) c⟩
    · intro n hn ih o5 o6
      refine g_w_fewestOn_13 g _ _ _ _ _ _ _ _ ?_
      have f0 : (if nI (n + 1) - 3 < 0 then 0 else nI (n + 1) - 3) = nI (n + 1 - 3) := by
        obtain rfl | rfl | rfl | rfl | rfl | rfl | rfl | rfl | rfl | rfl | rfl | rfl | rfl | rfl : n = 0 ∨ n = 1 ∨ n = 2 ∨ n = 3 ∨ n = 4 ∨ n = 5 ∨ n = 6 ∨ n = 7 ∨ n = 8 ∨ n = 9 ∨ n = 10 ∨ n = 11 ∨ n = 12 ∨ n = 13 := by omega
        all_goals decide
      rw [f0]
      refine ⟨fun c => absurd c (nI_ge (b := 15) (by omega) (by decide)), fun _ => ?_⟩
      have hnb : w_nb (n + 1) = (if n + 1 < 12 then n + 1 else 12) - (n + 1 - 3) := rfl
      simp only [w_fo] at ih
      generalize w_fo (ch_ob m 8 0) (w_l (ch_ob m 1 j1) p2) n = W at ih ⊢
      obtain ⟨B, R⟩ := W
      dsimp only at ih ⊢
      generalize w_nb (n + 1) = nb at ih hnb
      have h12 : n + 1 < 12 ∧ n + 1 - 3 + nb = n + 1 ∨ ¬ n + 1 < 12 ∧ n + 1 - 3 + nb = 12 := by
        by_cases h : n + 1 < 12
        · rw [if_pos h] at hnb
          exact Or.inl ⟨h, by omega⟩
        · rw [if_neg h] at hnb
          exact Or.inr ⟨h, by omega⟩
      have v15 : vp_in (nI (n + 1)) 15 := vp_in_nI (by omega) (by decide)
      have e68 : ∀ x6, ch_J g m_w_fewestOn (ch_rm m_w_fewestOn) (ch_E g m_w_fewestOn (ch_oi q)) 68 [some (.inr (8, 0, 0)), some (.inr (1, j1, 0)), some (.inl (.int p2)), some (.inl (.int R)), some (.inl (.int (nI (n + 1)))), some (.inl (.int (w_lm B (n + 1 - 3) nb))), some (.inl (.int x6))] [] (ch_os m 8 0 B) 0 := by
        intro x6
        have fin : ∀ lv : Int32, lv = w_l (ch_ob m 1 j1) p2 (nI (n + 1)) → ∀ m5 : ch_M, m5 = ch_wr (ch_os m 8 0 B) (8, 0, 1) (n + 1) (w_lm B (n + 1 - 3) nb + lv) → (nI (n + 1) < 12 → ch_J g m_w_fewestOn (ch_rm m_w_fewestOn) (ch_E g m_w_fewestOn (ch_oi q)) 13 [some (.inr (8, 0, 0)), some (.inr (1, j1, 0)), some (.inl (.int p2)), some (.inl (.int R)), some (.inl (.int (nI (n + 1) + 1))), some (.inl (.int (w_lm B (n + 1 - 3) nb))), some (.inl (.int x6))] [] m5 0) ∧ (¬ nI (n + 1) < 12 → ch_J g m_w_fewestOn (ch_rm m_w_fewestOn) (ch_E g m_w_fewestOn (ch_oi q)) 13 [some (.inr (8, 0, 0)), some (.inr (1, j1, 0)), some (.inl (.int p2)), some (.inl (.int (if m5 (8, 0, 1) (n + 1) < R then m5 (8, 0, 1) (n + 1) else R))), some (.inl (.int (nI (n + 1) + 1))), some (.inl (.int (w_lm B (n + 1 - 3) nb))), some (.inl (.int x6))] [] m5 0) := by
          intro lv hl m5 e5
          rw [ch_os_wr] at e5
          have ih := ih (some (.inl (.int (w_lm B (n + 1 - 3) nb)))) (some (.inl (.int x6)))
          rw [← hl, ← e5] at ih
          have r5 : m5 (8, 0, 1) (n + 1) = w_lm B (n + 1 - 3) nb + lv := by rw [e5, ch_os_at, ch_bw_at]
          rw [r5, nI_1]
          refine ⟨fun c => ?_, fun c => ?_⟩
          · have hn2 : n + 1 < 12 := by
              by_cases h : n + 1 < 12
              · exact h
              · have := nI_le (a := 12) (b := n + 1) (by omega) (by omega)
                exact absurd c (by have e : nI 12 = (12 : Int32) := by decide
                                   rw [e] at this
                                   grind)
            rw [if_pos hn2] at ih
            exact ih
          · have hn2 : ¬ n + 1 < 12 := by
              intro h
              refine c ?_
              have := nI_ge (b := 12) h (by decide)
              have e : nI 12 = (12 : Int32) := by decide
              rw [e] at this
              grind
            rw [if_neg hn2] at ih
            exact ih
        refine g_w_fewestOn_68 g _ _ _ _ _ _ _ _ ?_
        rw [ch_ob_c (by decide), nI_clamp (by omega)]
        refine ⟨fun c => ⟨v15, fun m5 e5 => fin 1 (by unfold w_l; rw [if_pos ((ch_lineB_iff _ _ _).mpr c)]) m5 e5⟩, fun c => ⟨v15, fun m5 e5 => fin 0 (by unfold w_l; rw [if_neg (fun z => c ((ch_lineB_iff _ _ _).mp z))]) m5 e5⟩⟩
      have e34 : ∀ k, k ≤ nb → ch_J g m_w_fewestOn (ch_rm m_w_fewestOn) (ch_E g m_w_fewestOn (ch_oi q)) 34 [some (.inr (8, 0, 0)), some (.inr (1, j1, 0)), some (.inl (.int p2)), some (.inl (.int R)), some (.inl (.int (nI (n + 1)))), some (.inl (.int (w_lm B (n + 1 - 3) k))), some (.inl (.int (nI (n + 1 - 3 + k))))] [] (ch_os m 8 0 B) 0 := by
        refine ch_down _ nb ?_ ?_
        · refine g_w_fewestOn_34 g _ _ _ _ _ _ _ _ ?_
          rcases h12 with ⟨_, e⟩ | ⟨_, e⟩
          · rw [e]
            exact ⟨fun _ => e68 _, fun c => absurd (nI_le (Nat.le_refl _) (by omega)) c⟩
          · rw [e]
            exact ⟨fun _ => e68 _, fun _ => ⟨fun _ => e68 _, fun c => absurd (by decide) c⟩⟩
        · intro k hk ih
          refine g_w_fewestOn_34 g _ _ _ _ _ _ _ _ ?_
          rw [ch_os_at, nI_clamp (by omega), nI_1]
          refine ⟨fun c => absurd c (nI_ge (by omega) (by omega)), fun _ => ⟨fun c => absurd c (nI_ge (b := 12) (by omega) (by decide)), fun _ => ⟨vp_in_nI (by omega) (by decide), ih⟩⟩⟩
      exact e34 0 (Nat.zero_le _)
  refine g_w_fewestOn_0 g _ _ _ _ ?_
  intro m1 e1
  rw [ch_wr_os] at e1
  subst e1
  exact key 0 (Nat.zero_le _) none none
