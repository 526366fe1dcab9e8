theorem y_termB_8 (Y : ch_B) : y_termB Y 0 8 = Y 0 8 := by
  unfold y_termB y_tZ
  rw [ch_bw_k (by decide), ch_bw_k (by decide), y_tg_o _ _ _ _ (by decide) (by decide), y_tc_o _ _ _ _ (by decide) (by decide) (by decide) (by decide)]
noncomputable def x_tt (c : Int32) : Nat → Int32 → ch_B → Int32 × ch_B
  | 0, _, Z => (0, Z)
  | n + 1, t, Z => if ch_cnO (Z 1) c 12 ≤ ch_cnO (y_termB Z 1) c 12 then x_tt c n (t + 1) (y_termB Z) else (t, y_termB Z)
set_option maxHeartbeats 1600000 in
theorem s_x_termsFor (g : ch_G) (q : Int32 → ch_M → Prop) (x : Nat → ch_M → Prop) (p1 : Int32) (m : ch_M) (h : (vp_in (m (1, 0, 0) 8) 6) ∧ (((0 ≤ p1 ∧ p1 < m (1, 0, 0) 8) ∧ ¬ (x_tt p1 40 1 (y_cp (ch_ob m 1 0) (ch_ob m 1 2))).1 = 0) → q ((x_tt p1 40 1 (y_cp (ch_ob m 1 0) (ch_ob m 1 2))).1) (ch_os m 1 2 ((x_tt p1 40 1 (y_cp (ch_ob m 1 0) (ch_ob m 1 2))).2))) ∧ ((¬ (0 ≤ p1 ∧ p1 < m (1, 0, 0) 8)) → x 1 m) ∧ (((0 ≤ p1 ∧ p1 < m (1, 0, 0) 8) ∧ (x_tt p1 40 1 (y_cp (ch_ob m 1 0) (ch_ob m 1 2))).1 = 0) → x 3 (ch_os m 1 2 ((x_tt p1 40 1 (y_cp (ch_ob m 1 0) (ch_ob m 1 2))).2)))) : ch_C g m_x_termsFor [.inr (0, 0, 0), .inl (.int p1)] m (ch_ox (ch_oi q) x) := by
  refine e_x_termsFor g _ p1 m ?_
  obtain ⟨h1, ha, hb, hc⟩ := h
  generalize hX : x_tt p1 40 1 (y_cp (ch_ob m 1 0) (ch_ob m 1 2)) = X at ha hc
  have key : (0 ≤ p1 ∧ p1 < m (1, 0, 0) 8) → ∀ n, n ≤ 40 → ∀ (Z : ch_B) o3, vp_in (Z 0 8) 6 → X = x_tt p1 n (nI (41 - n)) Z → ch_J g m_x_termsFor (ch_rm m_x_termsFor) (ch_E g m_x_termsFor (ch_ox (ch_oi q) x)) 18 [some (.inr (0, 0, 0)), some (.inl (.int p1)), some (.inl (.int (nI (41 - n)))), o3] [] (ch_os m 1 2 Z) 1 := by
    intro hch n
    induction n with
    | zero =>
      intro _ Z o3 hZ he
      refine g_x_termsFor_18 g _ _ _ _ _ ?_
      have e0 : x_tt p1 0 (nI (41 - 0)) Z = (0, Z) := rfl
      rw [he, e0] at hc
      exact ⟨fun _ => ch_ox_oi.mpr ⟨by decide, hc ⟨hch, rfl⟩⟩, fun c => absurd (by decide) c⟩
    | succ n ih =>
      intro hn Z o3 hZ he
      refine g_x_termsFor_18 g _ _ _ _ _ ?_
      have a1 : ¬ (40 : Int32) < nI (41 - (n + 1)) := by
        have : nI (41 - (n + 1)) ≤ nI 40 := nI_le (by omega) (by decide)
        have e : nI 40 = (40 : Int32) := by decide
        grind
      have a4 : nI (41 - (n + 1)) + 1 = nI (41 - n) := by
        rw [nI_1]
        congr 1
        omega
      have a5 : ¬ nI (41 - (n + 1)) = 0 := by
        intro z
        have : ¬ nI (41 - (n + 1)) ≤ nI 0 := nI_ge (by omega) (by omega)
        have e : nI 0 = (0 : Int32) := by decide
        grind
      rw [x_tt] at he
      have r1 : ∀ B : ch_B, ch_os m 1 2 B (1, 2, 1) = B 1 := fun B => by funext k; exact ch_os_at _ _ _ _ _ _
      simp only [forall_eq, ch_os_at, ch_ob_os, ch_os_os, r1, a4]
      refine ⟨fun c => absurd c a1, fun _ => ⟨hZ, fun c => ?_, fun c => ?_⟩⟩
      · rw [if_pos c, a4] at he
        exact ih (by omega) _ _ (by rw [y_termB_8]; exact hZ) he
      · rw [if_neg c] at he
        rw [he] at ha
        exact ch_ox_l.mpr (ch_oi_iff.mpr (ha ⟨hch, a5⟩))
  refine g_x_termsFor_0 g _ _ _ ?_
  simp only [forall_eq, ch_ox_oi]
  exact ⟨fun c => key c 40 (Nat.le_refl _) _ none (by rw [y_cp_f _ _ (by decide) (by decide)]; exact h1) hX.symm, fun c => ⟨by decide, hb c⟩⟩
def x_p0 (m : ch_M) : ch_M := ch_os m 7 0 (ch_bw (ch_ob m 7 0) 0 0 0)
/-- behind a command that was carried out -/
noncomputable def x_nM (m : ch_M) : ch_M := (d_ts (ch_os m 1 0 (x_C m).2) 0 59).2
noncomputable def x_ct : Nat → Int32 → ch_M → Int32 × ch_M
  | 0, k, m => (k, m)
  | n + 1, k, m => if (d_tc m 0).1 = true then (if (x_R (d_tc m 0).2).1 = 0 then x_ct n (k + 1) (x_nM (d_tc m 0).2) else (0, ch_wr (r_kp (d_tc m 0).2 (x_R (d_tc m 0).2).1 (x_R (d_tc m 0).2).2) (3, 0, 0) 2 k)) else (k, (d_tc m 0).2)
def x_ok : Nat → ch_M → Prop
  | 0, _ => True
  | n + 1, m => (d_tc m 0).1 = true → vp_in ((d_tc m 0).2 (1, 0, 0) 8) 6 ∧ vp_in ((d_tc m 0).2 (5, 0, 0) 1) 13 ∧ ((x_R (d_tc m 0).2).1 = 0 → y_carP (ch_ob (d_tc m 0).2 1 0) (ch_ob (d_tc m 0).2 4 0) ((d_tc m 0).2 (5, 0, 0) 1) ∧ x_ok n (x_nM (d_tc m 0).2))
set_option maxHeartbeats 1600000 in
theorem s_x_carryOutText (g : ch_G) (q : Int32 → ch_M → Prop)  (m : ch_M) (h : (x_ok 60 (x_p0 m)) ∧ q ((x_ct 60 0 (x_p0 m)).1) (((x_ct 60 0 (x_p0 m)).2))) : ch_C g m_x_carryOutText [.inr (0, 0, 0)] m (ch_oi q) := by
  refine e_x_carryOutText g _  m ?_
  have key : ∀ n, n ≤ 60 → ∀ m : ch_M, x_ok n m → q (x_ct n (nI (60 - n)) m).1 (x_ct n (nI (60 - n)) m).2 → ch_J g m_x_carryOutText (ch_rm m_x_carryOutText) (ch_E g m_x_carryOutText (ch_oi q)) 10 [some (.inr (0, 0, 0)), some (.inl (.int (nI (60 - n))))] [] m 0 := by
    intro n
    induction n with
    | zero =>
      intro _ m _ hq
      refine g_x_carryOutText_10 g _ _ m ?_
      exact ⟨fun _ => ch_oi_iff.mpr hq, fun c => absurd (by decide) c⟩
    | succ n ih =>
      intro hn m ok hq
      refine g_x_carryOutText_10 g _ _ m ?_
      rw [x_ct] at hq
      have a1 : ¬ (60 : Int32) ≤ nI (60 - (n + 1)) := nI_ge (b := 60) (by omega) (by decide)
      have a4 : nI (60 - (n + 1)) + 1 = nI (60 - n) := by
        rw [nI_1]
        congr 1
        omega
      simp only [ch_oi_iff, forall_eq, a4]
      refine ⟨fun c => absurd c a1, fun _ => ⟨fun c => ?_, fun c => ?_⟩⟩
      · obtain ⟨o1, o2, o3⟩ := ok c
        rw [if_pos c] at hq
        refine ⟨o1, o2, fun d => ?_, fun d => ?_⟩
        · obtain ⟨o4, o5⟩ := o3 d
          rw [if_pos (show (x_R (d_tc m 0).2).1 = 0 from d), a4] at hq
          exact ⟨o4, fun _ => ih (by omega) _ o5 hq, fun _ => ih (by omega) _ o5 hq⟩
        · rw [if_neg (show ¬ (x_R (d_tc m 0).2).1 = 0 from d)] at hq
          exact hq
      · rw [if_neg c] at hq
        exact hq
  obtain ⟨ok, hq⟩ := h
  refine g_x_carryOutText_0 g _ _ ?_
  intro m1 e1
  rw [ch_wr_os] at e1
  subst e1
  exact key 60 (Nat.le_refl _) _ ok hq
