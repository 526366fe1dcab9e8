def x_ln (Y T : ch_B) : Nat → ch_B
  | 0 => ch_bw T 0 1 0
  | n + 1 => if Y 1 n = -1 then t_putB (x_bB (x_ln Y T n)) 46 else x_pB (x_bB (x_ln Y T n)) (Y 1 n) 47 (Y 2 n)
theorem x_bB_n {B : ch_B} (h : vp_in (B 0 1) 61) : vp_in (x_bB B 0 1) 61 := by
  unfold x_bB
  split
  · exact h
  · exact t_putB_n _ h
theorem x_pB_n {B : ch_B} (a b c : Int32) (h : vp_in (B 0 1) 61) : vp_in (x_pB B a b c 0 1) 61 := t_putB_n _ (t_putB_n _ (t_putB_n _ h))
theorem x_ln_n (Y T : ch_B) (n : Nat) : vp_in (x_ln Y T n 0 1) 61 := by
  induction n with
  | zero =>
    rw [x_ln, ch_bw_at]
    exact vp_in_nI (n := 0) (by decide) (by decide)
  | succ n ih =>
    rw [x_ln]
    split
    · exact t_putB_n _ (x_bB_n ih)
    · exact x_pB_n _ _ _ (x_bB_n ih)
set_option maxHeartbeats 1600000 in
theorem s_x_line (g : ch_G) (q : Int32 → ch_M → Prop)  (m : ch_M) (h : q (x_ln (ch_ob m 1 0) (ch_ob m 6 1) 12 0 1) (ch_os m 6 1 (x_ln (ch_ob m 1 0) (ch_ob m 6 1) 12))) : ch_C g m_x_line [.inr (0, 0, 0)] m (ch_oi q) := by
  refine e_x_line g _  m ?_
  have key : ∀ k, k ≤ 12 → ch_J g m_x_line (ch_rm m_x_line) (ch_E g m_x_line (ch_oi q)) 10 [some (.inr (0, 0, 0)), some (.inl (.int (nI k)))] [] (ch_os m 6 1 (x_ln (ch_ob m 1 0) (ch_ob m 6 1) k)) 0 := by
    refine ch_down _ 12 ?_ ?_
    · refine g_x_line_10 g _ _ _ ?_
      rw [ch_os_at]
      exact ⟨fun _ => ch_oi_iff.mpr h, fun c => absurd (by decide) c⟩
    · intro k hk ih
      obtain ⟨a1, a2, a3, a4⟩ := ch_k12 hk
      refine g_x_line_10 g _ _ _ ?_
      have r1 : ∀ B i, ch_os m 6 1 B (1, 0, 1) i = ch_ob m 1 0 1 i := fun B i => congrFun (ch_os_ne (fun z => absurd (show (1 : Nat) = 6 from z.1) (by decide))) i
      have r2 : ∀ B i, ch_os m 6 1 B (1, 0, 2) i = ch_ob m 1 0 2 i := fun B i => congrFun (ch_os_ne (fun z => absurd (show (1 : Nat) = 6 from z.1) (by decide))) i
      simp only [forall_eq, ch_os_at, ch_ob_os, ch_os_os, a3, a4, r1, r2]
      have v := x_ln_n (ch_ob m 1 0) (ch_ob m 6 1) k
      rw [x_ln] at ih
      refine ⟨fun c => absurd c a1, fun _ => ⟨v, a2, fun c => ⟨x_bB_n v, ?_⟩, fun c => ⟨x_bB_n v, ?_⟩⟩⟩
      · rw [if_neg c] at ih
        exact ih
      · rw [if_pos c] at ih
        exact ih
  refine g_x_line_0 g _ _ ?_
  intro m1 e1
  rw [ch_wr_os] at e1
  subst e1
  exact key 0 (by decide)
def x_wn (Y T : ch_B) : Nat → ch_B
  | 0 => ch_bw T 0 1 0
  | n + 1 => x_pB (x_bB (x_wn Y T n)) (Y 8 n) 33 (Y 5 (Y 8 n).toNatClampNeg)
theorem x_wn_n (Y T : ch_B) (n : Nat) : vp_in (x_wn Y T n 0 1) 61 := by
  induction n with
  | zero =>
    rw [x_wn, ch_bw_at]
    exact vp_in_nI (n := 0) (by decide) (by decide)
  | succ n ih => exact x_pB_n _ _ _ (x_bB_n ih)
set_option maxHeartbeats 1600000 in
theorem s_x_warrants (g : ch_G) (q : Int32 → ch_M → Prop)  (m : ch_M) (h : (vp_in (m (1, 0, 0) 9) 6) ∧ (∀ i_, i_ < 5 → vp_in (m (1, 0, 8) i_) 5) ∧ q (x_wn (ch_ob m 1 0) (ch_ob m 6 1) (Int32.toNatClampNeg (m (1, 0, 0) 9)) 0 1) (ch_os m 6 1 (x_wn (ch_ob m 1 0) (ch_ob m 6 1) (Int32.toNatClampNeg (m (1, 0, 0) 9))))) : ch_C g m_x_warrants [.inr (0, 0, 0)] m (ch_oi q) := by
  refine e_x_warrants g _  m ?_
  obtain ⟨h1, h2, hq⟩ := h
  obtain ⟨n, hn, he⟩ := vp_in_of h1 (by decide)
  rw [he, nI_clamp (by omega)] at hq
  have r1 : ∀ B c i, ch_os m 6 1 B (1, 0, c) i = m (1, 0, c) i := fun B c i => congrFun (ch_os_ne (fun z => absurd (show (1 : Nat) = 6 from z.1) (by decide))) i
  have key : ∀ k, k ≤ n → ∀ o2, ch_J g m_x_warrants (ch_rm m_x_warrants) (ch_E g m_x_warrants (ch_oi q)) 10 [some (.inr (0, 0, 0)), some (.inl (.int (nI k))), o2] [] (ch_os m 6 1 (x_wn (ch_ob m 1 0) (ch_ob m 6 1) k)) 0 := by
    refine ch_down (fun k => ∀ o2, ch_J g m_x_warrants (ch_rm m_x_warrants) (ch_E g m_x_warrants (ch_oi q)) 10 [some (.inr (0, 0, 0)), some (.inl (.int (nI k))), o2] [] (ch_os m 6 1 (x_wn (ch_ob m 1 0) (ch_ob m 6 1) k)) 0) n ?_ ?_
    · intro o2
      refine g_x_warrants_10 g _ _ _ _ ?_
      simp only [r1, he]
      rw [ch_os_at]
      exact ⟨fun _ => ch_oi_iff.mpr hq, fun c => absurd (nI_le (Nat.le_refl _) (by omega)) c⟩
    · intro k hk ih o2
      obtain ⟨a1, a2, a3, a4⟩ := ch_kn hk (by omega)
      refine g_x_warrants_10 g _ _ _ _ ?_
      simp only [forall_eq, ch_os_at, ch_ob_os, ch_os_os, a3, a4, r1, he]
      have v := x_wn_n (ch_ob m 1 0) (ch_ob m 6 1) k
      exact ⟨fun c => absurd c a1, fun _ => ⟨vp_in_nI (by omega) (by decide), v, h2 k (by omega), x_bB_n v, ih _⟩⟩
  refine g_x_warrants_0 g _ _ ?_
  intro m1 e1
  rw [ch_wr_os] at e1
  subst e1
  exact key 0 (Nat.zero_le _) none
noncomputable def x_rk (Y : ch_B) (w p : Int32) : Nat → Int32
  | 0 => -1
  | n + 1 => if y_ca Y (nI n) w (Y 0 8).toNatClampNeg = p then nI n else x_rk Y w p n
set_option maxHeartbeats 1600000 in
theorem s_x_ranked (g : ch_G) (q : Int32 → ch_M → Prop) (x : Nat → ch_M → Prop) (p1 : Int32) (p2 : Int32) (m : ch_M) (h : (vp_in (m (1, 0, 0) 8) 6) ∧ (((0 ≤ p1 ∧ p1 ≤ 3) ∧ 0 ≤ p2 ∧ p2 < m (1, 0, 0) 8) → q (x_rk (ch_ob m 1 0) p1 p2 (Int32.toNatClampNeg (m (1, 0, 0) 8))) m) ∧ ((¬ (0 ≤ p1 ∧ p1 ≤ 3)) → x 2 m) ∧ (((0 ≤ p1 ∧ p1 ≤ 3) ∧ ¬ (0 ≤ p2 ∧ p2 < m (1, 0, 0) 8)) → x 3 m)) : ch_C g m_x_ranked [.inr (0, 0, 0), .inl (.int p1), .inl (.int p2)] m (ch_ox (ch_oi q) x) := by
  refine e_x_ranked g _ p1 p2 m ?_
  obtain ⟨h1, ha, hb, hc⟩ := h
  obtain ⟨n, hn, he⟩ := vp_in_of h1 (by decide)
  have e8 : (m (1, 0, 0) 8).toNatClampNeg = n := by rw [he, nI_clamp (by omega)]
  rw [e8] at ha
  have key : (q (x_rk (ch_ob m 1 0) p1 p2 n) m) → ∀ k, k ≤ n → ch_J g m_x_ranked (ch_rm m_x_ranked) (ch_E g m_x_ranked (ch_ox (ch_oi q) x)) 45 [some (.inr (0, 0, 0)), some (.inl (.int p1)), some (.inl (.int p2)), some (.inl (.int (x_rk (ch_ob m 1 0) p1 p2 k))), some (.inl (.int (nI k)))] [] m 0 := by
    intro hq
    refine ch_down _ n ?_ ?_
    · refine g_x_ranked_45 g _ _ _ _ _ _ ?_
      rw [he]
      exact ⟨fun _ => ch_ox_l.mpr (ch_oi_iff.mpr hq), fun c => absurd (nI_le (Nat.le_refl _) (by omega)) c⟩
    · intro k hk ih
      obtain ⟨a1, a2, a3, a4⟩ := ch_kn hk (by omega)
      refine g_x_ranked_45 g _ _ _ _ _ _ ?_
      rw [x_rk] at ih
      have e9 : (ch_ob m 1 0 0 8).toNatClampNeg = n := e8
      rw [e9] at ih
      rw [e8, a4, he]
      refine ⟨fun c => absurd c a1, fun _ => ⟨vp_in_nI (by omega) (by decide), vp_in_nI (by omega) (by decide), fun c => ?_, fun c => ?_⟩⟩
      · rw [if_neg c] at ih
        exact ih
      · rw [if_pos c] at ih
        exact ih
  refine g_x_ranked_0 g _ _ _ _ ?_
  simp only [ch_ox_oi]
  refine ⟨fun c => ⟨by decide, hb (by grind)⟩, fun c => ⟨fun d => ⟨fun e => ⟨by decide, hc (by grind)⟩, fun e => ⟨fun f => key (ha (by grind)) 0 (Nat.zero_le _), fun f => ⟨by decide, hc (by grind)⟩⟩⟩, fun d => ⟨by decide, hb (by grind)⟩⟩⟩
