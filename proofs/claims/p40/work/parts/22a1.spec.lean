theorem ch_os_x {m : ch_M} {i j : Nat} {B : ch_B} {a b c : Nat} (h : a ≠ i) : ch_os m i j B (a, b, c) = m (a, b, c) := ch_os_ne (fun q => h q.1)
def y_tkv (Y : ch_B) (p c : Int32) : Int32 := if Y 2 p.toNatClampNeg - c < 0 then 0 else Y 2 p.toNatClampNeg - c
def y_tk (Y : ch_B) (p c : Int32) : ch_B := if y_tkv Y p c = 0 then ch_bw (ch_bw Y 2 p.toNatClampNeg (y_tkv Y p c)) 1 p.toNatClampNeg (-1) else ch_bw Y 2 p.toNatClampNeg (y_tkv Y p c)
set_option maxHeartbeats 1600000 in
theorem s_y_takeChalk (g : ch_G) (q : Int32 → ch_M → Prop) (j : Nat) (p1 : Int32) (p2 : Int32) (m : ch_M) (h : (vp_in p1 12) ∧ ((y_tkv (ch_ob m 1 j) p1 p2 = 0) → q 1 (ch_os m 1 j (y_tk (ch_ob m 1 j) p1 p2))) ∧ ((¬ y_tkv (ch_ob m 1 j) p1 p2 = 0) → q 0 (ch_os m 1 j (y_tk (ch_ob m 1 j) p1 p2)))) : ch_C g m_y_takeChalk [.inr (1, j, 0), .inl (.int p1), .inl (.int p2)] m (ch_oi q) := by
  refine e_y_takeChalk g _ j p1 p2 m ?_
  refine g_y_takeChalk_0 g _ _ _ _ _ ⟨h.1, fun m2 h2 => ?_⟩
  have hv : (if ((m (1, j, 2) (Int32.toNatClampNeg p1)) - p2) < 0 then 0 else ((m (1, j, 2) (Int32.toNatClampNeg p1)) - p2)) = y_tkv (ch_ob m 1 j) p1 p2 := rfl
  rw [hv, ch_wr_os] at h2
  subst h2
  simp only [ch_oi_iff, ch_os_at, ch_bw_at]
  obtain ⟨-, ha, hb⟩ := h
  unfold y_tk at ha hb
  refine ⟨fun c => ⟨fun _ => ?_, fun d => absurd d c⟩, fun c m3 h3 => ?_⟩
  · have hb := hb c
    rw [if_neg c] at hb
    exact hb
  · rw [ch_os_wr] at h3
    subst h3
    simp only [ch_os_at, ch_bw_c (show (2 : Nat) ≠ 1 by decide), ch_bw_at]
    have ha := ha c
    rw [if_pos c] at ha
    exact ⟨fun d => absurd c d, fun _ => ha⟩
/-- the order without the warrants that have no chalk: behind so many places; how many are left -/
def y_clk (Y : ch_B) : Nat → (Nat → Int32) × Nat
  | 0 => (Y 8, 0)
  | n + 1 => if Y 5 (((y_clk Y n).1 n).toNatClampNeg) ≤ 0 then y_clk Y n else (fun i => if i = (y_clk Y n).2 then (y_clk Y n).1 n else (y_clk Y n).1 i, (y_clk Y n).2 + 1)
def y_clB (Y : ch_B) : ch_B := fun c k => if c = 8 then (y_clk Y (Y 0 9).toNatClampNeg).1 k else if c = 0 ∧ k = 9 then nI (y_clk Y (Y 0 9).toNatClampNeg).2 else Y c k
theorem y_clk_le (Y : ch_B) (n : Nat) : (y_clk Y n).2 ≤ n := by
  induction n with
  | zero => exact Nat.le_refl _
  | succ n ih =>
    unfold y_clk
    split
    · omega
    · dsimp only; omega
theorem y_clk_hi (Y : ch_B) (n i : Nat) (h : n ≤ i) : (y_clk Y n).1 i = Y 8 i := by
  induction n with
  | zero => rfl
  | succ n ih =>
    have hl := y_clk_le Y n
    unfold y_clk
    split
    · exact ih (by omega)
    · dsimp only
      rw [if_neg (by omega)]
      exact ih (by omega)
def y_clC (Y : ch_B) (n : Nat) : ch_B := fun c k => if c = 8 then (y_clk Y n).1 k else Y c k
set_option maxHeartbeats 1600000 in
theorem s_y_closeOrder (g : ch_G) (q : Int32 → ch_M → Prop) (j : Nat) (m : ch_M) (h : (vp_in (m (1, j, 0) 9) 6) ∧ (∀ i_, i_ < 5 → vp_in (m (1, j, 8) i_) 5) ∧ q (m (1, j, 0) 9 - nI (y_clk (ch_ob m 1 j) (Int32.toNatClampNeg (m (1, j, 0) 9))).2) (ch_os m 1 j (y_clB (ch_ob m 1 j)))) : ch_C g m_y_closeOrder [.inr (1, j, 0)] m (ch_oi q) := by
  refine e_y_closeOrder g _ j m ?_
  obtain ⟨n, hn, he⟩ := vp_in_of h.1 (by decide)
  obtain ⟨-, ho, hq⟩ := h
  refine g_y_closeOrder_0 g _ _ _ ?_
  have e0 : m = ch_os m 1 j (y_clC (ch_ob m 1 j) 0) := by
    have : y_clC (ch_ob m 1 j) 0 = ch_ob m 1 j := by
      funext c k
      unfold y_clC y_clk
      by_cases hc : c = 8
      · subst hc; rw [if_pos rfl]
      · rw [if_neg hc]
    rw [this, ch_os_self]
  have key : ∀ k, k ≤ n → ∀ o3, ch_J g m_y_closeOrder (ch_rm m_y_closeOrder) (ch_E g m_y_closeOrder (ch_oi q)) 4 [some (.inr (1, j, 0)), some (.inl (.int (nI (y_clk (ch_ob m 1 j) k).2))), some (.inl (.int (nI k))), o3] [] (ch_os m 1 j (y_clC (ch_ob m 1 j) k)) 0 := by
    refine ch_down (fun k => ∀ o3, ch_J g m_y_closeOrder (ch_rm m_y_closeOrder) (ch_E g m_y_closeOrder (ch_oi q)) 4 [some (.inr (1, j, 0)), some (.inl (.int (nI (y_clk (ch_ob m 1 j) k).2))), some (.inl (.int (nI k))), o3] [] (ch_os m 1 j (y_clC (ch_ob m 1 j) k)) 0) n ?_ ?_
    · intro o3
      refine g_y_closeOrder_4 g _ j _ _ _ _ ?_
      have e1 : y_clC (ch_ob m 1 j) n 0 9 = nI n := he
      simp only [ch_oi_iff, ch_os_at, e1]
      refine ⟨fun _ m2 h2 => ?_, fun c => absurd (nI_le (Nat.le_refl n) (by omega)) c⟩
      rw [ch_os_wr] at h2
      rw [he, nI_clamp (by omega)] at hq
      subst h2
      have e2 : ch_bw (y_clC (ch_ob m 1 j) n) 0 9 (nI (y_clk (ch_ob m 1 j) n).2) = y_clB (ch_ob m 1 j) := by
        funext c k
        have e3 : (ch_ob m 1 j 0 9).toNatClampNeg = n := by
          show (m (1, j, 0) 9).toNatClampNeg = n
          rw [he, nI_clamp (by omega)]
        unfold ch_bw y_clC y_clB
        rw [e3]
        by_cases h1 : c = 8
        · subst h1; simp
        · by_cases h2 : c = 0 ∧ k = 9
          · simp [h2]
          · simp [h1, h2]
      rw [e2]
      exact hq
    · intro k hk ih o3
      obtain ⟨a1, a2, a3, a4⟩ := ch_kn hk (by omega)
      refine g_y_closeOrder_4 g _ j _ _ _ _ ?_
      have e1 : y_clC (ch_ob m 1 j) k 0 9 = nI n := he
      have e2 : y_clC (ch_ob m 1 j) k 8 k = m (1, j, 8) k := y_clk_hi (ch_ob m 1 j) k k (Nat.le_refl k)
      have hl := y_clk_le (ch_ob m 1 j) k
      simp only [ch_oi_iff, ch_os_at, e1, a3, a4, e2]
      refine ⟨fun c => absurd c a1, fun _ => ⟨vp_in_nI (by omega) (by decide), ho k (by omega), fun c => ?_, fun c => ⟨vp_in_nI (by omega) (by decide), fun m5 h5 => ?_⟩⟩⟩
      · have e4 : y_clk (ch_ob m 1 j) (k + 1) = y_clk (ch_ob m 1 j) k := by
          rw [y_clk]
          rw [y_clk_hi (ch_ob m 1 j) k k (Nat.le_refl k)]
          exact if_pos c
        have ih := ih (some (.inl (.int (m (1, j, 8) k))))
        unfold y_clC at ih ⊢
        rw [e4] at ih
        exact ih
      · have e4 : y_clk (ch_ob m 1 j) (k + 1) = (fun i => if i = (y_clk (ch_ob m 1 j) k).2 then m (1, j, 8) k else (y_clk (ch_ob m 1 j) k).1 i, (y_clk (ch_ob m 1 j) k).2 + 1) := by
          rw [y_clk]
          rw [y_clk_hi (ch_ob m 1 j) k k (Nat.le_refl k)]
          exact if_neg c
        have ih := ih (some (.inl (.int (m (1, j, 8) k))))
        rw [ch_os_wr, nI_clamp (by omega)] at h5
        subst h5
        have e5 : ch_bw (y_clC (ch_ob m 1 j) k) 8 (y_clk (ch_ob m 1 j) k).2 (m (1, j, 8) k) = y_clC (ch_ob m 1 j) (k + 1) := by
          funext c i
          unfold ch_bw y_clC
          rw [e4]
          by_cases h1 : c = 8
          · subst h1
            by_cases h2 : i = (y_clk (ch_ob m 1 j) k).2 <;> simp [h2]
          · simp [h1]
        rw [e5, nI_1]
        rw [e4] at ih
        exact ih
  have h0 := key 0 (Nat.zero_le n) none
  rw [← e0] at h0
  exact h0
def y_briB (Y : ch_B) (p : Int32) : ch_B := ch_bw (ch_bw (ch_bw Y 3 (Y 0 8).toNatClampNeg p) 0 11 (Y 0 11 + p)) 0 8 (Y 0 8 + 1)
set_option maxHeartbeats 1600000 in
theorem s_y_bring (g : ch_G) (q : Int32 → ch_M → Prop) (j : Nat) (p1 : Int32) (m : ch_M) (h : (vp_in (m (1, j, 0) 8) 5) ∧ q (m (1, j, 0) 8 + 1 - 1) (ch_os m 1 j (y_briB (ch_ob m 1 j) p1))) : ch_C g m_y_bring [.inr (1, j, 0), .inl (.int p1)] m (ch_oi q) := by
  refine e_y_bring g _ j p1 m ?_
  refine g_y_bring_0 g _ _ _ _ ⟨h.1, fun m2 h2 m3 h3 m4 h4 => ?_⟩
  obtain ⟨-, hq⟩ := h
  rw [ch_wr_os] at h2
  subst h2
  simp only [ch_os_at, ch_os_wr, ch_bw_c (show (0 : Nat) ≠ 3 by decide)] at h3
  subst h3
  simp only [ch_os_at, ch_os_wr, ch_bw_k (show (8 : Nat) ≠ 11 by decide), ch_bw_c (show (0 : Nat) ≠ 3 by decide)] at h4
  subst h4
  simp only [ch_oi_iff, ch_os_at, ch_bw_at]
  exact hq
def y_chv (Y : ch_B) (p : Int32) : Int32 := if Y 1 p.toNatClampNeg = -1 then 5 else if 9 < Y 2 p.toNatClampNeg + 2 then 9 else Y 2 p.toNatClampNeg + 2
def y_chaB (Y : ch_B) (c p : Int32) : ch_B := ch_bw (ch_bw (ch_bw (ch_bw Y 3 c.toNatClampNeg (Y 3 c.toNatClampNeg - 1)) 0 10 (Y 0 10 + 1)) 2 p.toNatClampNeg (y_chv Y p)) 1 p.toNatClampNeg c
set_option maxHeartbeats 1600000 in
theorem s_y_chalkOn (g : ch_G) (q : Int32 → ch_M → Prop) (j : Nat) (p1 : Int32) (p2 : Int32) (m : ch_M) (h : (vp_in p1 5) ∧ (vp_in p2 12) ∧ q (y_chv (ch_ob m 1 j) p2) (ch_os m 1 j (y_chaB (ch_ob m 1 j) p1 p2))) : ch_C g m_y_chalkOn [.inr (1, j, 0), .inl (.int p1), .inl (.int p2)] m (ch_oi q) := by
  refine e_y_chalkOn g _ j p1 p2 m ?_
  refine g_y_chalkOn_0 g _ _ _ _ _ ⟨h.1, fun m2 h2 m3 h3 => ⟨h.2.1, ?_⟩⟩
  obtain ⟨-, -, hq⟩ := h
  rw [ch_wr_os] at h2
  subst h2
  simp only [ch_os_at, ch_os_wr, ch_bw_c (show (0 : Nat) ≠ 3 by decide)] at h3
  subst h3
  unfold y_chaB y_chv at hq
  simp only [ch_os_at, ch_bw_c (show (1 : Nat) ≠ 0 by decide), ch_bw_c (show (1 : Nat) ≠ 3 by decide), ch_bw_c (show (2 : Nat) ≠ 0 by decide), ch_bw_c (show (2 : Nat) ≠ 3 by decide)]
  refine ⟨fun c => ?_, fun c => ?_⟩
  all_goals
    intro m4 h4 m5 h5
    simp only [ch_os_wr] at h4
    subst h4
    simp only [ch_os_wr] at h5
    subst h5
    simp only [ch_oi_iff, ch_os_at, ch_bw_c (show (2 : Nat) ≠ 1 by decide), ch_bw_at]
    have c2 : (ch_ob m 1 j 1 (Int32.toNatClampNeg p2) = -1) ∨ ¬ (ch_ob m 1 j 1 (Int32.toNatClampNeg p2) = -1) := Classical.em _
    first
      | (rw [if_pos (show ch_ob m 1 j 1 (Int32.toNatClampNeg p2) = -1 from c)] at hq; exact hq)
      | (rw [if_neg (show ¬ ch_ob m 1 j 1 (Int32.toNatClampNeg p2) = -1 from c)] at hq; exact hq)
def y_wriB (Y : ch_B) (c : Int32) : ch_B := ch_bw (ch_bw (ch_bw (ch_bw (ch_bw Y 5 c.toNatClampNeg (if 9 < Y 4 c.toNatClampNeg then 9 else Y 4 c.toNatClampNeg)) 4 c.toNatClampNeg 0) 8 (Y 0 9).toNatClampNeg c) 0 9 (Y 0 9 + 1)) 0 13 (Y 0 13 + 1)
set_option maxHeartbeats 1600000 in
theorem s_y_writeAgainst (g : ch_G) (q : Int32 → ch_M → Prop) (j : Nat) (p1 : Int32) (m : ch_M) (h : (vp_in p1 5) ∧ (vp_in (m (1, j, 0) 9) 5) ∧ q (if 9 < m (1, j, 4) (Int32.toNatClampNeg p1) then 9 else m (1, j, 4) (Int32.toNatClampNeg p1)) (ch_os m 1 j (y_wriB (ch_ob m 1 j) p1))) : ch_C g m_y_writeAgainst [.inr (1, j, 0), .inl (.int p1)] m (ch_oi q) := by
  refine e_y_writeAgainst g _ j p1 m ?_
  obtain ⟨h1, h2, hq⟩ := h
  refine g_y_writeAgainst_0 g _ _ _ _ ⟨h1, fun m2 e2 m3 e3 => ?_⟩
  rw [ch_wr_os] at e2
  subst e2
  rw [ch_os_wr] at e3
  subst e3
  simp only [ch_os_at, ch_bw_c (show (0 : Nat) ≠ 4 by decide), ch_bw_c (show (0 : Nat) ≠ 5 by decide)]
  refine ⟨h2, fun m4 e4 m5 e5 m6 e6 => ?_⟩
  simp only [ch_os_wr] at e4
  subst e4
  simp only [ch_os_at, ch_os_wr, ch_bw_c (show (0 : Nat) ≠ 4 by decide), ch_bw_c (show (0 : Nat) ≠ 5 by decide), ch_bw_c (show (0 : Nat) ≠ 8 by decide)] at e5
  subst e5
  simp only [ch_os_at, ch_os_wr, ch_bw_k (show (13 : Nat) ≠ 9 by decide), ch_bw_c (show (0 : Nat) ≠ 4 by decide), ch_bw_c (show (0 : Nat) ≠ 5 by decide), ch_bw_c (show (0 : Nat) ≠ 8 by decide)] at e6
  subst e6
  simp only [ch_oi_iff, ch_os_at, ch_bw_c (show (5 : Nat) ≠ 0 by decide), ch_bw_c (show (5 : Nat) ≠ 8 by decide), ch_bw_c (show (5 : Nat) ≠ 4 by decide), ch_bw_at]
  exact hq
def y_givB (Y : ch_B) (c d p : Int32) : ch_B := ch_bw (ch_bw Y 3 c.toNatClampNeg (Y 3 c.toNatClampNeg - p)) 3 d.toNatClampNeg (ch_bw Y 3 c.toNatClampNeg (Y 3 c.toNatClampNeg - p) 3 d.toNatClampNeg + p)
set_option maxHeartbeats 1600000 in
theorem s_y_handOver (g : ch_G) (q : Int32 → ch_M → Prop) (j : Nat) (p1 : Int32) (p2 : Int32) (p3 : Int32) (m : ch_M) (h : (vp_in p1 5) ∧ (vp_in p2 5) ∧ q (y_givB (ch_ob m 1 j) p1 p2 p3 3 (Int32.toNatClampNeg p1)) (ch_os m 1 j (y_givB (ch_ob m 1 j) p1 p2 p3))) : ch_C g m_y_handOver [.inr (1, j, 0), .inl (.int p1), .inl (.int p2), .inl (.int p3)] m (ch_oi q) := by
  refine e_y_handOver g _ j p1 p2 p3 m ?_
  obtain ⟨h1, h2, hq⟩ := h
  refine g_y_handOver_0 g _ _ _ _ _ _ ⟨h1, fun m2 e2 => ⟨h2, fun m3 e3 => ?_⟩⟩
  rw [ch_wr_os] at e2
  subst e2
  rw [ch_os_wr, ch_os_at] at e3
  subst e3
  simp only [ch_oi_iff, ch_os_at]
  exact hq
