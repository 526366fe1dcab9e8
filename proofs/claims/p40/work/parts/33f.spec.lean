/-- rows of signs that agree as far as they count -/
def t_eq (B B' : ch_B) : Prop := ∃ n, n ≤ 60 ∧ B 0 1 = nI n ∧ B' 0 1 = nI n ∧ ∀ k, k < n → B' 1 k = B 1 k
theorem t_eq_put {B B' : ch_B} (h : t_eq B B') (p : Int32) : t_eq (t_putB B p) (t_putB B' p) := by
  obtain ⟨n, hn, e1, e2, e3⟩ := h
  unfold t_putB
  rw [e1, e2]
  by_cases h12 : (60 : Int32) ≤ nI n
  · rw [if_pos h12, if_pos h12]
    exact ⟨n, hn, e1, e2, e3⟩
  · rw [if_neg h12, if_neg h12]
    have hl : n < 60 := by
      have := (nI_leI (a := 60) (b := n) (by decide) (by omega))
      by_cases z : n < 60
      · exact z
      · exact absurd (this.mpr (by omega)) h12
    refine ⟨n + 1, by omega, ?_, ?_, fun k hk => ?_⟩
    · rw [ch_bw_at, nI_1]
    · rw [ch_bw_at, nI_1]
    · have c1 : ∀ (X : ch_B) (v : Int32), ch_bw X 0 1 v 1 k = X 1 k := fun X v => ch_bw_c (by decide)
      rw [nI_clamp (by omega), c1, c1]
      by_cases e : k = n
      · rw [e, ch_bw_at, ch_bw_at]
      · rw [ch_bw_k e, ch_bw_k e]
        exact e3 k (by omega)
theorem t_eq_bB {B B' : ch_B} (h : t_eq B B') : t_eq (x_bB B) (x_bB B') := by
  have h' := h
  obtain ⟨n, hn, e1, e2, e3⟩ := h
  unfold x_bB
  rw [e1, e2]
  by_cases z : nI n ≤ 0
  · rw [if_pos z, if_pos z]
    exact h'
  · rw [if_neg z, if_neg z]
    exact t_eq_put h' 32
theorem t_eq_pB {B B' : ch_B} (h : t_eq B B') (a b c : Int32) : t_eq (x_pB B a b c) (x_pB B' a b c) := t_eq_put (t_eq_put (t_eq_put h _) _) _
theorem t_eq_0 (B B' : ch_B) : t_eq (ch_bw B 0 1 0) (ch_bw B' 0 1 0) := ⟨0, by omega, ch_bw_at _ _ _ _, ch_bw_at _ _ _ _, fun k hk => absurd hk (by omega)⟩
theorem t_eq_ln (Y B B' : ch_B) (n : Nat) : t_eq (x_ln Y B n) (x_ln Y B' n) := by
  induction n with
  | zero => exact t_eq_0 B B'
  | succ n ih =>
    rw [x_ln, x_ln]
    by_cases z : Y 1 n = -1
    · rw [if_pos z, if_pos z]
      exact t_eq_put (t_eq_bB ih) _
    · rw [if_neg z, if_neg z]
      exact t_eq_pB (t_eq_bB ih) _ _ _
theorem t_eq_wn (Y B B' : ch_B) (n : Nat) : t_eq (x_wn Y B n) (x_wn Y B' n) := by
  induction n with
  | zero => exact t_eq_0 B B'
  | succ n ih =>
    rw [x_wn, x_wn]
    exact t_eq_pB (t_eq_bB ih) _ _ _
set_option maxHeartbeats 1600000 in
theorem t_x_line (g : ch_G) (q : Int32 → ch_M → Prop) (T_ : Nat) (m : ch_M) (h : (a_inv T_ m) ∧ (∀ (M_ : ch_M), (a_same m M_) → (a_wr M_) → (M_ (6, 1, 0) 1 = x_ln (y_can (ch_ob m 1 0)) z_B 12 0 1) → (∀ k_, k_ < Int32.toNatClampNeg (x_ln (y_can (ch_ob m 1 0)) z_B 12 0 1) → M_ (6, 1, 1) k_ = x_ln (y_can (ch_ob m 1 0)) z_B 12 1 k_) → q (x_ln (y_can (ch_ob m 1 0)) z_B 12 0 1) (M_))) : ch_C g m_x_line [.inr (0, 0, 0)] m (ch_oi q) := by
  obtain ⟨hi, hq⟩ := h
  have hwr := a_wr_nz hi.2.1
  obtain ⟨n, hn, e1, e2, e3⟩ := t_eq_ln (y_can (ch_ob m 1 0)) (ch_ob (ch_nz m) 6 1) z_B 12
  refine ch_C_rq (ch_nz_rq m) (s_x_line g q (ch_nz m) ?_)
  rw [ch_nz_ob]
  have e4 : ∀ c k, ch_os (ch_nz m) 6 1 (x_ln (y_can (ch_ob m 1 0)) (ch_ob (ch_nz m) 6 1) 12) (6, 1, c) k = x_ln (y_can (ch_ob m 1 0)) (ch_ob (ch_nz m) 6 1) 12 c k := fun c k => ch_os_at _ _ _ _ _ _
  have h9 := hq (ch_os (ch_nz m) 6 1 (x_ln (y_can (ch_ob m 1 0)) (ch_ob (ch_nz m) 6 1) 12)) (a_same_tr (a_same_nz m) (a_same_os _ (Or.inr (Or.inr (Or.inr ⟨rfl, rfl⟩))))) ⟨?_, fun i hi' => ?_⟩ ?_ ?_
  · rw [e2, ← e1] at h9
    exact h9
  · rw [e4, e1]
    exact vp_in_nI (by omega) (by decide)
  · rw [e4]
    exact lw_lnn (X := ch_ob (ch_nz m) 6 1) hwr.2 12 i hi'
  · rw [e4, e1, e2]
  · intro k hk
    rw [e2, nI_clamp (by omega)] at hk
    rw [e4]
    exact (e3 k hk).symm
set_option maxHeartbeats 1600000 in
theorem t_x_warrants (g : ch_G) (q : Int32 → ch_M → Prop) (T_ : Nat) (m : ch_M) (h : (a_inv T_ m) ∧ (∀ (M_ : ch_M), (a_same m M_) → (a_wr M_) → (M_ (6, 1, 0) 1 = V_wn (y_can (ch_ob m 1 0)) 0 1) → (∀ k_, k_ < Int32.toNatClampNeg (V_wn (y_can (ch_ob m 1 0)) 0 1) → M_ (6, 1, 1) k_ = V_wn (y_can (ch_ob m 1 0)) 1 k_) → q (V_wn (y_can (ch_ob m 1 0)) 0 1) (M_))) : ch_C g m_x_warrants [.inr (0, 0, 0)] m (ch_oi q) := by
  obtain ⟨hi, hq⟩ := h
  have hwr := a_wr_nz hi.2.1
  have e9 : y_can (ch_ob m 1 0) 0 9 = ch_nz m (1, 0, 0) 9 := by rw [← ch_nz_ob]; rfl
  unfold V_wn at hq
  rw [e9] at hq
  obtain ⟨n, hn, e1, e2, e3⟩ := t_eq_wn (y_can (ch_ob m 1 0)) (ch_ob (ch_nz m) 6 1) z_B (Int32.toNatClampNeg (ch_nz m (1, 0, 0) 9))
  refine ch_C_rq (ch_nz_rq m) (s_x_warrants g q (ch_nz m) ⟨a_i9 hi, fun i hi' => y_i8k (a_inv_nz hi).1 i hi', ?_⟩)
  rw [ch_nz_ob]
  have e4 : ∀ c k, ch_os (ch_nz m) 6 1 (x_wn (y_can (ch_ob m 1 0)) (ch_ob (ch_nz m) 6 1) (Int32.toNatClampNeg (ch_nz m (1, 0, 0) 9))) (6, 1, c) k = x_wn (y_can (ch_ob m 1 0)) (ch_ob (ch_nz m) 6 1) (Int32.toNatClampNeg (ch_nz m (1, 0, 0) 9)) c k := fun c k => ch_os_at _ _ _ _ _ _
  have h9 := hq (ch_os (ch_nz m) 6 1 (x_wn (y_can (ch_ob m 1 0)) (ch_ob (ch_nz m) 6 1) (Int32.toNatClampNeg (ch_nz m (1, 0, 0) 9)))) (a_same_tr (a_same_nz m) (a_same_os _ (Or.inr (Or.inr (Or.inr ⟨rfl, rfl⟩))))) ⟨?_, fun i hi' => ?_⟩ ?_ ?_
  · rw [e2, ← e1] at h9
    exact h9
  · rw [e4, e1]
    exact vp_in_nI (by omega) (by decide)
  · rw [e4]
    exact lw_wnn (X := ch_ob (ch_nz m) 6 1) hwr.2 _ i hi'
  · rw [e4, e1, e2]
  · intro k hk
    rw [e2, nI_clamp (by omega)] at hk
    rw [e4]
    exact (e3 k hk).symm
set_option maxHeartbeats 1600000 in
theorem t_l_character (g : ch_G) (q : Int32 → ch_M → Prop) (T_ : Nat) (p1 : Int32) (m : ch_M) (h : (a_inv T_ m) ∧ (0 ≤ p1 ∧ p1 < m (6, 1, 0) 1) ∧ q (m (6, 1, 1) (Int32.toNatClampNeg p1)) m) : ch_C g m_l_character [.inr (0, 0, 0), .inl (.int p1)] m (ch_oi q) := by
  obtain ⟨hi, hp, hq⟩ := h
  exact s_l_character g q p1 m ⟨hi.2.1.1, hi.2.1.2, fun _ => hq, fun z => absurd hp z⟩
