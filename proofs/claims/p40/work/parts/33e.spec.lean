/-- rows of steps that agree as far as they count -/
def s_eq (B B' : ch_B) : Prop := ∃ n, n ≤ 12 ∧ B 0 1 = nI n ∧ B' 0 1 = nI n ∧ ∀ k, k < n → B' 1 k = B 1 k
theorem s_eq_add {B B' : ch_B} (h : s_eq B B') (p : Int32) : s_eq (s_addB B p) (s_addB B' p) := by
  obtain ⟨n, hn, e1, e2, e3⟩ := h
  unfold s_addB
  rw [e1, e2]
  by_cases h12 : (12 : Int32) ≤ nI n
  · rw [if_pos h12, if_pos h12]
    exact ⟨n, hn, e1, e2, e3⟩
  · rw [if_neg h12, if_neg h12]
    have hl : n < 12 := by
      have := (nI_leI (a := 12) (b := n) (by decide) (by omega))
      by_cases z : n < 12
      · exact z
      · exact absurd (this.mpr (by omega)) h12
    refine ⟨n + 1, by omega, ?_, ?_, fun k hk => ?_⟩
    · rw [ch_bw_at, nI_1]
    · rw [ch_bw_at, nI_1]
    · have c1 : ∀ (X : ch_B) (v : Int32), ch_bw X 0 1 v 1 k = X 1 k := fun X v => ch_bw_c (by decide)
      rw [nI_clamp (by omega), c1, c1]
      by_cases e : k = n
      · rw [e, ch_bw_at, ch_bw_at]
      · rw [ch_bw_k e, ch_bw_k e]
        exact e3 k (by omega)
theorem w_tl_eq {f f' : Nat → Int32} (hf : ∀ k, k < 12 → f' k = f k ∧ (f k = 1 ∨ f k = 2 ∨ f k = 3)) (n : Nat) : ∀ (s : Nat) (B B' : ch_B), s < 20 → s_eq B B' → s_eq (w_tl f n (nI s) B) (w_tl f' n (nI s) B') := by
  induction n with
  | zero => exact fun s B B' _ h => h
  | succ n ih =>
    intro s B B' hs h
    rw [w_tl, w_tl]
    by_cases h12 : (12 : Int32) ≤ nI s
    · rw [if_pos h12, if_pos h12]
      exact h
    · rw [if_neg h12, if_neg h12, nI_clamp (by omega)]
      have hl : s < 12 := by
        have := (nI_leI (a := 12) (b := s) (by decide) (by omega))
        by_cases z : s < 12
        · exact z
        · exact absurd (this.mpr (by omega)) h12
      obtain ⟨g1, g2⟩ := hf s hl
      rw [g1]
      obtain ⟨t, ht, et⟩ : ∃ t, t ≤ 3 ∧ f s = nI t := by
        rcases g2 with g2 | g2 | g2
        · exact ⟨1, by omega, g2⟩
        · exact ⟨2, by omega, g2⟩
        · exact ⟨3, by omega, g2⟩
      rw [et, nI_add]
      exact ih (s + t) _ _ (by omega) (s_eq_add h _)
theorem x_sT_eq (B Y W W' : ch_B) (c : Int32) : s_eq (x_sT B (w_fl W (w_l Y c) 12)) (x_sT z_B (w_fl W' (w_l Y c) 12)) := by
  unfold x_sT
  refine w_tl_eq (fun k hk => ⟨(w_fl_ind W' W Y c).1 k hk, ?_⟩) 12 0 _ _ (by omega) ⟨0, by omega, ch_bw_at _ _ _ _, ch_bw_at _ _ _ _, fun k hk => absurd hk (by omega)⟩
  obtain ⟨A, C, S, h1, -, h3⟩ := w_fl_sp W Y c
  have := (h1.2 k hk).1
  rw [h3 k hk]
  obtain e | e | e : S k = 1 ∨ S k = 2 ∨ S k = 3 := by omega
  · rw [e]; exact Or.inl rfl
  · rw [e]; exact Or.inr (Or.inl rfl)
  · rw [e]; exact Or.inr (Or.inr rfl)
set_option maxHeartbeats 1600000 in
theorem t_l_step (g : ch_G) (q : Int32 → ch_M → Prop) (T_ : Nat) (p1 : Int32) (p2 : Int32) (m : ch_M) (h : (a_inv T_ m) ∧ (0 ≤ p1 ∧ p1 < m (1, 0, 0) 8) ∧ (∀ (M_ : ch_M), (a_same m M_) → (a_wr M_) → q (V_st (y_can (ch_ob m 1 0)) p1 p2) (M_))) : ch_C g m_l_step [.inr (0, 0, 0), .inl (.int p1), .inl (.int p2)] m (ch_oi q) := by
  obtain ⟨hi, hc, hq⟩ := h
  rw [← a_nz8 m] at hc
  have hw := fun B B' => hq _ (a_same_tr (a_same_nz m) (a_same_tr (a_same_os B (a := 8) (j := 0) (Or.inr (Or.inl rfl))) (a_same_os B' (a := 5) (j := 1) (Or.inr (Or.inr (Or.inl ⟨rfl, rfl⟩)))))) (a_wr_os B' (by omega) (a_wr_os B (by omega) (a_wr_nz hi.2.1)))
  have e : x_sW (ch_nz m) p1 = w_fl (ch_ob (ch_nz m) 8 0) (w_l (y_can (ch_ob m 1 0)) p1) 12 := by
    unfold x_sW
    rw [ch_nz_ob]
  obtain ⟨n, hn, e1, e2, e3⟩ := x_sT_eq (ch_ob (ch_nz m) 5 1) (y_can (ch_ob m 1 0)) (ch_ob (ch_nz m) 8 0) z_B p1
  rw [← e] at e1 e3
  have e2' : V_T (y_can (ch_ob m 1 0)) p1 0 1 = nI n := e2
  have e3' : ∀ k, k < n → V_T (y_can (ch_ob m 1 0)) p1 1 k = x_sT (ch_ob (ch_nz m) 5 1) (x_sW (ch_nz m) p1) 1 k := e3
  unfold V_st at hw
  refine ch_C_rq (ch_nz_rq m) (s_l_step g q p1 p2 (ch_nz m) ⟨fun z => ?_, fun z => absurd hc z, fun z => ?_⟩)
  · have z2 : 0 ≤ p2 ∧ p2 < nI n := ⟨z.2.1, by rw [← e1]; exact z.2.2⟩
    have h2 := hw (x_sW (ch_nz m) p1) (x_sT (ch_ob (ch_nz m) 5 1) (x_sW (ch_nz m) p1))
    rw [if_pos (by rw [e2']; exact z2)] at h2
    have hv : vp_in p2 n := ch_vp (by omega) (Int32.not_lt.mpr z2.1) (Int32.not_le.mpr z2.2)
    obtain ⟨k, hk, rfl⟩ := vp_in_of hv (by omega)
    rw [e3' _ (by rw [nI_clamp (by omega)]; exact hk)] at h2
    exact h2
  · have h2 := hw (x_sW (ch_nz m) p1) (x_sT (ch_ob (ch_nz m) 5 1) (x_sW (ch_nz m) p1))
    rw [if_neg (by rw [e2', ← e1]; exact z.2)] at h2
    exact h2
set_option maxHeartbeats 1600000 in
theorem t_l_ranked (g : ch_G) (q : Int32 → ch_M → Prop) (T_ : Nat) (p1 : Int32) (p2 : Int32) (m : ch_M) (h : (a_inv T_ m) ∧ ((0 : Int32) ≤ p1 ∧ p1 ≤ (3 : Int32)) ∧ (0 ≤ p2 ∧ p2 < m (1, 0, 0) 8) ∧ (∀ (M_ : ch_M), (a_same m M_) → (a_wr M_) → q (V_rk (y_can (ch_ob m 1 0)) p1 p2) (M_))) : ch_C g m_l_ranked [.inr (0, 0, 0), .inl (.int p1), .inl (.int p2)] m (ch_oi q) := by
  obtain ⟨hi, hw, hp, hq⟩ := h
  rw [← a_nz8 m] at hp
  have h2 := hq _ (a_same_nz m) (a_wr_nz hi.2.1)
  unfold V_rk at h2
  rw [a_can8, ← a_nz8 m, ← ch_nz_ob] at h2
  exact ch_C_rq (ch_nz_rq m) (s_l_ranked g q p1 p2 (ch_nz m) ⟨a_i8 hi, fun _ => h2, fun z => absurd hw z, fun z => absurd hp z.2⟩)
set_option maxHeartbeats 1600000 in
theorem t_l_wouldEnd (g : ch_G) (q : Int32 → ch_M → Prop) (T_ : Nat) (p1 : Int32) (m : ch_M) (h : (a_inv T_ m) ∧ ((1 : Int32) ≤ p1 ∧ p1 ≤ (9 : Int32)) ∧ (∀ (M_ : ch_M), (a_same m M_) → (a_wr M_) → q (y_washR (y_can (ch_ob m 1 0)) p1) (M_))) : ch_C g m_l_wouldEnd [.inr (0, 0, 0), .inl (.int p1)] m (ch_oi q) := by
  obtain ⟨hi, hp, hq⟩ := h
  have hw := fun B => hq _ (a_same_tr (a_same_nz m) (a_same_os B (a := 1) (j := 2) (Or.inl ⟨rfl, rfl⟩))) (a_wr_os B (by omega) (a_wr_nz hi.2.1))
  have e : y_cp (ch_ob (ch_nz m) 1 0) (ch_ob (ch_nz m) 1 2) = y_can (ch_ob m 1 0) := by rw [ch_nz_ob, ch_nz_ob, y_can_cp]
  refine ch_C_rq (ch_nz_rq m) (s_l_wouldEnd g q p1 (ch_nz m) ?_)
  rw [e]
  exact ⟨a_i9 hi, fun i hi' => y_i8k (a_inv_nz hi).1 i hi', fun _ => hw _, fun z => absurd hp z⟩
set_option maxHeartbeats 1600000 in
theorem t_l_warrantAt (g : ch_G) (q : Int32 → ch_M → Prop) (T_ : Nat) (p1 : Int32) (m : ch_M) (h : (a_inv T_ m) ∧ (∀ (M_ : ch_M), (a_same m M_) → (a_wr M_) → q (V_wa (y_can (ch_ob m 1 0)) p1) (M_))) : ch_C g m_l_warrantAt [.inr (0, 0, 0), .inl (.int p1)] m (ch_oi q) := by
  obtain ⟨hi, hq⟩ := h
  have hw := hq _ (a_same_nz m) (a_wr_nz hi.2.1)
  unfold V_wa at hw
  have e9 : y_can (ch_ob m 1 0) 0 9 = ch_nz m (1, 0, 0) 9 := by rw [← ch_nz_ob]; rfl
  rw [e9, ← a_part] at hw
  refine ch_C_rq (ch_nz_rq m) (s_l_warrantAt g q p1 (ch_nz m) ⟨a_i9 hi, fun z => ?_, fun z => ?_⟩)
  · rw [if_pos z] at hw
    exact hw
  · rw [if_neg z] at hw
    exact hw
set_option maxHeartbeats 1600000 in
theorem t_l_account (g : ch_G) (q : Int32 → ch_M → Prop) (T_ : Nat) (p1 : Int32) (m : ch_M) (h : (a_inv T_ m) ∧ ((0 : Int32) ≤ p1 ∧ p1 ≤ (9 : Int32)) ∧ (∀ (M_ : ch_M), (a_same m M_) → (a_wr M_) → q (x_acR (y_can (ch_ob m 1 0)) 0 0 p1) (M_))) : ch_C g m_l_account [.inr (0, 0, 0), .inl (.int p1)] m (ch_oi q) := by
  obtain ⟨hi, hp, hq⟩ := h
  have hw := hq _ (a_same_nz m) (a_wr_nz hi.2.1)
  have h11 : p1 ≤ 11 := by
    have h9 : (9 : Int32) ≤ 11 := by decide
    have := hp.2
    grind
  refine ch_C_rq (ch_nz_rq m) (s_l_account g q p1 (ch_nz m) ⟨a_i8 hi, fun _ => ?_, fun z => absurd ⟨hp.1, h11⟩ z⟩)
  have e : ∀ u t, x_acR (y_can (ch_ob m 1 0)) u t p1 = x_acR (y_can (ch_ob m 1 0)) 0 0 p1 := fun u t => by
    have n10 : ¬ p1 = 10 := fun z => by rw [z] at hp; exact absurd hp.2 (by decide)
    have n11 : ¬ p1 = 11 := fun z => by rw [z] at hp; exact absurd hp.2 (by decide)
    have k10 : p1 = 0 ∨ p1 = 1 ∨ p1 = 2 ∨ p1 = 3 ∨ p1 = 4 ∨ p1 = 5 ∨ p1 = 6 ∨ p1 = 7 ∨ p1 = 8 ∨ p1 = 9 := by
      have hv : vp_in p1 10 := ch_vp (n := 10) (by decide) (Int32.not_lt.mpr hp.1) (fun z => by
        have h2 := hp.2
        have : (9 : Int32) < nI 10 := by decide
        have : nI 10 ≤ p1 := z
        grind)
      obtain ⟨k, hk, rfl⟩ := vp_in_of hv (by decide)
      obtain rfl | rfl | rfl | rfl | rfl | rfl | rfl | rfl | rfl | rfl : k = 0 ∨ k = 1 ∨ k = 2 ∨ k = 3 ∨ k = 4 ∨ k = 5 ∨ k = 6 ∨ k = 7 ∨ k = 8 ∨ k = 9 := by omega
      all_goals decide
    rcases k10 with rfl | rfl | rfl | rfl | rfl | rfl | rfl | rfl | rfl | rfl <;> rfl
  rw [ch_nz_ob, e]
  exact hw
set_option maxHeartbeats 1600000 in
theorem t_l_meanChalk (g : ch_G) (q : UInt64 → ch_M → Prop) (T_ : Nat) (m : ch_M) (h : (a_inv T_ m) ∧ (∀ (M_ : ch_M), (a_same m M_) → (a_wr M_) → q (V_mc (y_can (ch_ob m 1 0))) (M_))) : ch_C g m_l_meanChalk [.inr (0, 0, 0)] m (ch_od q) := by
  obtain ⟨hi, hq⟩ := h
  have hw := hq _ (a_same_nz m) (a_wr_nz hi.2.1)
  unfold V_mc at hw
  refine ch_C_rq (ch_nz_rq m) (s_l_meanChalk g q (ch_nz m) ?_)
  rw [ch_nz_ob]
  refine ⟨y_fls_inv (y_inv_sm hi.1 (y_sm_can _)), fun z => ?_, fun z => ?_⟩
  · rw [if_neg z] at hw
    exact hw
  · rw [if_pos z] at hw
    exact hw
set_option maxHeartbeats 1600000 in
theorem t_x_ownedShare (g : ch_G) (q : UInt32 → ch_M → Prop) (T_ : Nat) (m : ch_M) (h : (a_inv T_ m) ∧ (∀ (M_ : ch_M), (a_same m M_) → (a_wr M_) → q (V_os (y_can (ch_ob m 1 0))) (M_))) : ch_C g m_x_ownedShare [.inr (0, 0, 0)] m (ch_of q) := by
  obtain ⟨hi, hq⟩ := h
  refine ch_C_rq (ch_nz_rq m) (s_x_ownedShare g q (ch_nz m) ?_)
  rw [ch_nz_ob]
  exact hq _ (a_same_nz m) (a_wr_nz hi.2.1)
set_option maxHeartbeats 1600000 in
theorem t_x_gap (g : ch_G) (q : Int32 → ch_M → Prop) (T_ : Nat) (m : ch_M) (h : (a_inv T_ m) ∧ (∀ (M_ : ch_M), (a_same m M_) → (a_wr M_) → q ((y_lr ((y_can (ch_ob m 1 0)) 1) (-1) 12).1) (M_))) : ch_C g m_x_gap [.inr (0, 0, 0)] m (ch_oi q) := by
  obtain ⟨hi, hq⟩ := h
  refine ch_C_rq (ch_nz_rq m) (s_x_gap g q (ch_nz m) ?_)
  rw [a_part]
  exact hq _ (a_same_nz m) (a_wr_nz hi.2.1)
