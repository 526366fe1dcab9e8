/-- an empty block -/
def z_B : ch_B := fun _ _ => 0
def V_rf (Y : ch_B) (c : Int32) : Int32 := if Y 5 c.toNatClampNeg = 0 then -1002 else Y 5 c.toNatClampNeg
def V_wl (Y : ch_B) (c : Int32) : Int32 := y_ofS (Y 1) c (Y 3 c.toNatClampNeg) 12
noncomputable def V_tf (Y : ch_B) (c : Int32) : Int32 := if (x_tt c 40 1 Y).1 = 0 then -1002 else (x_tt c 40 1 Y).1
def V_T (Y : ch_B) (c : Int32) : ch_B := x_sT z_B (w_fl z_B (w_l Y c) 12)
def V_st (Y : ch_B) (c p : Int32) : Int32 := if 0 ≤ p ∧ p < V_T Y c 0 1 then V_T Y c 1 p.toNatClampNeg else -1002
noncomputable def V_rk (Y : ch_B) (w p : Int32) : Int32 := x_rk Y w p (Y 0 8).toNatClampNeg
def V_wa (Y : ch_B) (p : Int32) : Int32 := if 0 ≤ p ∧ p < Y 0 9 then Y 8 p.toNatClampNeg else -1001
def V_mc (Y : ch_B) : UInt64 := if 12 - ch_cnO (Y 1) (-1) 12 = 0 then 13875388141788987392 else FP.ddiv (FP.i2d (y_sum (Y 2) 12)) (FP.i2d (12 - ch_cnO (Y 1) (-1) 12))
def V_os (Y : ch_B) : UInt32 := FP.fdiv (FP.i2f (12 - ch_cnO (Y 1) (-1) 12)) 1094713344
def V_wn (Y : ch_B) : ch_B := x_wn Y z_B (Y 0 9).toNatClampNeg
theorem a_part (m : ch_M) (c : Nat) : ch_nz m (1, 0, c) = y_can (ch_ob m 1 0) c := by
  rw [← ch_nz_ob]
  rfl
theorem a_nz8 (m : ch_M) : ch_nz m (1, 0, 0) 8 = m (1, 0, 0) 8 := ch_nz_at (by decide)
theorem a_can8 (m : ch_M) : y_can (ch_ob m 1 0) 0 8 = m (1, 0, 0) 8 := y_can_at (by decide)
theorem a_can9 (m : ch_M) : y_can (ch_ob m 1 0) 0 9 = m (1, 0, 0) 9 := y_can_at (by decide)
theorem a_i8 {T : Nat} {m : ch_M} (h : a_inv T m) : vp_in (ch_nz m (1, 0, 0) 8) 6 := y_i8 (a_inv_nz h).1
theorem a_i9 {T : Nat} {m : ch_M} (h : a_inv T m) : vp_in (ch_nz m (1, 0, 0) 9) 6 := y_i9 (a_inv_nz h).1
set_option maxHeartbeats 1600000 in
theorem t_l_of (g : ch_G) (q : Int32 → ch_M → Prop) (T_ : Nat) (p1 : Int32) (p2 : Int32) (m : ch_M) (h : (a_inv T_ m) ∧ (0 ≤ p1 ∧ p1 < m (1, 0, 0) 8) ∧ ((0 : Int32) ≤ p2 ∧ p2 ≤ (6 : Int32)) ∧ (∀ (M_ : ch_M), (a_same m M_) → (a_wr M_) → q (x_coR (y_can (ch_ob m 1 0)) p1 p2) (M_))) : ch_C g m_l_of [.inr (0, 0, 0), .inl (.int p1), .inl (.int p2)] m (ch_oi q) := by
  obtain ⟨hi, hc, hw, hq⟩ := h
  rw [← a_nz8 m] at hc
  refine ch_C_rq (ch_nz_rq m) (s_l_of g q p1 p2 (ch_nz m) ⟨a_i8 hi, fun _ => ?_, fun z => absurd hc z, fun z => absurd hw z.2⟩)
  rw [ch_nz_ob]
  exact hq _ (a_same_nz m) (a_wr_nz hi.2.1)
set_option maxHeartbeats 1600000 in
theorem t_l_squares (g : ch_G) (q : Int32 → ch_M → Prop) (T_ : Nat) (p1 : Int32) (m : ch_M) (h : (a_inv T_ m) ∧ (0 ≤ p1 ∧ p1 < m (1, 0, 0) 8) ∧ (∀ (M_ : ch_M), (a_same m M_) → (a_wr M_) → q (y_ofS ((y_can (ch_ob m 1 0)) 1) p1 0 12) (M_))) : ch_C g m_l_squares [.inr (0, 0, 0), .inl (.int p1)] m (ch_oi q) := by
  obtain ⟨hi, hc, hq⟩ := h
  rw [← a_nz8 m] at hc
  refine ch_C_rq (ch_nz_rq m) (s_l_squares g q p1 (ch_nz m) ⟨fun _ => ?_, fun z => absurd hc z⟩)
  rw [a_part]
  exact hq _ (a_same_nz m) (a_wr_nz hi.2.1)
set_option maxHeartbeats 1600000 in
theorem t_l_longest (g : ch_G) (q : Int32 → ch_M → Prop) (T_ : Nat) (p1 : Int32) (m : ch_M) (h : (a_inv T_ m) ∧ (0 ≤ p1 ∧ p1 < m (1, 0, 0) 8) ∧ (∀ (M_ : ch_M), (a_same m M_) → (a_wr M_) → q ((y_lr ((y_can (ch_ob m 1 0)) 1) p1 12).1) (M_))) : ch_C g m_l_longest [.inr (0, 0, 0), .inl (.int p1)] m (ch_oi q) := by
  obtain ⟨hi, hc, hq⟩ := h
  rw [← a_nz8 m] at hc
  refine ch_C_rq (ch_nz_rq m) (s_l_longest g q p1 (ch_nz m) ⟨fun _ => ?_, fun z => absurd hc z⟩)
  rw [a_part]
  exact hq _ (a_same_nz m) (a_wr_nz hi.2.1)
theorem w_fl_ind (B B' Y : ch_B) (c : Int32) : (∀ k, k < 12 → w_fl B (w_l Y c) 12 3 k = w_fl B' (w_l Y c) 12 3 k) ∧ w_fl B (w_l Y c) 12 1 0 = w_fl B' (w_l Y c) 12 1 0 := by
  obtain ⟨A, C, S, h1, h2, h3⟩ := w_fl_sp B Y c
  obtain ⟨A', C', S', h1', h2', h3'⟩ := w_fl_sp B' Y c
  have un := w_sp_un h1 h1' 12
  refine ⟨fun k hk => ?_, ?_⟩
  · rw [h3 k hk, h3' k hk, (un k (by omega)).2.2 hk]
  · rw [(h2 0 (by omega)).1, (h2' 0 (by omega)).1, (un 0 (by omega)).1]
theorem w_fo_ind (B B' Y : ch_B) (c : Int32) : (w_fo B (w_l Y c) 14).2 = (w_fo B' (w_l Y c) 14).2 := by
  obtain ⟨A, C, S, h1, -, -⟩ := w_fl_sp B Y c
  rw [w_fo_sp B Y c h1, w_fo_sp B' Y c h1]
theorem a_same_os {m : ch_M} {a j : Nat} (B : ch_B) (h : a_sc a j) : a_same m (ch_os m a j B) := fun a' j' c k n _ => by
  rw [ch_os_ne (fun q => n (by
    have q1 : a' = a := q.1
    have q2 : j' = j := q.2
    rw [q1, q2]; exact h))]
theorem a_wr_os {m : ch_M} {a j : Nat} (B : ch_B) (h : ¬ (a = 6 ∧ j = 1)) (hw : a_wr m) : a_wr (ch_os m a j B) := by
  have e : ∀ c, ch_os m a j B (6, 1, c) = m (6, 1, c) := fun c => ch_os_ne (fun q => h ⟨q.1.symm, q.2.symm⟩)
  unfold a_wr a_nr
  rw [e 0, e 1]
  exact hw
set_option maxHeartbeats 1600000 in
theorem t_l_fewest (g : ch_G) (q : Int32 → ch_M → Prop) (T_ : Nat) (p1 : Int32) (m : ch_M) (h : (a_inv T_ m) ∧ (0 ≤ p1 ∧ p1 < m (1, 0, 0) 8) ∧ (∀ (M_ : ch_M), (a_same m M_) → (a_wr M_) → q (w_fl z_B (w_l (y_can (ch_ob m 1 0)) p1) 12 1 0) (M_))) : ch_C g m_l_fewest [.inr (0, 0, 0), .inl (.int p1)] m (ch_oi q) := by
  obtain ⟨hi, hc, hq⟩ := h
  rw [← a_nz8 m] at hc
  refine ch_C_rq (ch_nz_rq m) (s_l_fewest g q p1 (ch_nz m) ⟨fun _ => ?_, fun z => absurd hc z⟩)
  rw [ch_nz_ob, (w_fl_ind (ch_ob (ch_nz m) 8 0) z_B (y_can (ch_ob m 1 0)) p1).2]
  exact hq _ (a_same_tr (a_same_nz m) (a_same_os _ (Or.inr (Or.inl rfl)))) (a_wr_os _ (by omega) (a_wr_nz hi.2.1))
set_option maxHeartbeats 1600000 in
theorem t_l_fewestAgain (g : ch_G) (q : Int32 → ch_M → Prop) (T_ : Nat) (p1 : Int32) (m : ch_M) (h : (a_inv T_ m) ∧ (0 ≤ p1 ∧ p1 < m (1, 0, 0) 8) ∧ (∀ (M_ : ch_M), (a_same m M_) → (a_wr M_) → q ((w_fo z_B (w_l (y_can (ch_ob m 1 0)) p1) 14).2) (M_))) : ch_C g m_l_fewestAgain [.inr (0, 0, 0), .inl (.int p1)] m (ch_oi q) := by
  obtain ⟨hi, hc, hq⟩ := h
  rw [← a_nz8 m] at hc
  refine ch_C_rq (ch_nz_rq m) (s_l_fewestAgain g q p1 (ch_nz m) ⟨fun _ => ?_, fun z => absurd hc z⟩)
  rw [ch_nz_ob, w_fo_ind (ch_ob (ch_nz m) 8 0) z_B (y_can (ch_ob m 1 0)) p1]
  exact hq _ (a_same_tr (a_same_nz m) (a_same_os _ (Or.inr (Or.inl rfl)))) (a_wr_os _ (by omega) (a_wr_nz hi.2.1))
set_option maxHeartbeats 1600000 in
theorem t_l_rainFor (g : ch_G) (q : Int32 → ch_M → Prop) (T_ : Nat) (p1 : Int32) (m : ch_M) (h : (a_inv T_ m) ∧ (0 ≤ p1 ∧ p1 < m (1, 0, 0) 8) ∧ (∀ (M_ : ch_M), (a_same m M_) → (a_wr M_) → q (V_rf (y_can (ch_ob m 1 0)) p1) (M_))) : ch_C g m_l_rainFor [.inr (0, 0, 0), .inl (.int p1)] m (ch_oi q) := by
  obtain ⟨hi, hc, hq⟩ := h
  rw [← a_nz8 m] at hc
  have hw := hq _ (a_same_nz m) (a_wr_nz hi.2.1)
  unfold V_rf at hw
  rw [← a_part] at hw
  refine ch_C_rq (ch_nz_rq m) (s_l_rainFor g q p1 (ch_nz m) ⟨a_i8 hi, fun z => ?_, fun z => absurd hc z, fun z => ?_⟩)
  · rw [if_neg z.2] at hw
    exact hw
  · rw [if_pos z.2] at hw
    exact hw
set_option maxHeartbeats 1600000 in
theorem t_l_wouldLose (g : ch_G) (q : Int32 → ch_M → Prop) (T_ : Nat) (p1 : Int32) (m : ch_M) (h : (a_inv T_ m) ∧ (0 ≤ p1 ∧ p1 < m (1, 0, 0) 8) ∧ (∀ (M_ : ch_M), (a_same m M_) → (a_wr M_) → q (V_wl (y_can (ch_ob m 1 0)) p1) (M_))) : ch_C g m_l_wouldLose [.inr (0, 0, 0), .inl (.int p1)] m (ch_oi q) := by
  obtain ⟨hi, hc, hq⟩ := h
  rw [← a_nz8 m] at hc
  have hw := hq _ (a_same_nz m) (a_wr_nz hi.2.1)
  unfold V_wl at hw
  rw [← a_part, ← a_part] at hw
  exact ch_C_rq (ch_nz_rq m) (s_l_wouldLose g q p1 (ch_nz m) ⟨a_i8 hi, fun z => hw, fun z => absurd hc z⟩)
set_option maxHeartbeats 1600000 in
theorem t_l_termsFor (g : ch_G) (q : Int32 → ch_M → Prop) (T_ : Nat) (p1 : Int32) (m : ch_M) (h : (a_inv T_ m) ∧ (0 ≤ p1 ∧ p1 < m (1, 0, 0) 8) ∧ (∀ (M_ : ch_M), (a_same m M_) → (a_wr M_) → q (V_tf (y_can (ch_ob m 1 0)) p1) (M_))) : ch_C g m_l_termsFor [.inr (0, 0, 0), .inl (.int p1)] m (ch_oi q) := by
  obtain ⟨hi, hc, hq⟩ := h
  rw [← a_nz8 m] at hc
  have hw := fun B => hq _ (a_same_tr (a_same_nz m) (a_same_os B (a := 1) (j := 2) (Or.inl ⟨rfl, rfl⟩))) (a_wr_os B (by omega) (a_wr_nz hi.2.1))
  unfold V_tf at hw
  have e : y_cp (ch_ob (ch_nz m) 1 0) (ch_ob (ch_nz m) 1 2) = y_can (ch_ob m 1 0) := by rw [ch_nz_ob, ch_nz_ob, y_can_cp]
  refine ch_C_rq (ch_nz_rq m) (s_l_termsFor g q p1 (ch_nz m) ?_)
  rw [e]
  refine ⟨a_i8 hi, fun z => ?_, fun z => absurd hc z, fun z => ?_⟩
  · have h2 := hw ((x_tt p1 40 1 (y_can (ch_ob m 1 0))).2)
    rw [if_neg z.2] at h2
    exact h2
  · have h2 := hw ((x_tt p1 40 1 (y_can (ch_ob m 1 0))).2)
    rw [if_pos z.2] at h2
    exact h2
