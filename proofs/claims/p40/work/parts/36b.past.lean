/-! what has been: times, how many states are kept and which, is one saved and which, how long the text is -/
abbrev a_G : Type := Nat × Nat × (Nat → ch_B) × (Int32 × ch_B) × Int32
def a_kp (m M : ch_M) : Prop := ∀ a j c k, ((a = 1 ∧ (j = 0 ∨ 3 ≤ j)) ∨ a = 2 ∨ (a = 0 ∧ k = 12) ∨ (a = 6 ∧ j = 0)) → ch_rl (a, j, c) k = true → M (a, j, c) k = m (a, j, c) k
def a_ps (c : Nat) (W : Nat → ch_B) (m : ch_M) : Prop := c ≤ 8 ∧ ∃ n, n < 8 ∧ m (2, 0, 0) 1 = nI n ∧ m (2, 0, 0) 2 = nI c ∧ ∀ k, k < c → y_sm (W k) (ch_ob m 1 (4 + (n + 8 - k) % 8))
def a_S (A : a_G) (m : ch_M) : Prop := y_inv A.1 (ch_ob m 1 0) ∧ a_wr m ∧ (a_ps A.2.1 A.2.2.1 m ∧ ∀ k, k < A.2.1 → y_inv A.1 (A.2.2.1 k)) ∧ (m (0, 0, 0) 12 = A.2.2.2.1.1 ∧ (¬ A.2.2.2.1.1 = 0 → y_inv A.1 A.2.2.2.1.2 ∧ y_sm A.2.2.2.1.2 (ch_ob m 1 3))) ∧ m (6, 0, 0) 1 = A.2.2.2.2 ∧ vp_in (m (5, 0, 0) 1) 13
theorem a_kp_same {m M : ch_M} (h : a_same m M) : a_kp m M := fun a j c k e r => h a j c k (by unfold a_sc; omega) r
theorem a_kp_sm {m M : ch_M} (h : a_kp m M) {j : Nat} (hj : j = 0 ∨ 3 ≤ j) : y_sm (ch_ob m 1 j) (ch_ob M 1 j) := fun c k e => h 1 j c k (Or.inl ⟨rfl, hj⟩) (by rw [ch_rl_1]; exact e)
theorem a_kp_refl (m : ch_M) : a_kp m m := fun _ _ _ _ _ _ => rfl
theorem a_kp_tr {m m' m'' : ch_M} (h : a_kp m m') (h' : a_kp m' m'') : a_kp m m'' := fun a j c k n e => (h' a j c k n e).trans (h a j c k n e)
theorem a_S_kp {A : a_G} {m M : ch_M} (h : a_S A m) (e : a_kp m M) (hw : a_wr M) (h5 : vp_in (M (5, 0, 0) 1) 13) : a_S A M := by
  obtain ⟨b1, b2, ⟨⟨b3, n, b4, b5, b6, b7⟩, b8⟩, ⟨b9, b10⟩, b11, b12⟩ := h
  refine ⟨y_inv_sm b1 (a_kp_sm e (Or.inl rfl)), hw, ⟨⟨b3, n, b4, ?_, ?_, fun k hk => y_sm_tr (b7 k hk) (a_kp_sm e (by omega))⟩, b8⟩, ⟨?_, fun z => ⟨(b10 z).1, y_sm_tr (b10 z).2 (a_kp_sm e (Or.inr (Nat.le_refl 3)))⟩⟩, ?_, h5⟩
  · rw [e 2 0 0 1 (by omega) (by decide)]
    exact b5
  · rw [e 2 0 0 2 (by omega) (by decide)]
    exact b6
  · rw [e 0 0 0 12 (by omega) (by decide)]
    exact b9
  · rw [e 6 0 0 1 (by omega) (by decide)]
    exact b11
theorem a_S_same {A : a_G} {m M : ch_M} (h : a_S A m) (e : a_same m M) (hw : a_wr M) : a_S A M :=
  a_S_kp h (a_kp_same e) hw (by
    rw [e 5 0 0 1 (by unfold a_sc; omega) (by decide)]
    exact h.2.2.2.2.2)
theorem a_S_mono {A : a_G} {m : ch_M} (h : a_S A m) {T : Nat} (hT : T < 2 ^ 31) (hl : A.1 ≤ T) : a_S (T, A.2) m := by
  obtain ⟨b1, b2, ⟨b3, b8⟩, ⟨b9, b10⟩, b11, b12⟩ := h
  exact ⟨y_inv_mono hT b1 hl, b2, ⟨b3, fun k hk => y_inv_mono hT (b8 k hk) hl⟩, ⟨b9, fun z => ⟨y_inv_mono hT (b10 z).1 hl, (b10 z).2⟩⟩, b11, b12⟩
theorem a_S_inv {A : a_G} {m : ch_M} (h : a_S A m) (h0 : A.2.2.2.2 = 0) : a_inv A.1 m := by
  obtain ⟨b1, b2, ⟨⟨b3, n, b4, b5, b6, b7⟩, b8⟩, ⟨b9, b10⟩, b11, b12⟩ := h
  refine ⟨b1, b2, ⟨n, A.2.1, b4, b3, b5, b6, fun k hk => y_inv_sm (b8 k hk) (b7 k hk)⟩, fun z => ?_, b11.trans h0, b12⟩
  rw [b9] at z
  exact y_inv_sm (b10 z).1 (b10 z).2
def a_pu (Y : ch_B) (W : Nat → ch_B) : Nat → ch_B := fun k => if k = 0 then Y else W (k - 1)
def a_up (A : a_G) (T : Nat) (Y : ch_B) : a_G := (T, min (A.2.1 + 1) 8, a_pu Y A.2.2.1, A.2.2.2)
theorem a_S_done {A : a_G} {M : ch_M} {T' : Nat} {Y' : ch_B} (h : a_S A M) (hT : T' < 2 ^ 31) (hl : A.1 ≤ T') (hY : y_inv T' Y') : a_S (a_up A T' (ch_ob M 1 0)) (ch_os (p_kM M 0) 1 0 Y') := by
  obtain ⟨b1, b2, ⟨⟨b3, n, b4, b5, b6, b7⟩, b8⟩, ⟨b9, b10⟩, b11, b12⟩ := h
  have k : ∀ a j, ¬ (a = 1 ∧ (j = 0 ∨ 4 ≤ j)) → ¬ (a = 2 ∧ j = 0) → ch_ob (ch_os (p_kM M 0) 1 0 Y') a j = ch_ob M a j := fun a j a1 a2 => by
    rw [ch_ob_ne (by omega)]
    unfold p_kM
    rw [ch_ob_ne (by omega), ch_ob_ne a2]
  have kc : ∀ a j c i, ¬ (a = 1 ∧ (j = 0 ∨ 4 ≤ j)) → ¬ (a = 2 ∧ j = 0) → ch_os (p_kM M 0) 1 0 Y' (a, j, c) i = M (a, j, c) i := fun a j c i a1 a2 => congrFun (congrFun (k a j a1 a2) c) i
  have e2 : ch_ob (ch_os (p_kM M 0) 1 0 Y') 2 0 = p_kB (ch_ob M 2 0) := by
    rw [ch_ob_ne (by omega)]
    unfold p_kM
    rw [ch_ob_ne (by omega), ch_ob_os]
  obtain ⟨q1, q2⟩ := lw_kn (P := ch_ob M 2 0) b4 b5
  have e1 : ∀ i, ch_ob (ch_os (p_kM M 0) 1 0 Y') 1 (4 + i) = if i = (n + 1) % 8 then y_cp (ch_ob M 1 0) (ch_ob M 1 (4 + i)) else ch_ob M 1 (4 + i) := fun i => by
    rw [ch_ob_ne (by omega)]
    unfold p_kM
    rw [q1]
    by_cases e : i = (n + 1) % 8
    · rw [if_pos e, ← e, ch_ob_os]
    · rw [if_neg e, ch_ob_ne (by omega), ch_ob_ne (by omega)]
  have c1 : ch_os (p_kM M 0) 1 0 Y' (2, 0, 0) 1 = nI ((n + 1) % 8) := by
    have := congrFun (congrFun e2 0) 1
    rw [q2] at this
    exact this
  have c2 : ch_os (p_kM M 0) 1 0 Y' (2, 0, 0) 2 = nI (min (A.2.1 + 1) 8) := by
    have e3 := congrFun (congrFun e2 0) 2
    have e4 : p_kB (ch_ob M 2 0) 0 2 = nI (min (A.2.1 + 1) 8) := by
      unfold p_kB
      rw [ch_bw_at]
      have b6' : ch_ob M 2 0 0 2 = nI A.2.1 := b6
      rw [b6']
      by_cases h8 : A.2.1 = 8
      · rw [h8]
        decide
      · rw [if_neg (show ¬ (8 : Int32) ≤ nI A.2.1 from nI_ge (b := 8) (by omega) (by decide)), nI_1, Nat.min_eq_left (by omega)]
    rw [e4] at e3
    exact e3
  refine ⟨?_, ?_, ⟨⟨Nat.min_le_right _ _, (n + 1) % 8, Nat.mod_lt _ (by decide), c1, c2, fun i hi => ?_⟩, fun i hi => ?_⟩, ⟨?_, fun z => ⟨y_inv_mono hT (b10 z).1 hl, ?_⟩⟩, ?_, ?_⟩
  · rw [ch_ob_os]
    exact hY
  · unfold a_wr a_nr
    have w : ∀ c i, ch_os (p_kM M 0) 1 0 Y' (6, 1, c) i = M (6, 1, c) i := fun c i => kc 6 1 c i (by omega) (by omega)
    refine ⟨by rw [w]; exact b2.1, fun i hi => by rw [w]; exact b2.2 i hi⟩
  · have hi : i < min (A.2.1 + 1) 8 := hi
    show y_sm (a_pu (ch_ob M 1 0) A.2.2.1 i) _
    rw [e1]
    cases i with
    | zero =>
      rw [if_pos (by omega)]
      exact y_cp_sm _ _
    | succ i =>
      rw [if_neg (by omega)]
      have e5 : ((n + 1) % 8 + 8 - (i + 1)) % 8 = (n + 8 - i) % 8 := by omega
      rw [e5]
      exact b7 i (by omega)
  · have hi : i < min (A.2.1 + 1) 8 := hi
    show y_inv T' (a_pu (ch_ob M 1 0) A.2.2.1 i)
    cases i with
    | zero => exact y_inv_mono hT b1 hl
    | succ i => exact y_inv_mono hT (b8 i (by omega)) hl
  · rw [kc 0 0 0 12 (by omega) (by omega)]
    exact b9
  · rw [k 1 3 (by omega) (by omega)]
    exact (b10 z).2
  · rw [kc 6 0 0 1 (by omega) (by omega)]
    exact b11
  · rw [kc 5 0 0 1 (by omega) (by omega)]
    exact b12
/-- a call that changes, by its command -/
theorem a_mut {A : a_G} {m M : ch_M} {W : Int32 × Int32} {v : Int32} {Y' : ch_B} (hM : a_S A M) (e1 : ch_ob M 1 0 = ch_ob m 1 0) (hT : A.1 + 12 < 2 ^ 31) (hT0 : 0 < A.1) (hR : x_R M = W) (hC : x_C M = (v, Y')) :
    (vp_in (M (1, 0, 0) 8) 6 ∧ vp_in (M (5, 0, 0) 1) 13 ∧ vp_in (M (2, 0, 0) 1) 8 ∧ ((x_R M).1 = 0 → y_carP (ch_ob M 1 0) (ch_ob M 4 0) (M (5, 0, 0) 1))) ∧
    (W.1 = 0 → a_S (a_up A (A.1 + 12) (ch_ob m 1 0)) (ch_os (p_kM M 0) 1 0 (x_C M).2) ∧ ch_ob (ch_os (p_kM M 0) 1 0 (x_C M).2) 1 0 = Y') ∧
    (a_S A (r_kp M (x_R M).1 (x_R M).2) ∧ ch_ob (r_kp M (x_R M).1 (x_R M).2) 1 0 = ch_ob m 1 0 ∧ r_kp M (x_R M).1 (x_R M).2 (3, 0, 0) 0 = W.1 ∧ r_kp M (x_R M).1 (x_R M).2 (3, 0, 0) 1 = W.2 ∧ r_kp M (x_R M).1 (x_R M).2 (3, 0, 0) 2 = 0) := by
  have hc : (x_R M).1 = 0 → y_inv (A.1 + 12) (x_C M).2 ∧ y_carP (ch_ob M 1 0) (ch_ob M 4 0) (M (5, 0, 0) 1) := fun z => y_car_inv hT hT0 hM.1 hM.2.2.2.2.2 z
  obtain ⟨n, b4, b5, -⟩ := hM.2.2.1.1.2
  refine ⟨⟨y_i8 hM.1, hM.2.2.2.2.2, by rw [b5]; exact vp_in_nI b4 (by decide), fun z => (hc z).2⟩, fun z => ⟨?_, ?_⟩, ?_, ?_, ?_, ?_, ?_⟩
  · rw [← e1]
    exact a_S_done hM hT (by omega) (hc (by rw [hR]; exact z)).1
  · rw [ch_ob_os, hC]
  · have k : ∀ a j c i, ¬ (a = 3 ∧ j = 0) → r_kp M (x_R M).1 (x_R M).2 (a, j, c) i = M (a, j, c) i := fun a j c i a1 => by
      unfold r_kp
      rw [ch_os_ne a1]
    refine a_S_kp hM (fun a j c i z _ => k a j c i (by omega)) ⟨?_, fun i hi => ?_⟩ ?_
    · rw [k 6 1 0 1 (by omega)]
      exact hM.2.1.1
    · rw [k 6 1 1 i (by omega)]
      exact hM.2.1.2 i hi
    · rw [k 5 0 0 1 (by omega)]
      exact hM.2.2.2.2.2
  · unfold r_kp
    rw [ch_ob_ne (by omega), e1]
  · unfold r_kp
    rw [ch_os_at, hR, ch_bw_k (by decide), ch_bw_k (by decide), ch_bw_at]
  · unfold r_kp
    rw [ch_os_at, hR, ch_bw_k (by decide), ch_bw_at]
  · unfold r_kp
    rw [ch_os_at, ch_bw_at]
theorem a_S_K {A : a_G} {m : ch_M} (h : a_S A m) (a b c d : Int32) : a_S A (x_K m a b c d) ∧ ch_ob (x_K m a b c d) 1 0 = ch_ob m 1 0 := by
  unfold x_K
  refine ⟨a_S_kp h (fun a' j c' i z _ => by rw [ch_os_ne (by show ¬ (a' = 4 ∧ j = 0); omega)]) ?_ ?_, ch_ob_ne (by omega)⟩
  · exact a_wr_os _ (by omega) h.2.1
  · rw [ch_os_ne (by decide)]
    exact h.2.2.2.2.2
theorem a_S_X {A : a_G} {m : ch_M} (h : a_S A m) (p : Int32) : a_S A (x_S m p) ∧ ch_ob (x_S m p) 1 0 = ch_ob m 1 0 ∧ ch_ob (x_S m p) 4 0 = ch_ob m 4 0 ∧ x_S m p (5, 0, 1) = s_rf (ch_ob m 5 0) p ∧ x_S m p (5, 0, 0) 1 = s_rfB (ch_ob m 5 0) p 0 1 := by
  unfold x_S
  refine ⟨a_S_kp h (fun a' j c' i z _ => by rw [ch_os_ne (by show ¬ (a' = 5 ∧ j = 0); omega)]) ?_ ?_, ch_ob_ne (by omega), ch_ob_ne (by omega), ?_, ?_⟩
  · exact a_wr_os _ (by omega) h.2.1
  · rw [ch_os_at]
    exact s_rfB_n _ _
  · funext i
    rw [ch_os_at]
    rfl
  · rw [ch_os_at]
theorem a_14p (M : ch_M) (Y : ch_B) (k : Nat) : ch_os (p_kM M 0) 1 0 Y (14, 0, 1) k = M (14, 0, 1) k := by
  unfold p_kM
  rw [ch_os_ne (by decide), ch_os_ne (fun z => absurd (show (14 : Nat) = 1 from z.1) (by decide)), ch_os_ne (by decide)]
theorem a_14r (M : ch_M) (w d : Int32) (k : Nat) : r_kp M w d (14, 0, 1) k = M (14, 0, 1) k := by
  unfold r_kp
  rw [ch_os_ne (by decide)]
theorem a_14K (m : ch_M) (a b c d : Int32) (k : Nat) : x_K m a b c d (14, 0, 1) k = m (14, 0, 1) k := by
  unfold x_K
  rw [ch_os_ne (by decide)]
theorem a_14S (m : ch_M) (p : Int32) (k : Nat) : x_S m p (14, 0, 1) k = m (14, 0, 1) k := by
  unfold x_S
  rw [ch_os_ne (by decide)]
theorem a_14t (m : ch_M) (B : ch_B) (k : Nat) : ch_os m 6 0 B (14, 0, 1) k = m (14, 0, 1) k := by
  rw [ch_os_ne (by decide)]
