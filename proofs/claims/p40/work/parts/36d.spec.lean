def a_dn (A : a_G) : a_G := (A.1, A.2.1 - 1, (fun k => A.2.2.1 (k + 1)), A.2.2.2)
def a_re (A : a_G) : a_G := (A.1, 0, A.2.2.1, A.2.2.2)
def a_sv (A : a_G) (Y : ch_B) : a_G := (A.1, A.2.1, A.2.2.1, (1, Y), A.2.2.2.2)
def a_c0 (A : a_G) : a_G := (A.1, A.2.1, A.2.2.1, A.2.2.2.1, 0)
theorem nI_m1 {c : Nat} (h : ¬ c = 0) : nI c - 1 = nI (c - 1) := by
  rw [show nI c = nI (c - 1) + 1 from by rw [nI_1, show c - 1 + 1 = c by omega]]
  exact Int32.add_sub_cancel _ _
theorem ch_wr_nk {m : ch_M} {a b : ch_Ad} {k i : Nat} {x : Int32} (h : ¬ (b.1 = a.1 ∧ i = k)) : ch_wr m a k x b i = m b i := by
  by_cases e : b = a
  · rw [e, ch_wr_k (fun z => h ⟨congrArg Prod.fst e, z⟩)]
  · rw [ch_wr_ne e]
set_option maxHeartbeats 1600000 in
theorem t_l_undo (g : ch_G) (q : Int32 → ch_M → Prop) (A_ : a_G) (m : ch_M) (h : (a_S A_ m) ∧ ((¬ A_.2.1 = 0) → (∀ (M_ : ch_M), (a_S (a_dn A_) M_) → (y_sm (A_.2.2.1 0) (ch_ob M_ 1 0)) → (∀ k_, M_ (14, 0, 1) k_ = m (14, 0, 1) k_) → q (nI (A_.2.1 - 1)) (M_))) ∧ ((A_.2.1 = 0) → q (-1001) m)) : ch_C g m_l_undo [.inr (0, 0, 0)] m (ch_oi q) := by
  obtain ⟨hA, hq1, hq2⟩ := h
  obtain ⟨b1, b2, ⟨⟨b3, n, b4, b5, b6, b7⟩, b8⟩, ⟨b9, b10⟩, b11, b12⟩ := hA
  by_cases h0 : A_.2.1 = 0
  · have e0 : m (2, 0, 0) 2 = 0 := by rw [b6, h0]; rfl
    exact s_l_undo g q m ⟨by rw [b5]; exact vp_in_nI b4 (by decide), fun z => absurd e0 z, fun _ => hq2 h0⟩
  · have e0 : ¬ m (2, 0, 0) 2 = 0 := fun z => by
      rw [b6] at z
      exact nI_ne0 (by omega) (by omega) z
    refine s_l_undo g q m ⟨by rw [b5]; exact vp_in_nI b4 (by decide), fun _ => ?_, fun z => absurd z e0⟩
    rw [b5, nI_clamp (by omega)]
    have e2 : m (2, 0, 0) 2 - 1 = nI (A_.2.1 - 1) := by
      rw [b6]
      exact nI_m1 h0
    rw [e2]
    have h1 := b7 0 (by omega)
    have en : 4 + (n + 8 - 0) % 8 = 4 + n := by omega
    rw [en] at h1
    have hk : ∀ a j c i, ¬ (a = 1 ∧ j = 0) → ¬ (a = 2 ∧ j = 0) → ch_os (ch_os m 1 0 (y_cp (ch_ob m 1 (4 + n)) (ch_ob m 1 0))) 2 0 (p_gB (ch_ob m 2 0)) (a, j, c) i = m (a, j, c) i := fun a j c i a1 a2 => by
      rw [ch_os_ne a2, ch_os_ne a1]
    have hj : ∀ j, 3 ≤ j → ch_ob (ch_os (ch_os m 1 0 (y_cp (ch_ob m 1 (4 + n)) (ch_ob m 1 0))) 2 0 (p_gB (ch_ob m 2 0))) 1 j = ch_ob m 1 j := fun j hj => by
      rw [ch_ob_ne (by omega), ch_ob_ne (by omega)]
    have h10 : ch_ob (ch_os (ch_os m 1 0 (y_cp (ch_ob m 1 (4 + n)) (ch_ob m 1 0))) 2 0 (p_gB (ch_ob m 2 0))) 1 0 = y_cp (ch_ob m 1 (4 + n)) (ch_ob m 1 0) := by
      rw [ch_ob_ne (by omega), ch_ob_os]
    have hsm : y_sm (A_.2.2.1 0) (y_cp (ch_ob m 1 (4 + n)) (ch_ob m 1 0)) := y_sm_tr h1 (y_cp_sm _ _)
    refine hq1 h0 _ ⟨?_, ?_, ⟨⟨by show A_.2.1 - 1 ≤ 8; omega, if n = 0 then 7 else n - 1, by split <;> omega, ?_, ?_, fun k hk' => ?_⟩, fun k hk' => b8 (k + 1) (by have : k < A_.2.1 - 1 := hk'; omega)⟩, ⟨by rw [hk 0 0 0 12 (by omega) (by omega)]; exact b9, fun z => ⟨(b10 z).1, by rw [hj 3 (by omega)]; exact (b10 z).2⟩⟩, by rw [hk 6 0 0 1 (by omega) (by omega)]; exact b11, by rw [hk 5 0 0 1 (by omega) (by omega)]; exact b12⟩ ?_ (fun k => hk 14 0 1 k (by omega) (by omega))
    · rw [h10]
      exact y_inv_sm (b8 0 (by omega)) hsm
    · refine ⟨by rw [hk 6 1 0 1 (by omega) (by omega)]; exact b2.1, fun i hi => by rw [hk 6 1 1 i (by omega) (by omega)]; exact b2.2 i hi⟩
    · rw [ch_os_at]
      unfold p_gB
      rw [ch_bw_k (by decide), ch_bw_at]
      have b5' : ch_ob m 2 0 0 1 = nI n := b5
      rw [b5']
      by_cases z : n = 0
      · rw [z]
        decide
      · rw [if_neg z, if_neg (show ¬ nI n ≤ 0 from nI_ge (a := 0) (by omega) (by omega))]
        exact nI_m1 z
    · rw [ch_os_at]
      unfold p_gB
      rw [ch_bw_at]
      exact e2
    · have hk' : k < A_.2.1 - 1 := hk'
      rw [hj _ (by omega)]
      have h2 := b7 (k + 1) (by omega)
      have e3 : ((if n = 0 then 7 else n - 1) + 8 - k) % 8 = (n + 8 - (k + 1)) % 8 := by
        split <;> omega
      rw [e3]
      exact h2
    · rw [h10]
      exact hsm
set_option maxHeartbeats 1600000 in
theorem t_l_restore (g : ch_G) (q : Int32 → ch_M → Prop) (A_ : a_G) (m : ch_M) (h : (a_S A_ m) ∧ ((¬ A_.2.2.2.1.1 = 0) → (∀ (M_ : ch_M), (a_S (a_re A_) M_) → (y_sm A_.2.2.2.1.2 (ch_ob M_ 1 0)) → (∀ k_, M_ (14, 0, 1) k_ = m (14, 0, 1) k_) → q (A_.2.2.2.1.2 0 8) (M_))) ∧ ((A_.2.2.2.1.1 = 0) → q (-1001) m)) : ch_C g m_l_restore [.inr (0, 0, 0)] m (ch_oi q) := by
  obtain ⟨hA, hq1, hq2⟩ := h
  obtain ⟨b1, b2, ⟨⟨b3, n, b4, b5, b6, b7⟩, b8⟩, ⟨b9, b10⟩, b11, b12⟩ := hA
  refine s_l_restore g q m ⟨fun z => ?_, fun z => hq2 (by rw [← b9]; exact z)⟩
  rw [b9] at z
  have e8 : m (1, 3, 0) 8 = A_.2.2.2.1.2 0 8 := (b10 z).2 0 8 (by decide)
  rw [e8]
  have hk : ∀ a j c i, ¬ (a = 1 ∧ j = 0) → ¬ (a = 2 ∧ i = 2) → ch_wr (ch_os m 1 0 (y_cp (ch_ob m 1 3) (ch_ob m 1 0))) (2, 0, 0) 2 0 (a, j, c) i = m (a, j, c) i := fun a j c i a1 a2 => by
    rw [ch_wr_nk a2, ch_os_ne a1]
  have hj : ∀ j, 3 ≤ j → ch_ob (ch_wr (ch_os m 1 0 (y_cp (ch_ob m 1 3) (ch_ob m 1 0))) (2, 0, 0) 2 0) 1 j = ch_ob m 1 j := fun j hj => by
    funext c i
    exact hk 1 j c i (by omega) (by omega)
  have h10 : ch_ob (ch_wr (ch_os m 1 0 (y_cp (ch_ob m 1 3) (ch_ob m 1 0))) (2, 0, 0) 2 0) 1 0 = y_cp (ch_ob m 1 3) (ch_ob m 1 0) := by
    rw [ch_wr_os, ch_ob_ne (by omega), ch_ob_os]
  have hsm : y_sm A_.2.2.2.1.2 (y_cp (ch_ob m 1 3) (ch_ob m 1 0)) := y_sm_tr (b10 z).2 (y_cp_sm _ _)
  refine hq1 z _ ⟨?_, ?_, ⟨⟨Nat.zero_le _, n, b4, by rw [hk 2 0 0 1 (by omega) (by omega)]; exact b5, ?_, fun k hk' => absurd hk' (Nat.not_lt_zero _)⟩, fun k hk' => absurd hk' (Nat.not_lt_zero _)⟩, ⟨by rw [hk 0 0 0 12 (by omega) (by omega)]; exact b9, fun z => ⟨(b10 z).1, by rw [hj 3 (by omega)]; exact (b10 z).2⟩⟩, by rw [hk 6 0 0 1 (by omega) (by omega)]; exact b11, by rw [hk 5 0 0 1 (by omega) (by omega)]; exact b12⟩ ?_ (fun k => hk 14 0 1 k (by omega) (by omega))
  · rw [h10]
    exact y_inv_sm (b10 z).1 hsm
  · refine ⟨by rw [hk 6 1 0 1 (by omega) (by omega)]; exact b2.1, fun i hi => by rw [hk 6 1 1 i (by omega) (by omega)]; exact b2.2 i hi⟩
  · exact ch_wr_v _ _ _ _
  · rw [h10]
    exact hsm
set_option maxHeartbeats 1600000 in
theorem t_x_save (g : ch_G) (q : Int32 → ch_M → Prop) (A_ : a_G) (m : ch_M) (h : (a_S A_ m) ∧ (∀ (M_ : ch_M), (a_S (a_sv A_ (ch_ob m 1 0)) M_) → (ch_ob M_ 1 0 = ch_ob m 1 0) → (∀ k_, M_ (14, 0, 1) k_ = m (14, 0, 1) k_) → q (m (1, 0, 0) 8) (M_))) : ch_C g m_x_save [.inr (0, 0, 0)] m (ch_oi q) := by
  obtain ⟨hA, hq⟩ := h
  obtain ⟨b1, b2, ⟨⟨b3, n, b4, b5, b6, b7⟩, b8⟩, ⟨b9, b10⟩, b11, b12⟩ := hA
  refine s_x_save g q m ?_
  have hk : ∀ a j c i, ¬ (a = 1 ∧ j = 3) → ¬ (a = 0 ∧ i = 12) → ch_wr (ch_os m 1 3 (y_cp (ch_ob m 1 0) (ch_ob m 1 3))) (0, 0, 0) 12 1 (a, j, c) i = m (a, j, c) i := fun a j c i a1 a2 => by
    rw [ch_wr_nk a2, ch_os_ne a1]
  have hj : ∀ j, ¬ j = 3 → ch_ob (ch_wr (ch_os m 1 3 (y_cp (ch_ob m 1 0) (ch_ob m 1 3))) (0, 0, 0) 12 1) 1 j = ch_ob m 1 j := fun j hj => by
    funext c i
    exact hk 1 j c i (by omega) (by omega)
  have h13 : ch_ob (ch_wr (ch_os m 1 3 (y_cp (ch_ob m 1 0) (ch_ob m 1 3))) (0, 0, 0) 12 1) 1 3 = y_cp (ch_ob m 1 0) (ch_ob m 1 3) := by
    rw [ch_wr_os, ch_ob_ne (by omega), ch_ob_os]
  refine hq _ ⟨?_, ?_, ⟨⟨b3, n, b4, by rw [hk 2 0 0 1 (by omega) (by omega)]; exact b5, by rw [hk 2 0 0 2 (by omega) (by omega)]; exact b6, fun k hk' => by rw [hj _ (by omega)]; exact b7 k hk'⟩, b8⟩, ⟨ch_wr_v _ _ _ _, fun z => ⟨b1, by rw [h13]; exact y_cp_sm _ _⟩⟩, by rw [hk 6 0 0 1 (by omega) (by omega)]; exact b11, by rw [hk 5 0 0 1 (by omega) (by omega)]; exact b12⟩ (hj 0 (by omega)) (fun k => hk 14 0 1 k (by omega) (by omega))
  · rw [hj 0 (by omega)]
    exact b1
  · refine ⟨by rw [hk 6 1 0 1 (by omega) (by omega)]; exact b2.1, fun i hi => by rw [hk 6 1 1 i (by omega) (by omega)]; exact b2.2 i hi⟩
theorem x_ct_n (n : Nat) : ∀ (k : Nat) (m : ch_M), k + n < 2 ^ 31 → ∃ j, j ≤ k + n ∧ (x_ct n (nI k) m).1 = nI j := by
  induction n with
  | zero => exact fun k m _ => ⟨k, by omega, rfl⟩
  | succ n ih =>
    intro k m hk
    rw [x_ct]
    by_cases c1 : (d_tc m 0).1 = true
    · rw [if_pos c1]
      by_cases c2 : (x_R (d_tc m 0).2).1 = 0
      · rw [if_pos c2, nI_1]
        obtain ⟨j, h1, h2⟩ := ih (k + 1) (x_nM (d_tc m 0).2) (by omega)
        exact ⟨j, by omega, h2⟩
      · rw [if_neg c2]
        exact ⟨0, by omega, rfl⟩
    · rw [if_neg c1]
      exact ⟨k, by omega, rfl⟩
theorem x_cc_pos (m : ch_M) : (0 : Int32) ≤ (x_cc m).1 := by
  obtain ⟨j, h1, h2⟩ := x_ct_n 60 0 (x_p0 (x_b m)) (by decide)
  have e : (x_cc m).1 = nI j := h2
  rw [e]
  exact nI_pos' (by omega)
/-- the blocks that a text's run reaches -/
theorem a_S_blocks {A : a_G} {m M : ch_M} {T : Nat} (h : a_S A m) (hT : T < 2 ^ 31) (hl : A.1 ≤ T) (hY : y_inv T (ch_ob M 1 0)) (h13 : ∀ j, 3 ≤ j → ch_ob M 1 j = ch_ob m 1 j) (h2 : ch_ob M 2 0 = ch_ob m 2 0) (h61 : ch_ob M 6 1 = ch_ob m 6 1) (h012 : M (0, 0, 0) 12 = m (0, 0, 0) 12) (h6 : M (6, 0, 0) 1 = 0) (h5 : vp_in (M (5, 0, 0) 1) 13) : a_S (a_c0 (T, A.2)) M := by
  obtain ⟨b1, b2, ⟨⟨b3, n, b4, b5, b6, b7⟩, b8⟩, ⟨b9, b10⟩, b11, b12⟩ := h
  have e2 : ∀ i, M (2, 0, 0) i = m (2, 0, 0) i := fun i => congrFun (congrFun h2 0) i
  have e6 : ∀ c i, M (6, 1, c) i = m (6, 1, c) i := fun c i => congrFun (congrFun h61 c) i
  refine ⟨hY, ⟨by rw [e6]; exact b2.1, fun i hi => by rw [e6]; exact b2.2 i hi⟩, ⟨⟨b3, n, b4, by rw [e2]; exact b5, by rw [e2]; exact b6, fun k hk => by rw [h13 _ (by omega)]; exact b7 k hk⟩, fun k hk => y_inv_mono hT (b8 k hk) hl⟩, ⟨h012.trans b9, fun z => ⟨y_inv_mono hT (b10 z).1 hl, by rw [h13 3 (by omega)]; exact (b10 z).2⟩⟩, h6, h5⟩
theorem a_S_push {A : a_G} {M : ch_M} {j : Nat} {Y : ch_B} (h : a_S A M) (hY : y_inv A.1 Y) (hj : y_sm Y (ch_ob M 1 j)) : a_S (a_up A A.1 Y) (p_kM M j) := by
  obtain ⟨b1, b2, ⟨⟨b3, n, b4, b5, b6, b7⟩, b8⟩, ⟨b9, b10⟩, b11, b12⟩ := h
  have k : ∀ a j', ¬ (a = 1 ∧ 4 ≤ j') → ¬ (a = 2 ∧ j' = 0) → ch_ob (p_kM M j) a j' = ch_ob M a j' := fun a j' a1 a2 => by
    unfold p_kM
    rw [ch_ob_ne (by omega), ch_ob_ne a2]
  have kc : ∀ a j' c i, ¬ (a = 1 ∧ 4 ≤ j') → ¬ (a = 2 ∧ j' = 0) → p_kM M j (a, j', c) i = M (a, j', c) i := fun a j' c i a1 a2 => congrFun (congrFun (k a j' a1 a2) c) i
  have e2 : ch_ob (p_kM M j) 2 0 = p_kB (ch_ob M 2 0) := by
    unfold p_kM
    rw [ch_ob_ne (by omega), ch_ob_os]
  obtain ⟨q1, q2⟩ := lw_kn (P := ch_ob M 2 0) b4 b5
  have e1 : ∀ i, ch_ob (p_kM M j) 1 (4 + i) = if i = (n + 1) % 8 then y_cp (ch_ob M 1 j) (ch_ob M 1 (4 + i)) else ch_ob M 1 (4 + i) := fun i => by
    unfold p_kM
    rw [q1]
    by_cases e : i = (n + 1) % 8
    · rw [if_pos e, ← e, ch_ob_os]
    · rw [if_neg e, ch_ob_ne (by omega), ch_ob_ne (by omega)]
  have c1 : p_kM M j (2, 0, 0) 1 = nI ((n + 1) % 8) := by
    have := congrFun (congrFun e2 0) 1
    rw [q2] at this
    exact this
  have c2 : p_kM M j (2, 0, 0) 2 = nI (min (A.2.1 + 1) 8) := by
    have e3 := congrFun (congrFun e2 0) 2
    have e4 : p_kB (ch_ob M 2 0) 0 2 = nI (min (A.2.1 + 1) 8) := by
      unfold p_kB
      rw [ch_bw_at]
      have b6' : ch_ob M 2 0 0 2 = nI A.2.1 := b6
      rw [b6']
      by_cases h8 : A.2.1 = 8
      · rw [h8]
        decide
      · rw [if_neg (show ¬ (8 : Int32) ≤ nI A.2.1 from nI_ge (b := 8) (by omega) (by decide)), nI_1, Nat.min_eq_left (by omega)]
    rw [e4] at e3
    exact e3
  refine ⟨?_, ?_, ⟨⟨Nat.min_le_right _ _, (n + 1) % 8, Nat.mod_lt _ (by decide), c1, c2, fun i hi => ?_⟩, fun i hi => ?_⟩, ⟨?_, fun z => ⟨(b10 z).1, ?_⟩⟩, ?_, ?_⟩
  · rw [k 1 0 (by omega) (by omega)]
    exact b1
  · unfold a_wr a_nr
    have w : ∀ c i, p_kM M j (6, 1, c) i = M (6, 1, c) i := fun c i => kc 6 1 c i (by omega) (by omega)
    refine ⟨by rw [w]; exact b2.1, fun i hi => by rw [w]; exact b2.2 i hi⟩
  · have hi : i < min (A.2.1 + 1) 8 := hi
    show y_sm (a_pu Y A.2.2.1 i) _
    rw [e1]
    cases i with
    | zero =>
      rw [if_pos (by omega)]
      exact y_sm_tr hj (y_cp_sm _ _)
    | succ i =>
      rw [if_neg (by omega)]
      have e5 : ((n + 1) % 8 + 8 - (i + 1)) % 8 = (n + 8 - i) % 8 := by omega
      rw [e5]
      exact b7 i (by omega)
  · have hi : i < min (A.2.1 + 1) 8 := hi
    show y_inv A.1 (a_pu Y A.2.2.1 i)
    cases i with
    | zero => exact hY
    | succ i => exact b8 i (by omega)
  · rw [kc 0 0 0 12 (by omega) (by omega)]
    exact b9
  · rw [k 1 3 (by omega) (by omega)]
    exact (b10 z).2
  · rw [kc 6 0 0 1 (by omega) (by omega)]
    exact b11
  · rw [kc 5 0 0 1 (by omega) (by omega)]
    exact b12
set_option maxHeartbeats 1600000 in
theorem t_l_commands (g : ch_G) (q : Int32 → ch_M → Prop) (A_ : a_G) (m : ch_M) (h : (a_S A_ m) ∧ (A_.1 + 720 < 2 ^ 31) ∧ (0 < A_.1) ∧ (((x_F m).1 = -1 ∧ ¬ (x_cc m).1 = 0) → (∀ (M_ : ch_M), (a_S (a_c0 (a_up A_ (A_.1 + 720) (ch_ob m 1 0))) M_) → ((0 : Int32) ≤ (x_cc m).1) → (∀ k_, M_ (14, 0, 1) k_ = m (14, 0, 1) k_) → q ((x_cc m).1) (M_))) ∧ ((¬ (x_F m).1 = -1) → (∀ (M_ : ch_M), (a_S (a_c0 A_) M_) → (ch_ob M_ 1 0 = ch_ob m 1 0) → (M_ (0, 0, 0) 13 = (x_F m).1) → (∀ k_, M_ (14, 0, 1) k_ = m (14, 0, 1) k_) → q (-1001) (M_))) ∧ (((x_F m).1 = -1 ∧ (x_cc m).1 = 0) → (∀ (M_ : ch_M), (a_S (a_c0 A_) M_) → (y_sm (ch_ob m 1 0) (ch_ob M_ 1 0)) → (M_ (0, 0, 0) 13 = -1) → (∀ i_, M_ (3, 0, 0) i_ = (x_cc m).2 (3, 0, 0) i_) → (∀ k_, M_ (14, 0, 1) k_ = m (14, 0, 1) k_) → q (-1002) (M_)))) : ch_C g m_l_commands [.inr (0, 0, 0)] m (ch_oi q) := by
  obtain ⟨hA, hT, hT0, hq1, hq2, hq3⟩ := h
  obtain ⟨hok, Y', K', S', p', R', e, hY, hS, hR⟩ := x_cc_fm hA.1 hT0 hT hA.2.2.2.2.2
  obtain ⟨u1, u2, u3, u4, u5, u6, u7⟩ := x_c3_1 e
  have ob : ∀ {a j : Nat}, ¬ (a = 0 ∧ j = 0) → ¬ (a = 1 ∧ (j = 0 ∨ j = 1)) → ¬ (a = 4 ∧ j = 0) → ¬ (a = 5 ∧ j = 0) → ¬ (a = 7 ∧ j = 0) → ¬ (a = 3 ∧ j = 0) → ¬ (a = 6 ∧ j = 0) → ch_ob (x_c3 m) a j = ch_ob m a j := fun h h1 h4 h5 h7 h3 h6 => x_c3_ob e h h1 h4 h5 h7 h3 h6
  have g1 : a_S (a_c0 (A_.1 + 720, A_.2)) (x_c3 m) := a_S_blocks hA hT (by omega) (by rw [u1]; exact hY) (fun j hj => ob (by omega) (by omega) (by omega) (by omega) (by omega) (by omega) (by omega)) (ob (by omega) (by omega) (by omega) (by omega) (by omega) (by omega) (by omega)) (ob (by omega) (by omega) (by omega) (by omega) (by omega) (by omega) (by omega)) u6 ((congrFun (congrFun u4 0) 1).trans (ch_bw_at _ _ _ _)) (by rw [u5]; exact hS)
  obtain ⟨n, b4, b5, -⟩ := g1.2.2.1.1.2
  refine s_l_commands g q m ⟨fun _ => ⟨hok, fun _ => by rw [b5]; exact vp_in_nI b4 (by decide)⟩, fun z => ?_, fun z => ?_, fun z => ?_⟩
  · refine hq1 z _ (a_S_push g1 (y_inv_mono hT hA.1 (Nat.le_add_right _ _)) (by rw [u2]; exact y_cp_sm _ _)) (x_cc_pos m) (fun k => ?_)
    have e14 : ch_ob (p_kM (x_c3 m) 1) 14 0 = ch_ob m 14 0 := by
      unfold p_kM
      rw [ch_ob_ne (by omega), ch_ob_ne (by omega)]
      exact ob (by omega) (by omega) (by omega) (by omega) (by omega) (by omega) (by omega)
    exact congrFun (congrFun e14 1) k
  · refine hq2 z _ ?_ ?_ ?_ (fun k => ?_)
    · have f1 : ∀ {a j : Nat}, ¬ (a = 0 ∧ j = 0) → ¬ (a = 4 ∧ j = 0) → ¬ (a = 5 ∧ j = 0) → ¬ (a = 7 ∧ j = 0) → ¬ (a = 6 ∧ j = 0) → ch_ob (x_cl (x_f1 m)) a j = ch_ob m a j := fun h h4 h5 h7 h6 => by
        unfold x_cl
        rw [ch_wr_os, ch_ob_ne h6]
        exact x_f1_ob h h4 h5 h7
      have g2 := a_S_blocks (T := A_.1) (M := x_cl (x_f1 m)) hA (by omega) (Nat.le_refl _) (by rw [f1 (by omega) (by omega) (by omega) (by omega) (by omega)]; exact hA.1) (fun j hj => f1 (by omega) (by omega) (by omega) (by omega) (by omega)) (f1 (by omega) (by omega) (by omega) (by omega) (by omega)) (f1 (by omega) (by omega) (by omega) (by omega) (by omega)) ?_ ?_ ?_
      · exact g2
      · unfold x_cl
        rw [ch_wr_ne (by decide), x_f1_0]
        rfl
      · exact ch_wr_v _ _ _ _
      · unfold x_cl
        rw [ch_wr_ne (by decide)]
        exact x_f1_5 hA.2.2.2.2.2
    · unfold x_cl
      rw [ch_wr_os, ch_ob_ne (by omega)]
      exact x_f1_ob (by omega) (by omega) (by omega) (by omega)
    · unfold x_cl
      rw [ch_wr_ne (by decide), x_f1_0]
      rfl
    · have e14 : ch_ob (x_cl (x_f1 m)) 14 0 = ch_ob m 14 0 := by
        unfold x_cl
        rw [ch_wr_os, ch_ob_ne (by omega)]
        exact x_f1_ob (by omega) (by omega) (by omega) (by omega)
      exact congrFun (congrFun e14 1) k
  · have hk : ∀ a j c i, ¬ (a = 1 ∧ j = 0) → ch_os (x_c3 m) 1 0 (y_cp (ch_ob (x_c3 m) 1 1) (ch_ob (x_c3 m) 1 0)) (a, j, c) i = x_c3 m (a, j, c) i := fun a j c i a1 => by
      rw [ch_os_ne a1]
    have hb : ∀ {a j : Nat}, ¬ (a = 0 ∧ j = 0) → ¬ (a = 1 ∧ (j = 0 ∨ j = 1)) → ¬ (a = 4 ∧ j = 0) → ¬ (a = 5 ∧ j = 0) → ¬ (a = 7 ∧ j = 0) → ¬ (a = 3 ∧ j = 0) → ¬ (a = 6 ∧ j = 0) → ch_ob (ch_os (x_c3 m) 1 0 (y_cp (ch_ob (x_c3 m) 1 1) (ch_ob (x_c3 m) 1 0))) a j = ch_ob m a j := fun h h1 h4 h5 h7 h3 h6 => by
      rw [ch_ob_ne (by omega), ob h h1 h4 h5 h7 h3 h6]
    have hsm : y_sm (ch_ob m 1 0) (y_cp (ch_ob (x_c3 m) 1 1) (ch_ob (x_c3 m) 1 0)) := by
      rw [u2]
      exact y_sm_tr (y_cp_sm _ (ch_ob m 1 1)) (y_cp_sm _ _)
    have g2 := a_S_blocks (T := A_.1) (M := ch_os (x_c3 m) 1 0 (y_cp (ch_ob (x_c3 m) 1 1) (ch_ob (x_c3 m) 1 0))) hA (by omega) (Nat.le_refl _) (by rw [ch_ob_os]; exact y_inv_sm hA.1 hsm) (fun j hj => hb (by omega) (by omega) (by omega) (by omega) (by omega) (by omega) (by omega)) (hb (by omega) (by omega) (by omega) (by omega) (by omega) (by omega) (by omega)) (hb (by omega) (by omega) (by omega) (by omega) (by omega) (by omega) (by omega)) (by rw [hk 0 0 0 12 (by omega)]; exact u6) (by rw [hk 6 0 0 1 (by omega)]; exact (congrFun (congrFun u4 0) 1).trans (ch_bw_at _ _ _ _)) (by rw [hk 5 0 0 1 (by omega), u5]; exact hS)
    refine hq3 z _ g2 (by rw [ch_ob_os]; exact hsm) (by rw [hk 0 0 0 13 (by omega), u7]; exact z.1) (fun i => ?_) (fun k => congrFun (congrFun (hb (a := 14) (j := 0) (by omega) (by omega) (by omega) (by omega) (by omega) (by omega) (by omega)) 1) k)
    rw [hk 3 0 0 i (by omega)]
    have e3 : ch_ob (x_c3 m) 3 0 = ch_ob (x_cc m).2 3 0 := by
      unfold x_c3 x_cl
      rw [ch_wr_os, ch_ob_ne (by omega)]
    exact congrFun (congrFun e3 0) i
