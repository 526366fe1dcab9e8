def m_unK (B : ch_B) (n : Nat) : ch_B := fun a i => if a = 0 ∧ i = 19 then 0 else if a = 0 ∧ i = 4 then B 0 4 - 1 else if a = 1 ∧ i < n then B 4 (63 * (B 0 4 - 1).toNatClampNeg + i) else B a i
def m_unB (B : ch_B) : ch_B := m_unK B 63
set_option maxHeartbeats 1600000 in
theorem s_m_undo (g : ch_G) (q : Int32 → ch_M → Prop)  (m : ch_M) (h : (vp_in (m (9, 0, 0) 4) 9) ∧ ((¬ m (9, 0, 0) 4 = 0) → q (m (9, 0, 0) 4 - 1) (ch_os m 9 0 (m_unB (ch_ob m 9 0)))) ∧ ((m (9, 0, 0) 4 = 0) → q 0 (ch_wr m (9, 0, 0) 19 1))) : ch_C g m_m_undo [.inr (9, 0, 0)] m (ch_oi q) := by
  refine e_m_undo g _  m ?_
  obtain ⟨h1, ha, hb⟩ := h
  refine g_m_undo_0 g _ _ ?_
  simp only [forall_eq, ch_oi_iff, ch_wr_wr, ch_wr_k (show (4 : Nat) ≠ 19 by decide)]
  refine ⟨fun c => ?_, fun c => hb c⟩
  obtain ⟨u, hu, eu⟩ := vp_in_of h1 (by decide)
  obtain ⟨v, rfl⟩ : ∃ v, u = v + 1 := ⟨u - 1, by
    have : u ≠ 0 := fun z => c (by rw [eu, z]; decide)
    omega⟩
  have ha := ha c
  have eB : ch_ob m 9 0 0 4 = nI (v + 1) := eu
  rw [eu, nI_pred] at ha ⊢
  have e0 : ch_wr (ch_wr m (9, 0, 0) 19 0) (9, 0, 0) 4 (nI v) = ch_os m 9 0 (m_unK (ch_ob m 9 0) 0) := by
    simp only [ch_wr_os, ch_os_os, ch_ob_os]
    congr 1
    funext a i
    unfold m_unK ch_bw
    rw [eB, nI_pred]
    grind
  rw [e0]
  have key : ∀ k, k ≤ 63 → ch_J g m_m_undo (ch_rm m_m_undo) (ch_E g m_m_undo (ch_oi q)) 30 [some (.inr (9, 0, 0)), some (.inl (.int (nI k)))] [] (ch_os m 9 0 (m_unK (ch_ob m 9 0) k)) 0 := by
    have e4 : ∀ k, m_unK (ch_ob m 9 0) k 0 4 = nI v := fun k => by
      unfold m_unK
      rw [if_neg (by omega), if_pos ⟨rfl, rfl⟩, eB, nI_pred]
    refine ch_down _ 63 ?_ ?_
    · refine g_m_undo_30 g _ _ _ ?_
      refine ⟨fun _ => ?_, fun z => absurd (by decide) z⟩
      rw [ch_os_at, e4]
      exact ch_oi_iff.mpr ha
    · intro k hk ih
      refine g_m_undo_30 g _ _ _ ?_
      have a1 : ¬ (63 : Int32) ≤ nI k := nI_ge (b := 63) hk (by decide)
      have a2 : (63 : Int32) * nI v + nI k = nI (63 * v + k) := by
        have : (63 : Int32) * nI v = nI (63 * v) := pk_mul 63 v
        rw [this, nI_add]
      rw [ch_os_at, e4, a2]
      refine ⟨fun z => absurd z a1, fun _ => ⟨vp_in_nI (by omega) (by decide), vp_in_nI hk (by decide), fun m4 e4 => ?_⟩⟩
      rw [ch_os_wr, nI_clamp (by omega), nI_clamp (by omega), ch_os_at] at e4
      have e3 : ch_bw (m_unK (ch_ob m 9 0) k) 1 k (m_unK (ch_ob m 9 0) k 4 (63 * v + k)) = m_unK (ch_ob m 9 0) (k + 1) := by
        funext a i
        unfold ch_bw m_unK
        rw [eB, nI_pred, nI_clamp (by omega)]
        grind
      rw [e3] at e4
      subst e4
      rw [nI_1]
      exact ih
  exact key 0 (by omega)
def m_svK (B : ch_B) (n : Nat) : ch_B := fun a i => if a = 0 ∧ i = 19 then 0 else if a = 0 ∧ i = 6 then 1 else if a = 5 ∧ i < n then B 1 i else B a i
def m_svB (B : ch_B) : ch_B := m_svK B 63
set_option maxHeartbeats 1600000 in
theorem s_m_save (g : ch_G) (q : Int32 → ch_M → Prop)  (m : ch_M) (h : q (m (9, 0, 1) 0) (ch_os m 9 0 (m_svB (ch_ob m 9 0)))) : ch_C g m_m_save [.inr (9, 0, 0)] m (ch_oi q) := by
  refine e_m_save g _  m ?_
  refine g_m_save_0 g _ _ ?_
  simp only [forall_eq, ch_oi_iff]
  have e0 : ch_wr (ch_wr m (9, 0, 0) 19 0) (9, 0, 0) 6 1 = ch_os m 9 0 (m_svK (ch_ob m 9 0) 0) := by
    simp only [ch_wr_os, ch_os_os, ch_ob_os]
    congr 1
    funext a i
    unfold m_svK ch_bw
    grind
  rw [e0]
  have key : ∀ k, k ≤ 63 → ch_J g m_m_save (ch_rm m_m_save) (ch_E g m_m_save (ch_oi q)) 12 [some (.inr (9, 0, 0)), some (.inl (.int (nI k)))] [] (ch_os m 9 0 (m_svK (ch_ob m 9 0) k)) 0 := by
    have e1 : ∀ k i, m_svK (ch_ob m 9 0) k 1 i = m (9, 0, 1) i := fun k i => by
      unfold m_svK
      rw [if_neg (by omega), if_neg (by omega), if_neg (by omega)]
      rfl
    refine ch_down _ 63 ?_ ?_
    · refine g_m_save_12 g _ _ _ ?_
      refine ⟨fun _ => ?_, fun z => absurd (by decide) z⟩
      rw [ch_os_at, e1]
      exact ch_oi_iff.mpr h
    · intro k hk ih
      refine g_m_save_12 g _ _ _ ?_
      have a1 : ¬ (63 : Int32) ≤ nI k := nI_ge (b := 63) hk (by decide)
      refine ⟨fun z => absurd z a1, fun _ => ⟨vp_in_nI hk (by decide), fun m4 e4 => ?_⟩⟩
      rw [ch_os_wr, nI_clamp (by omega), ch_os_at, e1] at e4
      have e3 : ch_bw (m_svK (ch_ob m 9 0) k) 5 k (m (9, 0, 1) k) = m_svK (ch_ob m 9 0) (k + 1) := by
        funext a i
        have : m (9, 0, 1) k = ch_ob m 9 0 1 k := rfl
        unfold ch_bw m_svK
        rw [this]
        grind
      rw [e3] at e4
      subst e4
      rw [nI_1]
      exact ih
  exact key 0 (by omega)
def m_rsK (B : ch_B) (n : Nat) : ch_B := fun a i => if a = 0 ∧ i = 19 then 0 else if a = 1 ∧ i < n then B 5 i else B a i
def m_rsB (B : ch_B) : ch_B := ch_bw (m_rsK B 63) 0 4 0
set_option maxHeartbeats 1600000 in
theorem s_m_restore (g : ch_G) (q : Int32 → ch_M → Prop)  (m : ch_M) (h : ((¬ m (9, 0, 0) 6 = 0) → q (m (9, 0, 5) 0) (ch_os m 9 0 (m_rsB (ch_ob m 9 0)))) ∧ ((m (9, 0, 0) 6 = 0) → q 0 (ch_wr m (9, 0, 0) 19 1))) : ch_C g m_m_restore [.inr (9, 0, 0)] m (ch_oi q) := by
  refine e_m_restore g _  m ?_
  obtain ⟨ha, hb⟩ := h
  refine g_m_restore_0 g _ _ ?_
  simp only [forall_eq, ch_oi_iff, ch_wr_wr, ch_wr_k (show (6 : Nat) ≠ 19 by decide)]
  refine ⟨fun c => ?_, fun c => hb c⟩
  have ha := ha c
  have e0 : ch_wr m (9, 0, 0) 19 0 = ch_os m 9 0 (m_rsK (ch_ob m 9 0) 0) := by
    rw [ch_wr_os]
    congr 1
    funext a i
    unfold m_rsK ch_bw
    grind
  rw [e0]
  have key : ∀ k, k ≤ 63 → ch_J g m_m_restore (ch_rm m_m_restore) (ch_E g m_m_restore (ch_oi q)) 20 [some (.inr (9, 0, 0)), some (.inl (.int (nI k)))] [] (ch_os m 9 0 (m_rsK (ch_ob m 9 0) k)) 0 := by
    have e5 : ∀ k i, m_rsK (ch_ob m 9 0) k 5 i = ch_ob m 9 0 5 i := fun k i => by
      unfold m_rsK
      rw [if_neg (by omega), if_neg (by omega)]
    refine ch_down _ 63 ?_ ?_
    · refine g_m_restore_20 g _ _ _ ?_
      refine ⟨fun _ m1 e1 => ?_, fun z => absurd (by decide) z⟩
      rw [ch_os_wr] at e1
      subst e1
      refine ch_oi_iff.mpr ?_
      rw [ch_os_at, ch_bw_c (by decide)]
      have : m_rsK (ch_ob m 9 0) 63 1 0 = m (9, 0, 5) 0 := by
        unfold m_rsK
        rw [if_neg (by omega), if_pos ⟨rfl, by omega⟩]
        rfl
      rw [this]
      exact ha
    · intro k hk ih
      refine g_m_restore_20 g _ _ _ ?_
      have a1 : ¬ (63 : Int32) ≤ nI k := nI_ge (b := 63) hk (by decide)
      refine ⟨fun z => absurd z a1, fun _ => ⟨vp_in_nI hk (by decide), fun m4 e4 => ?_⟩⟩
      rw [ch_os_wr, nI_clamp (by omega), ch_os_at, e5] at e4
      have e3 : ch_bw (m_rsK (ch_ob m 9 0) k) 1 k (ch_ob m 9 0 5 k) = m_rsK (ch_ob m 9 0) (k + 1) := by
        funext a i
        unfold ch_bw m_rsK
        grind
      rw [e3] at e4
      subst e4
      rw [nI_1]
      exact ih
  exact key 0 (by omega)
def m_sgB (B : ch_B) (p : Int32) : ch_B := ch_bw (ch_bw B 0 8 (B 0 8 + 1)) 6 (B 0 8).toNatClampNeg (vp_nar .char p)
set_option maxHeartbeats 1600000 in
theorem s_m_signs (g : ch_G) (q : ch_M → Prop) (p1 : Int32) (m : ch_M) (h : (vp_in (m (9, 0, 0) 8) 80) ∧ q (ch_os m 9 0 (m_sgB (ch_ob m 9 0) p1))) : ch_C g m_m_signs [.inr (9, 0, 0), .inl (.int p1)] m (ch_ov q) := by
  refine e_m_signs g _ p1 m ?_
  obtain ⟨h1, hq⟩ := h
  refine g_m_signs_0 g _ _ _ ?_
  simp only [forall_eq, ch_ov_iff, ch_wr_os, ch_os_wr, ch_ob_os, ch_os_os]
  exact ⟨h1, hq⟩
