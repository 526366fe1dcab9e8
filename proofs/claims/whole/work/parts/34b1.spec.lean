set_option maxHeartbeats 1600000 in
theorem s_q_coder (g : ch_G) (q : Int32 → ch_M → Prop)  (m : ch_M) (h : q 0 m) : ch_C g m_q_coder [.inr (12, 0, 0)] m (ch_oi q) := by
  refine e_q_coder g _  m ?_
  exact g_q_coder_0 g _ _ (ch_oi_iff.mpr h)
set_option maxHeartbeats 1600000 in
theorem s_q_isLatin1 (g : ch_G) (q : Int32 → ch_M → Prop)  (m : ch_M) (h : q 1 m) : ch_C g m_q_isLatin1 [.inr (12, 0, 0)] m (ch_oi q) := by
  refine e_q_isLatin1 g _  m ?_
  exact g_q_isLatin1_0 g _ _ (ch_oi_iff.mpr h)
set_option maxHeartbeats 1600000 in
theorem s_k_canEncode (g : ch_G) (q : Int32 → ch_M → Prop) (p0 : Int32) (m : ch_M) (h : ((0 ≤ p0 ∧ p0 ≤ 255) → q 1 m) ∧ ((¬ (0 ≤ p0 ∧ p0 ≤ 255)) → q 0 m)) : ch_C g m_k_canEncode [.inl (.int p0)] m (ch_oi q) := by
  refine e_k_canEncode g _ p0 m ?_
  obtain ⟨ha, hb⟩ := h
  refine g_k_canEncode_0 g _ _ _ ⟨fun c => ch_oi_iff.mpr (hb (fun z => ?_)), fun c => ⟨fun d => ch_oi_iff.mpr (hb (fun z => ?_)), fun d => ch_oi_iff.mpr (ha ⟨?_, ?_⟩)⟩⟩
  · have := z.1
    grind
  · have := z.2
    grind
  · grind
  · grind
theorem ch_let_i : ∀ v : Fin 256, ∀ k : Fin 8, ch_let.getD k.val 0 = (Int32.toInt8 (nI v.val)).toInt32 ↔ ch_let.getD k.val 0 = nI v.val := by decide +kernel
theorem ch_let_kd (c : Int32) : d_kd c ↔ ∃ k, k < 8 ∧ ch_let.getD k 0 = c := by
  unfold d_kd
  constructor
  · rintro (h | h | h | h | h | h | h | h)
    · exact ⟨1, by decide, h.symm⟩
    · exact ⟨7, by decide, h.symm⟩
    · exact ⟨2, by decide, h.symm⟩
    · exact ⟨0, by decide, h.symm⟩
    · exact ⟨5, by decide, h.symm⟩
    · exact ⟨4, by decide, h.symm⟩
    · exact ⟨6, by decide, h.symm⟩
    · exact ⟨3, by decide, h.symm⟩
  · rintro ⟨k, hk, h⟩
    obtain rfl | rfl | rfl | rfl | rfl | rfl | rfl | rfl : k = 0 ∨ k = 1 ∨ k = 2 ∨ k = 3 ∨ k = 4 ∨ k = 5 ∨ k = 6 ∨ k = 7 := by omega
    all_goals
      rw [← h]
      decide
set_option maxHeartbeats 1600000 in
theorem s_k_indexOfChar (g : ch_G) (q : Int32 → ch_M → Prop) (p1 : Int32) (p2 : Int32) (p3 : Int32) (m : ch_M) (h : (0 ≤ p1 ∧ p1 ≤ 255) ∧ ((p2 : Int32) = 0) ∧ ((p3 : Int32) = 8) ∧ ((d_kd p1) → (∀ (r1_ : Int32), (0 ≤ r1_) → q r1_ m)) ∧ ((¬ d_kd p1) → q (-1) m)) : ch_C g m_k_indexOfChar [.inr (13, 0, 0), .inl (.int p1), .inl (.int p2), .inl (.int p3)] m (ch_oi q) := by
  refine e_k_indexOfChar g _ p1 p2 p3 m ?_
  obtain ⟨h1, h2, h3, ha, hb⟩ := h
  subst h2 h3
  obtain ⟨v, hv, rfl⟩ := vp_in_of (ch_vp (x := p1) (n := 256) (by decide) (by have := h1.1; grind) (by
    have := h1.2
    intro z
    exact absurd (Int32.le_trans z this) (by decide))) (by decide)
  refine g_k_indexOfChar_0 g _ _ _ _ _ ?_
  have key : ∀ k, k ≤ 8 → (∀ j, j < k → ¬ ch_let.getD j 0 = nI v) → ch_J g m_k_indexOfChar (ch_rm m_k_indexOfChar) (ch_E g m_k_indexOfChar (ch_oi q)) 7 [some (.inr (13, 0, 0)), some (.inl (.int (nI v))), some (.inl (.int 0)), some (.inl (.int 8)), some (.inl (.int ((Int32.toInt8 (nI v)).toInt32))), some (.inl (.int (nI k)))] [] m 0 := by
    refine ch_down _ 8 ?_ ?_
    · intro hno
      refine g_k_indexOfChar_7 g _ _ _ _ _ _ _ ?_
      refine ⟨fun _ => ch_oi_iff.mpr (hb (fun z => ?_)), fun z => absurd (by decide) z⟩
      obtain ⟨k, hk, e⟩ := (ch_let_kd _).mp z
      exact hno k hk e
    · intro k hk ih hno
      have hh := ch_let_i ⟨v, hv⟩ ⟨k, hk⟩
      dsimp only at hh
      refine g_k_indexOfChar_7 g _ _ _ _ _ _ _ ?_
      rw [nI_clamp (by omega)]
      refine ⟨fun z => absurd z (nI_ge (b := 8) hk (by decide)), fun _ => ⟨vp_in_nI hk (by decide), fun z => ?_, fun z => ch_oi_iff.mpr (ha ((ch_let_kd _).mpr ⟨k, hk, hh.mp z⟩) _ (nI_pos' (by omega)))⟩⟩
      rw [nI_1]
      refine ih (fun j hj => ?_)
      by_cases e : j = k
      · rw [e]
        exact fun y => z (hh.mpr y)
      · exact hno j (by omega)
  exact key 0 (by omega) (fun j hj => absurd hj (by omega))
