set_option maxHeartbeats 1600000 in
theorem s_m_thrown (g : ch_G) (q : Int32 → ch_M → Prop)  (m : ch_M) (h : q (m (9, 0, 0) 19) m) : ch_C g m_m_thrown [.inr (9, 0, 0)] m (ch_oi q) := by
  refine e_m_thrown g _  m ?_
  exact g_m_thrown_0 g _ _ (ch_oi_iff.mpr h)
set_option maxHeartbeats 1600000 in
theorem s_m_squareOf (g : ch_G) (q : Int32 → ch_M → Prop) (Y_ : ch_B) (p1 : Int32) (p2 : Int32) (m : ch_M) (h : (m_rel Y_ (m (9, 0, 1))) ∧ ((0 ≤ p1 ∧ p1 ≤ 11) → q (if p2 = 0 then Y_ 1 (Int32.toNatClampNeg p1) else Y_ 2 (Int32.toNatClampNeg p1)) (ch_wr m (9, 0, 0) 19 0)) ∧ ((¬ (0 ≤ p1 ∧ p1 ≤ 11)) → q 0 (ch_wr m (9, 0, 0) 19 1))) : ch_C g m_m_squareOf [.inr (9, 0, 0), .inl (.int p1), .inl (.int p2)] m (ch_oi q) := by
  refine e_m_squareOf g _ p1 p2 m ?_
  obtain ⟨hr, ha, hb⟩ := h
  refine g_m_squareOf_0 g _ _ _ _ ⟨fun c m4 e4 => ?_, fun c m4 e4 => ?_⟩
  · have hv := ch_11 c
    obtain ⟨k, hk, rfl⟩ := vp_in_of hv (by decide)
    have ha := ha c
    have e5 : m4 (9, 0, 1) = m (9, 0, 1) := by rw [e4]; exact ch_wr_ne (by decide)
    have e6 : m4 (9, 0, 0) 19 = 0 := by rw [e4]; exact ch_wr_v _ _ _ _
    rw [nI_clamp (by omega)] at ha ⊢
    simp only [ch_oi_iff, e5, e6, m_ow hr hk, m_ck hr hk]
    rw [← e4] at ha
    exact ⟨fun _ => ⟨fun d => ⟨hv, by rw [if_pos d] at ha; exact ha⟩, fun d => ⟨hv, by rw [if_neg d] at ha; exact ha⟩⟩, fun d => absurd (by decide) d⟩
  · have e6 : m4 (9, 0, 0) 19 = 1 := by rw [e4]; exact ch_wr_v _ _ _ _
    have hb := hb c
    rw [← e4] at hb
    simp only [ch_oi_iff, e6]
    exact ⟨fun d => absurd d (by decide), fun _ => hb⟩
set_option maxHeartbeats 1600000 in
theorem s_m_ownSet (g : ch_G) (q : Int32 → ch_M → Prop) (Y_ : ch_B) (p1 : Int32) (m : ch_M) (h : (m_rel Y_ (m (9, 0, 1))) ∧ q (y_ofS (Y_ 1) p1 0 12) m) : ch_C g m_m_ownSet [.inr (9, 0, 0), .inl (.int p1)] m (ch_oi q) := by
  refine e_m_ownSet g _ p1 m ?_
  obtain ⟨hr, hq⟩ := h
  refine g_m_ownSet_0 g _ _ _ ?_
  refine ch_down (fun k => ch_J g m_m_ownSet (ch_rm m_m_ownSet) (ch_E g m_m_ownSet (ch_oi q)) 4 [some (.inr (9, 0, 0)), some (.inl (.int p1)), some (.inl (.int (y_ofS (Y_ 1) p1 0 k))), some (.inl (.int (nI k)))] [] m 0) 12 ?_ ?_ 0 (by decide)
  · refine g_m_ownSet_4 g _ _ _ _ m ?_
    simp only [ch_oi_iff]
    exact ⟨fun _ => hq, fun c => absurd (by decide) c⟩
  · intro k hk ih
    obtain ⟨a1, a2, a3, a4⟩ := ch_k12 hk
    refine g_m_ownSet_4 g _ _ _ _ m ?_
    simp only [ch_oi_iff, a3, a4, m_ow hr hk]
    rw [y_ofS_0 _ _ _ (by omega)] at ih
    grind
set_option maxHeartbeats 1600000 in
theorem s_m_owned (g : ch_G) (q : Int32 → ch_M → Prop) (Y_ : ch_B) (m : ch_M) (h : (m_rel Y_ (m (9, 0, 1))) ∧ (∀ i_, i_ < 12 → Y_ 1 i_ = -1 ∨ vp_in (Y_ 1 i_) 5) ∧ q (12 - ch_cnO (Y_ 1) (-1) 12) m) : ch_C g m_m_owned [.inr (9, 0, 0)] m (ch_oi q) := by
  refine e_m_owned g _  m ?_
  obtain ⟨hr, ho, hq⟩ := h
  refine g_m_owned_0 g _ _ ?_
  have e00 : nI 0 - ch_cnO (Y_ 1) (-1) 0 = 0 := by
    show (nI 0 - 0 : Int32) = 0
    decide
  suffices key : ∀ k, k ≤ 12 → ch_J g m_m_owned (ch_rm m_m_owned) (ch_E g m_m_owned (ch_oi q)) 4 [some (.inr (9, 0, 0)), some (.inl (.int (nI k - ch_cnO (Y_ 1) (-1) k))), some (.inl (.int (nI k)))] [] m 0 by
    have h0 := key 0 (by omega)
    rw [e00] at h0
    exact h0
  refine ch_down (fun k => ch_J g m_m_owned (ch_rm m_m_owned) (ch_E g m_m_owned (ch_oi q)) 4 [some (.inr (9, 0, 0)), some (.inl (.int (nI k - ch_cnO (Y_ 1) (-1) k))), some (.inl (.int (nI k)))] [] m 0) 12 ?_ ?_
  · refine g_m_owned_4 g _ _ _ m ?_
    simp only [ch_oi_iff]
    exact ⟨fun _ => hq, fun c => absurd (by decide) c⟩
  · intro k hk ih
    obtain ⟨a1, a2, a3, a4⟩ := ch_k12 hk
    refine g_m_owned_4 g _ _ _ m ?_
    simp only [ch_oi_iff, a3, a4, m_ow hr hk]
    refine ⟨fun c => absurd c a1, fun _ => ⟨a2, fun c => ?_, fun c => ?_⟩⟩
    · have e : Y_ 1 k = -1 := (ho k hk).elim id (fun z => absurd c (by obtain ⟨j, hj, e⟩ := vp_in_of z (by decide); rw [e]; exact nI_pos (by omega)))
      rw [ch_cnO, if_pos e, ← a4] at ih
      rw [show nI k - ch_cnO (Y_ 1) (-1) k = nI k + 1 - (ch_cnO (Y_ 1) (-1) k + 1) by grind]
      rw [← a4]
      exact ih
    · have e : ¬ Y_ 1 k = -1 := fun z => c (by rw [z]; decide)
      rw [ch_cnO, if_neg e, ← a4] at ih
      rw [show nI k - ch_cnO (Y_ 1) (-1) k + 1 = nI k + 1 - ch_cnO (Y_ 1) (-1) k by grind]
      rw [← a4]
      exact ih
set_option maxHeartbeats 1600000 in
theorem s_m_endsBy (g : ch_G) (q : Int32 → ch_M → Prop) (Y_ : ch_B) (p1 : Int32) (m : ch_M) (h : (m_rel Y_ (m (9, 0, 1))) ∧ (vp_in (Y_ 0 8) 6) ∧ q (m_ci (Y_ 2) p1 12 + m_ci (Y_ 5) p1 (Int32.toNatClampNeg (Y_ 0 8))) m) : ch_C g m_m_endsBy [.inr (9, 0, 0), .inl (.int p1)] m (ch_oi q) := by
  refine e_m_endsBy g _ p1 m ?_
  obtain ⟨hr, h1, hq⟩ := h
  obtain ⟨n, hn, he⟩ := vp_in_of h1 (by decide)
  have e0 : m (9, 0, 1) 0 = nI n := (m_co hr).trans he
  rw [he, nI_clamp (by omega)] at hq
  refine g_m_endsBy_0 g _ _ _ ?_
  refine ch_down (fun k => ch_J g m_m_endsBy (ch_rm m_m_endsBy) (ch_E g m_m_endsBy (ch_oi q)) 4 [some (.inr (9, 0, 0)), some (.inl (.int p1)), some (.inl (.int (m_ci (Y_ 2) p1 k))), some (.inl (.int (nI k)))] [] m 0) 12 ?_ ?_ 0 (by decide)
  · refine g_m_endsBy_4 g _ _ _ _ m ?_
    refine ⟨fun _ => ?_, fun c => absurd (by decide) c⟩
    have hz : ch_J g m_m_endsBy (ch_rm m_m_endsBy) (ch_E g m_m_endsBy (ch_oi q)) 34 [some (.inr (9, 0, 0)), some (.inl (.int p1)), some (.inl (.int (m_ci (Y_ 2) p1 12 + m_ci (Y_ 5) p1 0))), some (.inl (.int (nI 0)))] [] m 0 := by
      refine ch_down (fun k => ch_J g m_m_endsBy (ch_rm m_m_endsBy) (ch_E g m_m_endsBy (ch_oi q)) 34 [some (.inr (9, 0, 0)), some (.inl (.int p1)), some (.inl (.int (m_ci (Y_ 2) p1 12 + m_ci (Y_ 5) p1 k))), some (.inl (.int (nI k)))] [] m 0) n ?_ ?_ 0 (by omega)
      · refine g_m_endsBy_34 g _ _ _ _ m ?_
        simp only [ch_oi_iff, e0]
        exact ⟨fun _ => hq, fun c => absurd (nI_le (Nat.le_refl n) (by omega)) c⟩
      · intro k hk ih
        obtain ⟨a1, a2, a3, a4⟩ := ch_kn hk (by omega)
        refine g_m_endsBy_34 g _ _ _ _ m ?_
        simp only [ch_oi_iff, e0, a3, a4, m_wa hr (show k < 5 by omega)]
        have v : vp_in (nI k) 5 := vp_in_nI (by omega) (by decide)
        refine ⟨fun c => absurd c a1, fun _ => ⟨v, fun c => ?_, fun c => ?_⟩⟩
        · rw [show m_ci (Y_ 5) p1 (k + 1) = m_ci (Y_ 5) p1 k + 1 from if_pos c, ← Int32.add_assoc] at ih
          exact ih
        · rw [show m_ci (Y_ 5) p1 (k + 1) = m_ci (Y_ 5) p1 k from if_neg c] at ih
          exact ih
    have e : m_ci (Y_ 2) p1 12 + m_ci (Y_ 5) p1 0 = m_ci (Y_ 2) p1 12 := by
      show _ + 0 = _
      exact Int32.add_zero _
    rw [e] at hz
    exact hz
  · intro k hk ih
    obtain ⟨a1, a2, a3, a4⟩ := ch_k12 hk
    refine g_m_endsBy_4 g _ _ _ _ m ?_
    simp only [ch_oi_iff, a3, a4, m_ck hr hk]
    refine ⟨fun c => absurd c a1, fun _ => ⟨a2, fun c => ?_, fun c => ?_⟩⟩
    · rw [show m_ci (Y_ 2) p1 (k + 1) = m_ci (Y_ 2) p1 k + 1 from if_pos c] at ih
      exact ih
    · rw [show m_ci (Y_ 2) p1 (k + 1) = m_ci (Y_ 2) p1 k from if_neg c] at ih
      exact ih
set_option maxHeartbeats 1600000 in
theorem s_m_longestOf (g : ch_G) (q : Int32 → ch_M → Prop) (Y_ : ch_B) (p1 : Int32) (m : ch_M) (h : (m_rel Y_ (m (9, 0, 1))) ∧ q ((y_lr (Y_ 1) p1 12).1) m) : ch_C g m_m_longestOf [.inr (9, 0, 0), .inl (.int p1)] m (ch_oi q) := by
  refine e_m_longestOf g _ p1 m ?_
  obtain ⟨hr, hq⟩ := h
  refine g_m_longestOf_0 g _ _ _ ?_
  refine ch_down (fun k => ch_J g m_m_longestOf (ch_rm m_m_longestOf) (ch_E g m_m_longestOf (ch_oi q)) 7 [some (.inr (9, 0, 0)), some (.inl (.int p1)), some (.inl (.int (y_lr (Y_ 1) p1 k).1)), some (.inl (.int (y_lr (Y_ 1) p1 k).2)), some (.inl (.int (nI k)))] [] m 0) 12 ?_ ?_ 0 (by decide)
  · refine g_m_longestOf_7 g _ _ _ _ _ m ?_
    simp only [ch_oi_iff]
    exact ⟨fun _ => hq, fun c => absurd (by decide) c⟩
  · intro k hk ih
    obtain ⟨a1, a2, a3, a4⟩ := ch_k12 hk
    refine g_m_longestOf_7 g _ _ _ _ _ m ?_
    simp only [ch_oi_iff, a3, a4, m_ow hr hk]
    simp only [y_lr] at ih
    grind
set_option maxHeartbeats 1600000 in
theorem s_m_isLine (g : ch_G) (q : Int32 → ch_M → Prop) (Y_ : ch_B) (p1 : Int32) (p2 : Int32) (m : ch_M) (h : (m_rel Y_ (m (9, 0, 1))) ∧ (∀ i_, i_ < 12 → Y_ 1 i_ = -1 ∨ vp_in (Y_ 1 i_) 5) ∧ (¬ p2 < 0) ∧ ((ch_line Y_ p1 p2) → q 1 m) ∧ ((¬ ch_line Y_ p1 p2) → q 0 m)) : ch_C g m_m_isLine [.inr (9, 0, 0), .inl (.int p1), .inl (.int p2)] m (ch_oi q) := by
  refine e_m_isLine g _ p1 p2 m ?_
  obtain ⟨hr, ho, hp, ha, hb⟩ := h
  refine g_m_isLine_0 g _ _ _ _ ⟨fun c => ?_, fun c => ?_⟩
  · exact ch_oi_iff.mpr (hb (fun z => z.2.1 c))
  · have hv : vp_in p2 12 := ch_vp (n := 12) (by decide) hp c
    obtain ⟨k, hk, rfl⟩ := vp_in_of hv (by decide)
    unfold ch_line at ha hb
    rw [nI_clamp (by omega)] at ha hb ⊢
    simp only [ch_oi_iff, m_ow hr hk]
    have e1 : Y_ 1 k < 0 ↔ Y_ 1 k = -1 := ⟨fun z => (ho k hk).elim id (fun w => absurd z (by obtain ⟨j, hj, e⟩ := vp_in_of w (by decide); rw [e]; exact nI_pos (by omega))), fun z => by rw [z]; decide⟩
    refine ⟨hv, fun d => hb (fun z => z.2.2.1 (e1.mp d)), fun d => ⟨fun f => hb (fun z => z.2.2.2 f), fun f => ha ⟨hp, c, fun z => d (e1.mpr z), f⟩⟩⟩
theorem m_mfO_up {f : Nat → Int32} {k n : Nat} (h : k ≤ n) (hk : y_mfO f k = true) : y_mfO f n = true := by
  obtain ⟨d, rfl⟩ : ∃ d, n = k + d := ⟨n - k, by omega⟩
  clear h
  induction d with
  | zero => exact hk
  | succ d ih =>
    show (y_mfO f (k + d) || _) = true
    rw [ih]
    rfl
set_option maxHeartbeats 1600000 in
theorem s_m_where (g : ch_G) (q : Int32 → ch_M → Prop)  (m : ch_M) (h : (vp_in (m (9, 0, 0) 21) 13) ∧ q (if y_mfO (m (9, 0, 9)) (Int32.toNatClampNeg (m (9, 0, 0) 21)) = true then 12 else ch_ps (m (9, 0, 9)) (Int32.toNatClampNeg (m (9, 0, 0) 21))) m) : ch_C g m_m_where [.inr (9, 0, 0)] m (ch_oi q) := by
  refine e_m_where g _  m ?_
  obtain ⟨h1, hq⟩ := h
  obtain ⟨n, hn, he⟩ := vp_in_of h1 (by decide)
  rw [he, nI_clamp (by omega)] at hq
  have key : ∀ k, k ≤ n → (¬ y_mfO (m (9, 0, 9)) k = true) → ch_J g m_m_where (ch_rm m_m_where) (ch_E g m_m_where (ch_oi q)) 4 [some (.inr (9, 0, 0)), some (.inl (.int (ch_ps (m (9, 0, 9)) k))), some (.inl (.int (nI k)))] [] m 0 := by
    refine ch_down _ n ?_ ?_
    · intro hO
      refine g_m_where_4 g _ _ _ m ?_
      simp only [ch_oi_iff, he]
      refine ⟨fun _ => ?_, fun c => absurd (nI_le (Nat.le_refl n) (by omega)) c⟩
      rw [if_neg hO] at hq; exact hq
    · intro k hk ih hO
      obtain ⟨a1, a2, a3, a4⟩ := ch_kn hk (by omega)
      have v : vp_in (nI k) 12 := vp_in_nI (by omega) (by decide)
      refine g_m_where_4 g _ _ _ m ?_
      simp only [ch_oi_iff, he, a3, a4]
      refine ⟨fun c => absurd c a1, fun _ => ⟨fun c => ⟨v, ?_⟩, fun c => ?_⟩⟩
      · exact ih (by unfold y_mfO; simp [hO, c])
      · have hz : y_mfO (m (9, 0, 9)) n = true := m_mfO_up (k := k + 1) (by omega) (by unfold y_mfO; simp [c])
        rw [if_pos hz] at hq; exact hq
  exact g_m_where_0 g _ _ (key 0 (by omega) Bool.false_ne_true)
set_option maxHeartbeats 1600000 in
theorem s_m_isOver (g : ch_G) (q : Int32 → ch_M → Prop)  (m : ch_M) (h : (vp_in (m (9, 0, 0) 21) 13) ∧ ((¬ y_mfO (m (9, 0, 9)) (Int32.toNatClampNeg (m (9, 0, 0) 21)) = true ∧ ¬ ch_ps (m (9, 0, 9)) (Int32.toNatClampNeg (m (9, 0, 0) 21)) < 11) → q 1 m) ∧ ((¬ (¬ y_mfO (m (9, 0, 9)) (Int32.toNatClampNeg (m (9, 0, 0) 21)) = true ∧ ¬ ch_ps (m (9, 0, 9)) (Int32.toNatClampNeg (m (9, 0, 0) 21)) < 11)) → q 0 m)) : ch_C g m_m_isOver [.inr (9, 0, 0)] m (ch_oi q) := by
  refine e_m_isOver g _  m ?_
  obtain ⟨h1, ha, hb⟩ := h
  obtain ⟨n, hn, he⟩ := vp_in_of h1 (by decide)
  rw [he, nI_clamp (by omega)] at ha hb
  have key : ∀ k, k ≤ n → (¬ y_mfO (m (9, 0, 9)) k = true) → ch_J g m_m_isOver (ch_rm m_m_isOver) (ch_E g m_m_isOver (ch_oi q)) 4 [some (.inr (9, 0, 0)), some (.inl (.int (ch_ps (m (9, 0, 9)) k))), some (.inl (.int (nI k)))] [] m 0 := by
    refine ch_down _ n ?_ ?_
    · intro hO
      refine g_m_isOver_4 g _ _ _ m ?_
      simp only [ch_oi_iff, he]
      refine ⟨fun _ => ?_, fun c => absurd (nI_le (Nat.le_refl n) (by omega)) c⟩
      exact ⟨fun c => hb (fun z => z.2 c), fun c => ha ⟨hO, c⟩⟩
    · intro k hk ih hO
      obtain ⟨a1, a2, a3, a4⟩ := ch_kn hk (by omega)
      have v : vp_in (nI k) 12 := vp_in_nI (by omega) (by decide)
      refine g_m_isOver_4 g _ _ _ m ?_
      simp only [ch_oi_iff, he, a3, a4]
      refine ⟨fun c => absurd c a1, fun _ => ⟨fun c => ⟨v, ?_⟩, fun c => ?_⟩⟩
      · exact ih (by unfold y_mfO; simp [hO, c])
      · have hz : y_mfO (m (9, 0, 9)) n = true := m_mfO_up (k := k + 1) (by omega) (by unfold y_mfO; simp [c])
        exact hb (fun z => z.1 hz)
  exact g_m_isOver_0 g _ _ (key 0 (by omega) Bool.false_ne_true)
