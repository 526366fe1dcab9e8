theorem y_tk_1 (Y : ch_B) (p c : Int32) (i : Nat) : y_tk Y p c 1 i = -1 ∨ y_tk Y p c 1 i = Y 1 i := by
  unfold y_tk
  split
  · by_cases h : i = p.toNatClampNeg
    · subst h; exact Or.inl (ch_bw_at _ _ _ _)
    · exact Or.inr (by rw [ch_bw_k h, ch_bw_c (by decide)])
  · exact Or.inr (ch_bw_c (by decide))
theorem y_tk_o {Y : ch_B} {p c : Int32} {a i : Nat} (h1 : a ≠ 1) (h2 : a ≠ 2) : y_tk Y p c a i = Y a i := by
  unfold y_tk
  split
  · rw [ch_bw_c h1, ch_bw_c h2]
  · rw [ch_bw_c h2]
/-- a step of a hop onto p -/
def y_hs (Z : ch_B) (c p : Int32) : ch_B := if ch_lineB Z c p = true then y_tk (ch_bw Z 7 (Z 1 p.toNatClampNeg).toNatClampNeg (Z 7 (Z 1 p.toNatClampNeg).toNatClampNeg + 1)) p 1 else Z
def y_hk (Y : ch_B) (c : Int32) (f : Nat → Int32) : Nat → ch_B
  | 0 => Y
  | n + 1 => y_hs (y_hk Y c f n) c (ch_ps f (n + 1))
theorem y_hs_1 (Z : ch_B) (c p : Int32) (i : Nat) : y_hs Z c p 1 i = -1 ∨ y_hs Z c p 1 i = Z 1 i := by
  unfold y_hs
  split
  · rcases y_tk_1 (ch_bw Z 7 (Z 1 p.toNatClampNeg).toNatClampNeg (Z 7 (Z 1 p.toNatClampNeg).toNatClampNeg + 1)) p 1 i with h | h
    · exact Or.inl h
    · exact Or.inr (by rw [h, ch_bw_c (by decide)])
  · exact Or.inr rfl
theorem y_hk_1 (Y : ch_B) (c : Int32) (f : Nat → Int32) (n i : Nat) : y_hk Y c f n 1 i = -1 ∨ y_hk Y c f n 1 i = Y 1 i := by
  induction n with
  | zero => exact Or.inr rfl
  | succ n ih =>
    rcases y_hs_1 (y_hk Y c f n) c (ch_ps f (n + 1)) i with h | h
    · exact Or.inl h
    · rcases ih with h2 | h2
      · exact Or.inl (h.trans h2)
      · exact Or.inr (h.trans h2)
def y_hopB (Y : ch_B) (c : Int32) (f : Nat → Int32) (n : Nat) : ch_B :=
  ch_bw (ch_bw (ch_bw (y_hk Y c f n) 4 c.toNatClampNeg (y_hk Y c f n 4 c.toNatClampNeg + y_ct Y c f n)) 0 12 (y_hk Y c f n 0 12 + y_ct Y c f n)) 6 c.toNatClampNeg (y_hk Y c f n 6 c.toNatClampNeg + 1)
theorem ch_os_5 (m : ch_M) (j j2 c : Nat) (B : ch_B) : ch_os m 1 j B (5, j2, c) = m (5, j2, c) := ch_os_ne (fun q => absurd (show (5 : Nat) = 1 from q.1) (by decide))
set_option maxHeartbeats 1600000 in
theorem s_y_hopBy (g : ch_G) (q : Int32 → ch_M → Prop) (j : Nat) (p1 : Int32) (j2 : Nat) (m : ch_M) (h : (vp_in p1 5) ∧ (vp_in (m (5, j2, 0) 1) 13) ∧ (∀ i_, i_ < 12 → m (1, j, 1) i_ = -1 ∨ vp_in (m (1, j, 1) i_) 5) ∧ q (y_ct (ch_ob m 1 j) p1 (m (5, j2, 1)) (Int32.toNatClampNeg (m (5, j2, 0) 1))) (ch_os m 1 j (y_hopB (ch_ob m 1 j) p1 (m (5, j2, 1)) (Int32.toNatClampNeg (m (5, j2, 0) 1))))) : ch_C g m_y_hopBy [.inr (1, j, 0), .inl (.int p1), .inr (5, j2, 0)] m (ch_oi q) := by
  refine e_y_hopBy g _ j p1 j2 m ?_
  obtain ⟨h1, h2, ho, hq⟩ := h
  obtain ⟨n, hn, he⟩ := vp_in_of h2 (by decide)
  rw [he, nI_clamp (by omega)] at hq
  refine g_y_hopBy_0 g _ _ _ _ _ ⟨h2, ?_⟩
  rw [he, nI_clamp (by omega)]
  have key : ∀ k, k ≤ n → ch_J g m_y_hopBy (ch_rm m_y_hopBy) (ch_E g m_y_hopBy (ch_oi q)) 13 [some (.inr (1, j, 0)), some (.inl (.int p1)), some (.inr (5, j2, 0)), some (.inl (.int (y_ct (ch_ob m 1 j) p1 (m (5, j2, 1)) n))), some (.inl (.int (ch_ps (m (5, j2, 1)) k))), some (.inl (.int (nI k)))] [] (ch_os m 1 j (y_hk (ch_ob m 1 j) p1 (m (5, j2, 1)) k)) 0 := by
    refine ch_down _ n ?_ ?_
    · refine g_y_hopBy_13 g _ j _ _ _ _ _ _ ?_
      simp only [ch_os_5, he]
      refine ⟨fun _ => ⟨h1, ?_⟩, fun c => absurd (nI_le (Nat.le_refl n) (by omega)) c⟩
      intro m2 e2 m3 e3 m4 e4
      rw [ch_os_wr, ch_os_at] at e2
      subst e2
      simp only [ch_os_wr, ch_os_at, ch_bw_c (show (0 : Nat) ≠ 4 by decide)] at e3
      subst e3
      simp only [ch_os_wr, ch_os_at, ch_bw_c (show (6 : Nat) ≠ 4 by decide), ch_bw_c (show (6 : Nat) ≠ 0 by decide)] at e4
      subst e4
      exact ch_oi_iff.mpr hq
    · intro k hk ih
      obtain ⟨a1, a2, a3, a4⟩ := ch_kn hk (by omega)
      refine g_y_hopBy_13 g _ j _ _ _ _ _ _ ?_
      have ep : ch_ps (m (5, j2, 1)) k + m (5, j2, 1) k = ch_ps (m (5, j2, 1)) (k + 1) := rfl
      simp only [ch_os_5, he, a3, a4, ep, ch_os_at, ch_ob_os, ch_os_os, ch_os_wr]
      refine ⟨fun c => absurd c a1, fun _ => ⟨vp_in_nI (by omega) (by decide), fun c => ?_, fun c => ?_⟩⟩
      · have hb := (ch_lineB_iff _ _ _).mpr c
        have e : y_hk (ch_ob m 1 j) p1 (m (5, j2, 1)) (k + 1) = y_hs (y_hk (ch_ob m 1 j) p1 (m (5, j2, 1)) k) p1 (ch_ps (m (5, j2, 1)) (k + 1)) := rfl
        rw [y_hs, if_pos hb] at e
        rw [e] at ih
        have hv : vp_in (ch_ps (m (5, j2, 1)) (k + 1)) 12 := ch_vp (n := 12) (by decide) c.1 c.2.1
        refine ⟨hv, ?_, fun m2 e2 => ?_⟩
        · obtain ⟨i, hi, hie⟩ := vp_in_of hv (by decide)
          have hw := c.2.2.1
          rw [hie, nI_clamp (by omega)] at hw ⊢
          rcases y_hk_1 (ch_ob m 1 j) p1 (m (5, j2, 1)) k i with h | h
          · exact absurd h hw
          · rw [h] at hw ⊢
            exact (ho i hi).resolve_left hw
        · subst e2
          simp only [ch_ob_os, ch_os_os]
          exact ⟨fun _ m3 e3 => e3 ▸ ih, fun _ m3 e3 => e3 ▸ ih⟩
      · have hb : ¬ ch_lineB (y_hk (ch_ob m 1 j) p1 (m (5, j2, 1)) k) p1 (ch_ps (m (5, j2, 1)) (k + 1)) = true := fun z => c ((ch_lineB_iff _ _ _).mp z)
        have e : y_hk (ch_ob m 1 j) p1 (m (5, j2, 1)) (k + 1) = y_hs (y_hk (ch_ob m 1 j) p1 (m (5, j2, 1)) k) p1 (ch_ps (m (5, j2, 1)) (k + 1)) := rfl
        rw [y_hs, if_neg hb] at e
        rw [e] at ih
        exact ih
  have h0 := key 0 (Nat.zero_le n)
  have e0 : ch_os m 1 j (y_hk (ch_ob m 1 j) p1 (m (5, j2, 1)) 0) = m := ch_os_self m 1 j
  rw [e0] at h0
  exact h0
def y_strB (Y : ch_B) (c : Int32) : ch_B := y_clB (ch_bw (ch_bw (ch_bw Y 3 c.toNatClampNeg (Y 3 c.toNatClampNeg - Y 5 c.toNatClampNeg)) 0 10 (Y 0 10 + Y 5 c.toNatClampNeg)) 5 c.toNatClampNeg 0)
theorem y_clB_o {Y : ch_B} {a i : Nat} (h1 : a ≠ 8) (h2 : ¬ (a = 0 ∧ i = 9)) : y_clB Y a i = Y a i := by
  unfold y_clB
  rw [if_neg h1, if_neg h2]
set_option maxHeartbeats 1600000 in
theorem s_y_strikeOut (g : ch_G) (q : Int32 → ch_M → Prop) (j : Nat) (p1 : Int32) (m : ch_M) (h : (vp_in p1 5) ∧ (vp_in (m (1, j, 0) 9) 6) ∧ (∀ i_, i_ < 5 → vp_in (m (1, j, 8) i_) 5) ∧ q (m (1, j, 3) (Int32.toNatClampNeg p1) - m (1, j, 5) (Int32.toNatClampNeg p1)) (ch_os m 1 j (y_strB (ch_ob m 1 j) p1))) : ch_C g m_y_strikeOut [.inr (1, j, 0), .inl (.int p1)] m (ch_oi q) := by
  refine e_y_strikeOut g _ j p1 m ?_
  obtain ⟨h1, h2, h3, hq⟩ := h
  refine g_y_strikeOut_0 g _ _ _ _ ⟨h1, fun m2 e2 m3 e3 m4 e4 => ?_⟩
  rw [ch_wr_os] at e2
  subst e2
  simp only [ch_os_wr, ch_os_at, ch_bw_c (show (0 : Nat) ≠ 3 by decide), ch_bw_c (show (5 : Nat) ≠ 3 by decide)] at e3
  subst e3
  simp only [ch_os_wr] at e4
  subst e4
  simp only [ch_os_at, ch_ob_os, ch_os_os, ch_bw_c (show (0 : Nat) ≠ 3 by decide), ch_bw_c (show (0 : Nat) ≠ 5 by decide), ch_bw_k (show (9 : Nat) ≠ 10 by decide), ch_bw_c (show (8 : Nat) ≠ 3 by decide), ch_bw_c (show (8 : Nat) ≠ 5 by decide), ch_bw_c (show (8 : Nat) ≠ 0 by decide)]
  refine ⟨h2, h3, fun m6 e6 => ?_⟩
  subst e6
  rw [ch_oi_iff, ch_os_at, y_clB_o (by decide) (fun q => absurd q.1 (by decide)), ch_bw_c (by decide), ch_bw_c (by decide), ch_bw_at]
  exact hq
def y_wk (Y : ch_B) (r : Int32) : Nat → ch_B × Int32
  | 0 => (Y, 0)
  | n + 1 => if (y_wk Y r n).1 1 n = -1 then y_wk Y r n else (y_tk (y_wk Y r n).1 (nI n) r, if y_tkv (y_wk Y r n).1 (nI n) r = 0 then (y_wk Y r n).2 + 1 else (y_wk Y r n).2)
def y_wv (x r : Int32) : Int32 := if x - r < 0 then 0 else x - r
def y_wa (Z : ch_B) (r : Int32) : Nat → ch_B
  | 0 => Z
  | n + 1 => ch_bw (y_wa Z r n) 5 (Z 8 n).toNatClampNeg (y_wv (y_wa Z r n 5 (Z 8 n).toNatClampNeg) r)
theorem y_wk_o (Y : ch_B) (r : Int32) (n a i : Nat) (h1 : a ≠ 1) (h2 : a ≠ 2) : (y_wk Y r n).1 a i = Y a i := by
  induction n with
  | zero => rfl
  | succ n ih =>
    rw [y_wk]
    split
    · exact ih
    · exact (y_tk_o h1 h2).trans ih
theorem y_wa_o (Y : ch_B) (r : Int32) (n a i : Nat) (h1 : a ≠ 5) : y_wa Y r n a i = Y a i := by
  induction n with
  | zero => rfl
  | succ n ih =>
    rw [y_wa, ch_bw_c h1]
    exact ih
def y_wZ (Y : ch_B) (r : Int32) : ch_B := y_wa (y_wk Y r 12).1 r (Y 0 9).toNatClampNeg
def y_wG (Y : ch_B) (r : Int32) : Int32 := Y 0 9 - nI (y_clk (y_wZ Y r) (Y 0 9).toNatClampNeg).2
def y_washB (Y : ch_B) (r : Int32) : ch_B := ch_bw (y_clB (y_wZ Y r)) 0 14 (Y 0 14 + y_wG Y r)
def y_washR (Y : ch_B) (r : Int32) : Int32 := (y_wk Y r 12).2 + y_wG Y r
set_option maxHeartbeats 1600000 in
theorem s_y_wash (g : ch_G) (q : Int32 → ch_M → Prop) (j : Nat) (p1 : Int32) (m : ch_M) (h : (vp_in (m (1, j, 0) 9) 6) ∧ (∀ i_, i_ < 5 → vp_in (m (1, j, 8) i_) 5) ∧ q (y_washR (ch_ob m 1 j) p1) (ch_os m 1 j (y_washB (ch_ob m 1 j) p1))) : ch_C g m_y_wash [.inr (1, j, 0), .inl (.int p1)] m (ch_oi q) := by
  refine e_y_wash g _ j p1 m ?_
  obtain ⟨h2, h3, hq⟩ := h
  obtain ⟨n, hn, he⟩ := vp_in_of h2 (by decide)
  have hY : ch_ob m 1 j 0 9 = nI n := he
  have hZ : ∀ k a i, a ≠ 1 → a ≠ 2 → (y_wk (ch_ob m 1 j) p1 k).1 a i = m (1, j, a) i := fun k a i => y_wk_o _ _ _ _ _
  have key2 : ∀ k, k ≤ n → ∀ o4, ch_J g m_y_wash (ch_rm m_y_wash) (ch_E g m_y_wash (ch_oi q)) 40 [some (.inr (1, j, 0)), some (.inl (.int p1)), some (.inl (.int (y_wk (ch_ob m 1 j) p1 12).2)), some (.inl (.int (nI k))), o4] [] (ch_os m 1 j (y_wa (y_wk (ch_ob m 1 j) p1 12).1 p1 k)) 0 := by
    refine ch_down (fun k => ∀ o4, ch_J g m_y_wash (ch_rm m_y_wash) (ch_E g m_y_wash (ch_oi q)) 40 [some (.inr (1, j, 0)), some (.inl (.int p1)), some (.inl (.int (y_wk (ch_ob m 1 j) p1 12).2)), some (.inl (.int (nI k))), o4] [] (ch_os m 1 j (y_wa (y_wk (ch_ob m 1 j) p1 12).1 p1 k)) 0) n ?_ ?_
    · intro o4
      refine g_y_wash_40 g _ j _ _ _ _ _ ?_
      have w : ∀ a i, a ≠ 1 → a ≠ 2 → a ≠ 5 → y_wa (y_wk (ch_ob m 1 j) p1 12).1 p1 n a i = m (1, j, a) i := fun a i x y z => (y_wa_o _ _ _ _ _ z).trans (hZ 12 a i x y)
      simp only [ch_os_at, ch_ob_os, ch_os_os, w 0 _ (by decide) (by decide) (by decide), w 8 _ (by decide) (by decide) (by decide)]
      refine ⟨fun _ => ⟨h2, h3, fun m2 e2 m6 e6 => ?_⟩, fun c => absurd (by rw [he]; exact nI_le (Nat.le_refl n) (by omega)) c⟩
      subst e2
      rw [ch_os_wr, ch_os_at, y_clB_o (by decide) (by decide), w 0 _ (by decide) (by decide) (by decide)] at e6
      have e7 : (m (1, j, 0) 9).toNatClampNeg = n := by rw [he, nI_clamp (by omega)]
      rw [e7] at e6 ⊢
      have e8 : y_wZ (ch_ob m 1 j) p1 = y_wa (y_wk (ch_ob m 1 j) p1 12).1 p1 n := by
        unfold y_wZ
        rw [hY, nI_clamp (by omega)]
      have e9 : m (1, j, 0) 9 - nI (y_clk (y_wa (y_wk (ch_ob m 1 j) p1 12).1 p1 n) n).2 = y_wG (ch_ob m 1 j) p1 := by
        unfold y_wG
        rw [e8, hY, nI_clamp (by omega), he]
      rw [e9] at e6 ⊢
      rw [← e8] at e6
      rw [e6]
      exact ch_oi_iff.mpr hq
    · intro k hk ih o4
      obtain ⟨a1, a2, a3, a4⟩ := ch_kn hk (by omega)
      refine g_y_wash_40 g _ j _ _ _ _ _ ?_
      have w : ∀ a i, a ≠ 1 → a ≠ 2 → a ≠ 5 → y_wa (y_wk (ch_ob m 1 j) p1 12).1 p1 k a i = m (1, j, a) i := fun a i x y z => (y_wa_o _ _ _ _ _ z).trans (hZ 12 a i x y)
      simp only [a3, a4, ch_os_at, ch_ob_os, ch_os_os, ch_os_wr, w 0 _ (by decide) (by decide) (by decide), w 8 _ (by decide) (by decide) (by decide)]
      rw [he]
      refine ⟨fun c => absurd c a1, fun _ => ⟨vp_in_nI (by omega) (by decide), h3 k (by omega), fun m2 e2 => ?_⟩⟩
      subst e2
      have ih := ih (some (.inl (.int (m (1, j, 8) k))))
      rw [y_wa, hZ 12 8 k (by decide) (by decide)] at ih
      exact ih
  have key1 : ∀ k, k ≤ 12 → ch_J g m_y_wash (ch_rm m_y_wash) (ch_E g m_y_wash (ch_oi q)) 4 [some (.inr (1, j, 0)), some (.inl (.int p1)), some (.inl (.int (y_wk (ch_ob m 1 j) p1 k).2)), some (.inl (.int (nI k))), none] [] (ch_os m 1 j (y_wk (ch_ob m 1 j) p1 k).1) 0 := by
    refine ch_down _ 12 ?_ ?_
    · refine g_y_wash_4 g _ j _ _ _ _ _ ?_
      exact ⟨fun _ => key2 0 (Nat.zero_le n) none, fun c => absurd (by decide) c⟩
    · intro k hk ih
      obtain ⟨a1, a2, a3, a4⟩ := ch_k12 hk
      refine g_y_wash_4 g _ j _ _ _ _ _ ?_
      rw [y_wk] at ih
      simp only [a3, a4, ch_os_at, ch_ob_os, ch_os_os]
      refine ⟨fun c => absurd c a1, fun _ => ⟨a2, fun c => ?_, fun c => ⟨fun d => ?_, fun d => ?_⟩⟩⟩
      · rw [if_pos c] at ih
        exact ih
      · rw [if_neg c, if_pos d] at ih
        exact fun m3 e3 => e3 ▸ ih
      · rw [if_neg c, if_neg d] at ih
        exact fun m3 e3 => e3 ▸ ih
  refine g_y_wash_0 g _ _ _ _ ?_
  have h0 := key1 0 (by decide)
  have e0 : ch_os m 1 j (y_wk (ch_ob m 1 j) p1 0).1 = m := ch_os_self m 1 j
  rw [e0] at h0
  exact h0
def y_pk (Y : ch_B) (c : Int32) : Nat → ch_B × Int32
  | 0 => (Y, 0)
  | n + 1 => if (y_pk Y c n).1 1 n = c then (if (y_pk Y c n).1 3 c.toNatClampNeg ≤ 0 then (y_tk (y_pk Y c n).1 (nI n) 9, (y_pk Y c n).2 + 1) else (ch_bw (ch_bw (y_pk Y c n).1 3 c.toNatClampNeg ((y_pk Y c n).1 3 c.toNatClampNeg - 1)) 0 10 ((y_pk Y c n).1 0 10 + 1), (y_pk Y c n).2)) else y_pk Y c n
/-- a word for a value that does not unfold -/
noncomputable def ch_opq {α : Type} (a : α) : α := Classical.choose (p := fun x => x = a) ⟨a, rfl⟩
theorem ch_opq_eq {α : Type} (a : α) : ch_opq a = a := Classical.choose_spec (p := fun x => x = a) ⟨a, rfl⟩
noncomputable def y_p12 (Y : ch_B) (c : Int32) : ch_B × Int32 := ch_opq (y_pk Y c 12)
theorem y_p12_eq (Y : ch_B) (c : Int32) : y_p12 Y c = y_pk Y c 12 := ch_opq_eq _
set_option maxHeartbeats 1600000 in
theorem s_y_payRents (g : ch_G) (q : Int32 → ch_M → Prop) (j : Nat) (p1 : Int32) (m : ch_M) (h : (vp_in p1 5) ∧ q ((y_p12 (ch_ob m 1 j) p1).2) (ch_os m 1 j ((y_p12 (ch_ob m 1 j) p1).1))) : ch_C g m_y_payRents [.inr (1, j, 0), .inl (.int p1)] m (ch_oi q) := by
  refine e_y_payRents g _ j p1 m ?_
  rw [y_p12_eq] at h
  obtain ⟨h1, hq⟩ := h
  refine g_y_payRents_0 g _ _ _ _ ?_
  have key : ∀ k, k ≤ 12 → ch_J g m_y_payRents (ch_rm m_y_payRents) (ch_E g m_y_payRents (ch_oi q)) 4 [some (.inr (1, j, 0)), some (.inl (.int p1)), some (.inl (.int (y_pk (ch_ob m 1 j) p1 k).2)), some (.inl (.int (nI k)))] [] (ch_os m 1 j (y_pk (ch_ob m 1 j) p1 k).1) 0 := by
    refine ch_down _ 12 ?_ ?_
    · refine g_y_payRents_4 g _ j _ _ _ _ ?_
      exact ⟨fun _ => ch_oi_iff.mpr hq, fun c => absurd (by decide) c⟩
    · intro k hk ih
      obtain ⟨a1, a2, a3, a4⟩ := ch_k12 hk
      refine g_y_payRents_4 g _ j _ _ _ _ ?_
      rw [y_pk] at ih
      simp only [a3, a4, ch_os_at, ch_ob_os, ch_os_os, ch_os_wr]
      refine ⟨fun c => absurd c a1, fun _ => ⟨a2, fun c => ⟨h1, fun d => ?_, fun d => ?_⟩, fun c => ?_⟩⟩
      · rw [if_pos c, if_pos d] at ih
        exact ⟨fun _ m3 e3 => e3 ▸ ih, fun _ m3 e3 => e3 ▸ ih⟩
      · rw [if_pos c, if_neg d] at ih
        intro m2 e2 m3 e3
        subst e2
        simp only [ch_os_wr, ch_os_at, ch_bw_c (show (0 : Nat) ≠ 3 by decide)] at e3
        subst e3
        exact ih
      · rw [if_neg c] at ih
        exact ih
  have h0 := key 0 (by decide)
  have e0 : ch_os m 1 j (y_pk (ch_ob m 1 j) p1 0).1 = m := ch_os_self m 1 j
  rw [e0] at h0
  exact h0
