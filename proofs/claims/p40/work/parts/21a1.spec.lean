theorem ch_k12 {k : Nat} (hk : k < 12) : (¬ (12 : Int32) ≤ nI k) ∧ vp_in (nI k) 12 ∧ Int32.toNatClampNeg (nI k) = k ∧ nI k + 1 = nI (k + 1) := ⟨nI_ge (b := 12) hk (by decide), vp_in_nI hk (by decide), nI_clamp (by omega), nI_1 k⟩
/-- the set of the squares of c, but so many of the lowest -/
def y_ofS (o : Nat → Int32) (c l : Int32) : Nat → Int32
  | 0 => 0
  | n + 1 => if o n = c then (if ch_cnO o c n < l then y_ofS o c l n ||| 0 else y_ofS o c l n ||| (1 <<< (nI n &&& 31))) else y_ofS o c l n
def y_scO (o f : Nat → Int32) (c : Int32) : Nat → Int32
  | 0 => 0
  | n + 1 => if o n = c then y_scO o f c n + f n else y_scO o f c n + 0
def y_sum (f : Nat → Int32) : Nat → Int32
  | 0 => 0
  | n + 1 => y_sum f n + f n
def y_lr (o : Nat → Int32) (c : Int32) : Nat → Int32 × Int32
  | 0 => (0, 0)
  | n + 1 => if o n = c then (if (y_lr o c n).1 < (y_lr o c n).2 + 1 then (y_lr o c n).2 + 1 else (y_lr o c n).1, (y_lr o c n).2 + 1) else (if (y_lr o c n).1 < 0 then 0 else (y_lr o c n).1, 0)
def y_even (Y : ch_B) : Prop := ∀ k, k < 12 → (¬ Y 2 k ≤ 0 ↔ ¬ Y 1 k = -1)
/-- places on a hop -/
def ch_ps (f : Nat → Int32) : Nat → Int32
  | 0 => -1
  | n + 1 => ch_ps f n + f n

theorem ch_line_dec (Y : ch_B) (c p : Int32) : ch_line Y c p ∨ ¬ ch_line Y c p := Classical.em _
def ch_lineB (Y : ch_B) (c p : Int32) : Bool := !decide (p < 0) && !decide (12 ≤ p) && !decide (Y 1 p.toNatClampNeg = -1) && !decide (Y 1 p.toNatClampNeg = c)
theorem ch_lineB_iff (Y : ch_B) (c p : Int32) : ch_lineB Y c p = true ↔ ch_line Y c p := by unfold ch_lineB ch_line; simp [and_assoc]
def y_ct (Y : ch_B) (c : Int32) (f : Nat → Int32) : Nat → Int32
  | 0 => 0
  | n + 1 => if ch_lineB Y c (ch_ps f (n + 1)) = true then y_ct Y c f n + 1 else y_ct Y c f n
/-- where steps that don't end a hop end; 12: they go on; -1: they fit -/
def y_mfO (f : Nat → Int32) : Nat → Bool
  | 0 => false
  | n + 1 => y_mfO f n || !decide (ch_ps f n < 11)
def y_mf (f : Nat → Int32) (n : Nat) : Int32 := if y_mfO f n = true then 12 else if ch_ps f n < 11 then ch_ps f n else -1
def y_ms (Y : ch_B) (c w : Int32) : Int32 := if w = 0 then Y 3 c.toNatClampNeg else if w = 1 then ch_cnO (Y 1) c 12 else if w = 2 then Y 4 c.toNatClampNeg else Y 5 c.toNatClampNeg
def y_ca (Y : ch_B) (c w : Int32) : Nat → Int32
  | 0 => 0
  | n + 1 => if y_ms Y c w < y_ms Y (nI n) w then y_ca Y c w n + 1 else if ¬ y_ms Y (nI n) w = y_ms Y c w then y_ca Y c w n else if c ≤ nI n then y_ca Y c w n else y_ca Y c w n + 1
theorem ch_kn {k n : Nat} (hk : k < n) (hn : n < 60) : (¬ nI n ≤ nI k) ∧ vp_in (nI k) n ∧ Int32.toNatClampNeg (nI k) = k ∧ nI k + 1 = nI (k + 1) := ⟨nI_ge hk (by omega), vp_in_nI hk (by omega), nI_clamp (by omega), nI_1 k⟩
set_option maxHeartbeats 1600000 in
theorem s_y_ownedFrom (g : ch_G) (q : Int32 → ch_M → Prop) (j : Nat) (p1 : Int32) (p2 : Int32) (m : ch_M) (h : q (y_ofS (m (1, j, 1)) p1 p2 12) m) : ch_C g m_y_ownedFrom [.inr (1, j, 0), .inl (.int p1), .inl (.int p2)] m (ch_oi q) := by
  refine e_y_ownedFrom g _ j p1 p2 m ?_
  refine g_y_ownedFrom_0 g _ _ _ _ _ ?_
  refine ch_down (fun k => ch_J g m_y_ownedFrom (ch_rm m_y_ownedFrom) (ch_E g m_y_ownedFrom (ch_oi q)) 8 [some (.inr (1, j, 0)), some (.inl (.int p1)), some (.inl (.int p2)), some (.inl (.int (y_ofS (m (1, j, 1)) p1 p2 k))), some (.inl (.int (ch_cnO (m (1, j, 1)) p1 k))), some (.inl (.int (nI k)))] [] m 0) 12 ?_ ?_ 0 (by decide)
  · refine g_y_ownedFrom_8 g _ _ _ _ _ _ _ m ?_
    simp only [ch_oi_iff]
    exact ⟨fun _ => h, fun c => absurd (by decide) c⟩
  · intro k hk ih
    obtain ⟨a1, a2, a3, a4⟩ := ch_k12 hk
    refine g_y_ownedFrom_8 g _ _ _ _ _ _ _ m ?_
    simp only [ch_oi_iff, a3, a4]
    simp only [y_ofS, ch_cnO] at ih
    grind
set_option maxHeartbeats 1600000 in
theorem s_y_sumChalk (g : ch_G) (q : Int32 → ch_M → Prop) (j : Nat) (p1 : Int32) (m : ch_M) (h : q (y_scO (m (1, j, 1)) (m (1, j, 2)) p1 12) m) : ch_C g m_y_sumChalk [.inr (1, j, 0), .inl (.int p1)] m (ch_oi q) := by
  refine e_y_sumChalk g _ j p1 m ?_
  refine g_y_sumChalk_0 g _ _ _ _ ?_
  refine ch_down (fun k => ch_J g m_y_sumChalk (ch_rm m_y_sumChalk) (ch_E g m_y_sumChalk (ch_oi q)) 4 [some (.inr (1, j, 0)), some (.inl (.int p1)), some (.inl (.int (y_scO (m (1, j, 1)) (m (1, j, 2)) p1 k))), some (.inl (.int (nI k)))] [] m 0) 12 ?_ ?_ 0 (by decide)
  · refine g_y_sumChalk_4 g _ _ _ _ _ m ?_
    simp only [ch_oi_iff]
    exact ⟨fun _ => h, fun c => absurd (by decide) c⟩
  · intro k hk ih
    obtain ⟨a1, a2, a3, a4⟩ := ch_k12 hk
    refine g_y_sumChalk_4 g _ _ _ _ _ m ?_
    simp only [ch_oi_iff, a3, a4]
    simp only [y_scO] at ih
    grind
set_option maxHeartbeats 1600000 in
theorem s_y_sumAllChalk (g : ch_G) (q : Int32 → ch_M → Prop) (j : Nat) (m : ch_M) (h : q (y_sum (m (1, j, 2)) 12) m) : ch_C g m_y_sumAllChalk [.inr (1, j, 0)] m (ch_oi q) := by
  refine e_y_sumAllChalk g _ j m ?_
  refine g_y_sumAllChalk_0 g _ _ _ ?_
  refine ch_down (fun k => ch_J g m_y_sumAllChalk (ch_rm m_y_sumAllChalk) (ch_E g m_y_sumAllChalk (ch_oi q)) 4 [some (.inr (1, j, 0)), some (.inl (.int (y_sum (m (1, j, 2)) k))), some (.inl (.int (nI k)))] [] m 0) 12 ?_ ?_ 0 (by decide)
  · refine g_y_sumAllChalk_4 g _ _ _ _ m ?_
    simp only [ch_oi_iff]
    exact ⟨fun _ => h, fun c => absurd (by decide) c⟩
  · intro k hk ih
    obtain ⟨a1, a2, a3, a4⟩ := ch_k12 hk
    refine g_y_sumAllChalk_4 g _ _ _ _ m ?_
    simp only [ch_oi_iff, a3, a4]
    simp only [y_sum] at ih
    grind
set_option maxHeartbeats 1600000 in
theorem s_y_longestRun (g : ch_G) (q : Int32 → ch_M → Prop) (j : Nat) (p1 : Int32) (m : ch_M) (h : q ((y_lr (m (1, j, 1)) p1 12).1) m) : ch_C g m_y_longestRun [.inr (1, j, 0), .inl (.int p1)] m (ch_oi q) := by
  refine e_y_longestRun g _ j p1 m ?_
  refine g_y_longestRun_0 g _ _ _ _ ?_
  refine ch_down (fun k => ch_J g m_y_longestRun (ch_rm m_y_longestRun) (ch_E g m_y_longestRun (ch_oi q)) 7 [some (.inr (1, j, 0)), some (.inl (.int p1)), some (.inl (.int (y_lr (m (1, j, 1)) p1 k).1)), some (.inl (.int (y_lr (m (1, j, 1)) p1 k).2)), some (.inl (.int (nI k)))] [] m 0) 12 ?_ ?_ 0 (by decide)
  · refine g_y_longestRun_7 g _ _ _ _ _ _ m ?_
    simp only [ch_oi_iff]
    exact ⟨fun _ => h, fun c => absurd (by decide) c⟩
  · intro k hk ih
    obtain ⟨a1, a2, a3, a4⟩ := ch_k12 hk
    refine g_y_longestRun_7 g _ _ _ _ _ _ m ?_
    simp only [ch_oi_iff, a3, a4]
    simp only [y_lr] at ih
    grind
set_option maxHeartbeats 1600000 in
theorem s_y_sumPebbles (g : ch_G) (q : Int32 → ch_M → Prop) (j : Nat) (m : ch_M) (h : (vp_in (m (1, j, 0) 8) 6) ∧ q (y_sum (m (1, j, 3)) (Int32.toNatClampNeg (m (1, j, 0) 8))) m) : ch_C g m_y_sumPebbles [.inr (1, j, 0)] m (ch_oi q) := by
  refine e_y_sumPebbles g _ j m ?_
  obtain ⟨n, hn, he⟩ := vp_in_of h.1 (by decide)
  have h2 := h.2
  rw [he, nI_clamp (by omega)] at h2
  refine g_y_sumPebbles_0 g _ _ _ ?_
  refine ch_down (fun k => ch_J g m_y_sumPebbles (ch_rm m_y_sumPebbles) (ch_E g m_y_sumPebbles (ch_oi q)) 4 [some (.inr (1, j, 0)), some (.inl (.int (y_sum (m (1, j, 3)) k))), some (.inl (.int (nI k)))] [] m 0) n ?_ ?_ 0 (by omega)
  · refine g_y_sumPebbles_4 g _ j _ _ m ?_
    simp only [ch_oi_iff]
    exact ⟨fun _ => h2, fun c => absurd (by rw [he]; exact nI_le (Nat.le_refl n) (by omega)) c⟩
  · intro k hk ih
    obtain ⟨a1, a2, a3, a4⟩ := ch_kn hk (by omega)
    refine g_y_sumPebbles_4 g _ j _ _ m ?_
    simp only [ch_oi_iff, a3, a4]
    rw [he]
    exact ⟨fun c => absurd c a1, fun _ => ⟨vp_in_nI (by omega) (by decide), ih⟩⟩
set_option maxHeartbeats 1600000 in
theorem s_y_countTreads (g : ch_G) (q : Int32 → ch_M → Prop) (j : Nat) (p1 : Int32) (j2 : Nat) (m : ch_M) (h : (vp_in (m (5, j2, 0) 1) 13) ∧ q (y_ct (ch_ob m 1 j) p1 (m (5, j2, 1)) (Int32.toNatClampNeg (m (5, j2, 0) 1))) m) : ch_C g m_y_countTreads [.inr (1, j, 0), .inl (.int p1), .inr (5, j2, 0)] m (ch_oi q) := by
  refine e_y_countTreads g _ j p1 j2 m ?_
  obtain ⟨n, hn, he⟩ := vp_in_of h.1 (by decide)
  have h2 := h.2
  rw [he, nI_clamp (by omega)] at h2
  refine g_y_countTreads_0 g _ _ _ _ _ ?_
  refine ch_down (fun k => ch_J g m_y_countTreads (ch_rm m_y_countTreads) (ch_E g m_y_countTreads (ch_oi q)) 8 [some (.inr (1, j, 0)), some (.inl (.int p1)), some (.inr (5, j2, 0)), some (.inl (.int (y_ct (ch_ob m 1 j) p1 (m (5, j2, 1)) k))), some (.inl (.int (ch_ps (m (5, j2, 1)) k))), some (.inl (.int (nI k)))] [] m 0) n ?_ ?_ 0 (by omega)
  · refine g_y_countTreads_8 g _ j _ _ _ _ _ m ?_
    simp only [ch_oi_iff]
    exact ⟨fun _ => h2, fun c => absurd (by rw [he]; exact nI_le (Nat.le_refl n) (by omega)) c⟩
  · intro k hk ih
    obtain ⟨a1, a2, a3, a4⟩ := ch_kn hk (by omega)
    refine g_y_countTreads_8 g _ j _ _ _ _ _ m ?_
    simp only [ch_oi_iff, a3, a4]
    rw [he]
    refine ⟨fun c => absurd c a1, fun _ => ⟨vp_in_nI (by omega) (by decide), fun c => ?_, fun c => ?_⟩⟩
    · have c2 := (ch_lineB_iff _ _ _).mpr c
      have e : y_ct (ch_ob m 1 j) p1 (m (5, j2, 1)) (k + 1) = y_ct (ch_ob m 1 j) p1 (m (5, j2, 1)) k + 1 := if_pos c2
      rw [e] at ih
      exact ih
    · have c2 : ¬ ch_lineB (ch_ob m 1 j) p1 (ch_ps (m (5, j2, 1)) (k + 1)) = true := fun z => c ((ch_lineB_iff _ _ _).mp z)
      have e : y_ct (ch_ob m 1 j) p1 (m (5, j2, 1)) (k + 1) = y_ct (ch_ob m 1 j) p1 (m (5, j2, 1)) k := if_neg c2
      rw [e] at ih
      exact ih
set_option maxHeartbeats 1600000 in
theorem s_s_misfit (g : ch_G) (q : Int32 → ch_M → Prop) (j : Nat) (m : ch_M) (h : (vp_in (m (5, j, 0) 1) 13) ∧ q (y_mf (m (5, j, 1)) (Int32.toNatClampNeg (m (5, j, 0) 1))) m) : ch_C g m_s_misfit [.inr (5, j, 0)] m (ch_oi q) := by
  refine e_s_misfit g _ j m ?_
  obtain ⟨n, hn, he⟩ := vp_in_of h.1 (by decide)
  have h2 := h.2
  rw [he, nI_clamp (by omega)] at h2
  refine g_s_misfit_0 g _ _ _ ?_
  have hmono : ∀ k d, y_mfO (m (5, j, 1)) k = true → y_mfO (m (5, j, 1)) (k + d) = true := by
    intro k d hk
    induction d with
    | zero => exact hk
    | succ d ih => show (y_mfO _ (k + d) || _) = true; rw [ih]; rfl
  refine ch_down (fun k => y_mfO (m (5, j, 1)) k = false → ch_J g m_s_misfit (ch_rm m_s_misfit) (ch_E g m_s_misfit (ch_oi q)) 4 [some (.inr (5, j, 0)), some (.inl (.int (ch_ps (m (5, j, 1)) k))), some (.inl (.int (nI k)))] [] m 0) n ?_ ?_ 0 (by omega) rfl
  · intro ho
    refine g_s_misfit_4 g _ j _ _ m ?_
    simp only [ch_oi_iff]
    refine ⟨fun _ => ?_, fun c => absurd (by rw [he]; exact nI_le (Nat.le_refl n) (by omega)) c⟩
    unfold y_mf at h2
    rw [ho] at h2
    constructor
    · intro c; rw [if_neg (by simp), if_pos c] at h2; exact h2
    · intro c; rw [if_neg (by simp), if_neg c] at h2; exact h2
  · intro k hk ih ho
    obtain ⟨a1, a2, a3, a4⟩ := ch_kn hk (by omega)
    refine g_s_misfit_4 g _ j _ _ m ?_
    simp only [ch_oi_iff, a3, a4]
    rw [he]
    refine ⟨fun c => absurd c a1, fun _ => ⟨fun c => ⟨vp_in_nI (by omega) (by decide), ih ?_⟩, fun c => ?_⟩⟩
    · show (y_mfO _ k || _) = false
      rw [ho]
      simp [c]
    · have h3 : y_mfO (m (5, j, 1)) (k + 1) = true := by
        show (y_mfO _ k || _) = true
        simp [c]
      have h4 := hmono (k + 1) (n - (k + 1)) h3
      rw [show k + 1 + (n - (k + 1)) = n by omega] at h4
      unfold y_mf at h2
      rw [if_pos h4] at h2
      exact h2
set_option maxHeartbeats 1600000 in
theorem s_y_measureOf (g : ch_G) (q : Int32 → ch_M → Prop) (j : Nat) (p1 : Int32) (p2 : Int32) (m : ch_M) (h : (vp_in p1 5) ∧ q (y_ms (ch_ob m 1 j) p1 p2) m) : ch_C g m_y_measureOf [.inr (1, j, 0), .inl (.int p1), .inl (.int p2)] m (ch_oi q) := by
  refine e_y_measureOf g _ j p1 p2 m ?_
  refine g_y_measureOf_0 g _ _ _ _ _ ?_
  simp only [ch_oi_iff]
  have h1 := h.1
  have h2 := h.2
  unfold y_ms ch_ob at h2
  have e3 : (p2.toInt < 0 ∨ 2 < p2.toInt) → ¬ p2 = 0 ∧ ¬ p2 = 1 ∧ ¬ p2 = 2 := by
    intro c
    refine ⟨fun z => ?_, fun z => ?_, fun z => ?_⟩ <;> (subst z; revert c; decide)
  grind
