/-! what holds between calls, and what queries leave -/
def a_sc (a j : Nat) : Prop := (a = 1 ∧ j = 2) ∨ a = 8 ∨ (a = 5 ∧ j = 1) ∨ (a = 6 ∧ j = 1)
def a_same (m m' : ch_M) : Prop := ∀ a j c k, ¬ a_sc a j → ch_rl (a, j, c) k = true → m' (a, j, c) k = m (a, j, c) k
def a_nr (m : ch_M) : Prop := ∀ i, i < 60 → narrow .char (.int (m (6, 1, 1) i)) = .int (m (6, 1, 1) i)
def a_wr (m : ch_M) : Prop := vp_in (m (6, 1, 0) 1) 61 ∧ a_nr m
def a_pa (T : Nat) (m : ch_M) : Prop := ∃ n c, n < 8 ∧ c ≤ 8 ∧ m (2, 0, 0) 1 = nI n ∧ m (2, 0, 0) 2 = nI c ∧ ∀ k, k < c → y_inv T (ch_ob m 1 (4 + (n + 8 - k) % 8))
def a_inv (T : Nat) (m : ch_M) : Prop := y_inv T (ch_ob m 1 0) ∧ a_wr m ∧ a_pa T m ∧ (¬ m (0, 0, 0) 12 = 0 → y_inv T (ch_ob m 1 3)) ∧ m (6, 0, 0) 1 = 0 ∧ vp_in (m (5, 0, 0) 1) 13
theorem a_same_refl (m : ch_M) : a_same m m := fun _ _ _ _ _ _ => rfl
theorem a_same_tr {m m' m'' : ch_M} (h : a_same m m') (h' : a_same m' m'') : a_same m m'' := fun a j c k n e => (h' a j c k n e).trans (h a j c k n e)
theorem a_same_nz (m : ch_M) : a_same m (ch_nz m) := fun _ _ _ _ _ e => ch_nz_at e
theorem a_same_sm {m m' : ch_M} (h : a_same m m') {j : Nat} (hj : j ≠ 2) : y_sm (ch_ob m 1 j) (ch_ob m' 1 j) := fun c k e => h 1 j c k (by unfold a_sc; omega) (by rw [ch_rl_1]; exact e)
theorem a_wr_nz {m : ch_M} (h : a_wr m) : a_wr (ch_nz m) := by
  refine ⟨?_, fun i hi => ?_⟩
  · rw [ch_nz_at (by decide)]
    exact h.1
  · rw [ch_nz_at (by rw [ch_rl_s]; show (decide (i < 60) && true) = true; simp [hi])]
    exact h.2 i hi
theorem a_pa_co {T : Nat} {m m' : ch_M} (h : a_pa T m) (h1 : m' (2, 0, 0) 1 = m (2, 0, 0) 1) (h2 : m' (2, 0, 0) 2 = m (2, 0, 0) 2) (hk : ∀ j, 4 ≤ j → y_sm (ch_ob m 1 j) (ch_ob m' 1 j)) : a_pa T m' := by
  obtain ⟨n, c, a1, a2, a3, a4, a5⟩ := h
  exact ⟨n, c, a1, a2, h1.trans a3, h2.trans a4, fun k hk' => y_inv_sm (a5 k hk') (hk _ (by omega))⟩
theorem a_inv_same {T : Nat} {m m' : ch_M} (h : a_inv T m) (e : a_same m m') (hw : a_wr m') : a_inv T m' := by
  obtain ⟨a1, a2, a3, a4, a5, a6⟩ := h
  have c : ∀ a j c k, (a = 0 ∨ a = 2 ∨ (a = 5 ∧ j = 0) ∨ (a = 6 ∧ j = 0)) → ch_rl (a, j, c) k = true → m' (a, j, c) k = m (a, j, c) k := fun a j c k h e' => e a j c k (by unfold a_sc; omega) e'
  refine ⟨y_inv_sm a1 (a_same_sm e (by decide)), hw, a_pa_co a3 (c 2 0 0 1 (by omega) (by decide)) (c 2 0 0 2 (by omega) (by decide)) (fun j hj => a_same_sm e (by omega)), fun z => ?_, ?_, ?_⟩
  · rw [c 0 0 0 12 (by omega) (by decide)] at z
    exact y_inv_sm (a4 z) (a_same_sm e (by decide))
  · rw [c 6 0 0 1 (by omega) (by decide)]
    exact a5
  · rw [c 5 0 0 1 (by omega) (by decide)]
    exact a6
theorem a_inv_nz {T : Nat} {m : ch_M} (h : a_inv T m) : a_inv T (ch_nz m) := a_inv_same h (a_same_nz m) (a_wr_nz h.2.1)
