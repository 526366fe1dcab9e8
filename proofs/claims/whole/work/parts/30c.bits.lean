/-! sets of squares as ints -/
def b_st (b : Nat → Bool) : Nat → Int32
  | 0 => 0
  | n + 1 => if b n = true then b_st b n ||| (1 <<< (nI n &&& 31)) else b_st b n
def b_sc (b : Nat → Bool) : Nat → Int32
  | 0 => 0
  | n + 1 => if b n = true then b_sc b n + 1 else b_sc b n
theorem b_st_cg {b b' : Nat → Bool} (n : Nat) (h : ∀ k, k < n → b k = b' k) : b_st b n = b_st b' n := by
  induction n with
  | zero => rfl
  | succ n ih =>
    unfold b_st
    rw [h n (by omega), ih (fun k hk => h k (by omega))]
theorem b_sc_cg {b b' : Nat → Bool} (n : Nat) (h : ∀ k, k < n → b k = b' k) : b_sc b n = b_sc b' n := by
  induction n with
  | zero => rfl
  | succ n ih =>
    unfold b_sc
    rw [h n (by omega), ih (fun k hk => h k (by omega))]
def m_bl (a0 a1 a2 a3 a4 a5 a6 a7 a8 a9 a10 a11 : Bool) : Nat → Bool
  | 0 => a0
  | 1 => a1
  | 2 => a2
  | 3 => a3
  | 4 => a4
  | 5 => a5
  | 6 => a6
  | 7 => a7
  | 8 => a8
  | 9 => a9
  | 10 => a10
  | _ => a11
theorem m_bc12 : ∀ a0 a1 a2 a3 a4 a5 a6 a7 a8 a9 a10 a11 : Bool, i_bc (b_st (m_bl a0 a1 a2 a3 a4 a5 a6 a7 a8 a9 a10 a11) 12) = b_sc (m_bl a0 a1 a2 a3 a4 a5 a6 a7 a8 a9 a10 a11) 12 := by decide +kernel
theorem m_bl_at (b : Nat → Bool) (k : Nat) (hk : k < 12) : b k = m_bl (b 0) (b 1) (b 2) (b 3) (b 4) (b 5) (b 6) (b 7) (b 8) (b 9) (b 10) (b 11) k := by
  obtain rfl | rfl | rfl | rfl | rfl | rfl | rfl | rfl | rfl | rfl | rfl | rfl : k = 0 ∨ k = 1 ∨ k = 2 ∨ k = 3 ∨ k = 4 ∨ k = 5 ∨ k = 6 ∨ k = 7 ∨ k = 8 ∨ k = 9 ∨ k = 10 ∨ k = 11 := by omega
  all_goals rfl
theorem m_bc (b : Nat → Bool) : i_bc (b_st b 12) = b_sc b 12 := by
  rw [b_st_cg 12 (m_bl_at b), b_sc_cg 12 (m_bl_at b)]
  exact m_bc12 _ _ _ _ _ _ _ _ _ _ _ _
theorem y_ofS_b (o : Nat → Int32) (c : Int32) (n : Nat) (hn : n < 100) : y_ofS o c 0 n = b_st (fun k => decide (o k = c)) n := by
  induction n with
  | zero => rfl
  | succ n ih =>
    rw [y_ofS_0 _ _ _ (by omega), ih (by omega)]
    show _ = if decide (o n = c) = true then b_st (fun k => decide (o k = c)) n ||| (1 <<< (nI n &&& 31)) else b_st (fun k => decide (o k = c)) n
    by_cases h : o n = c
    · rw [if_pos h, if_pos (by simp [h])]
    · rw [if_neg h, if_neg (by simp [h])]
theorem ch_cnO_b (o : Nat → Int32) (c : Int32) (n : Nat) : ch_cnO o c n = b_sc (fun k => decide (o k = c)) n := by
  induction n with
  | zero => rfl
  | succ n ih =>
    unfold ch_cnO b_sc
    rw [ih]
    by_cases h : o n = c <;> simp [h]
theorem y_bc (o : Nat → Int32) (c : Int32) : i_bc (y_ofS o c 0 12) = ch_cnO o c 12 := by
  rw [y_ofS_b _ _ _ (by omega), m_bc, ch_cnO_b]
theorem m_1s : ∀ n : Fin 12, (1 <<< (nI n.val &&& 31) : Int32).toBitVec = BitVec.twoPow 32 n.val := by decide +kernel
theorem b_st_bit (b : Nat → Bool) (n i : Nat) (hn : n ≤ 12) : (b_st b n).toBitVec.getLsbD i = (decide (i < n) && b i) := by
  induction n with
  | zero =>
    show (0 : BitVec 32).getLsbD i = _
    simp
  | succ n ih =>
    have ih := ih (by omega)
    have e := m_1s ⟨n, by omega⟩
    dsimp only at e
    unfold b_st
    by_cases hb : b n = true
    · rw [if_pos hb, Int32.toBitVec_or, BitVec.getLsbD_or, ih, e, BitVec.getLsbD_twoPow]
      by_cases h : i = n
      · subst h
        simp [hb]
        omega
      · have h1 : ¬ n = i := fun z => h z.symm
        have h2 : (i < n + 1) = (i < n) := by
          apply propext
          omega
        simp [h1, h2]
    · rw [if_neg hb, ih]
      by_cases h : i = n
      · subst h
        simp [hb]
      · have h2 : (i < n + 1) = (i < n) := by
          apply propext
          omega
        simp [h2]
theorem m_w1 (m : ch_M) (k : Nat) (v : Int32) : ch_wr m (9, 0, 0) k v (9, 0, 1) = m (9, 0, 1) := ch_wr_ne (by decide)
theorem m_w6 (m : ch_M) (k : Nat) (v : Int32) : ch_wr m (9, 0, 0) k v (9, 0, 6) = m (9, 0, 6) := ch_wr_ne (by decide)
theorem m_w7 (m : ch_M) (k : Nat) (v : Int32) : ch_wr m (9, 0, 0) k v (9, 0, 7) = m (9, 0, 7) := ch_wr_ne (by decide)
theorem m_w9 (m : ch_M) (k : Nat) (v : Int32) : ch_wr m (9, 0, 0) k v (9, 0, 9) = m (9, 0, 9) := ch_wr_ne (by decide)
theorem m_chi {n c : Int32} (h : vp_in n 6) : (0 ≤ c ∧ c ≤ n - 1) ↔ (0 ≤ c ∧ c < n) := by
  obtain ⟨k, hk, rfl⟩ := vp_in_of h (by decide)
  have e1 : (nI k - 1).toInt = (k : Int) - 1 := by
    obtain rfl | rfl | rfl | rfl | rfl | rfl : k = 0 ∨ k = 1 ∨ k = 2 ∨ k = 3 ∨ k = 4 ∨ k = 5 := by omega
    all_goals decide
  have e2 : (nI k).toInt = (k : Int) := nI_toInt (by omega)
  rw [Int32.le_iff_toInt_le, Int32.le_iff_toInt_le, Int32.lt_iff_toInt_lt, e1, e2]
  omega
theorem m_chv {n c : Int32} (h : vp_in n 6) (h1 : 0 ≤ c ∧ c < n) : vp_in c 5 := m_chd h h1.1 ((m_chi h).mpr h1).2
/-- a hop's places -/
theorem m_ps (f : Nat → Int32) (n : Nat) (h : ∀ i, i < n → 1 ≤ f i ∧ f i ≤ 3) : n ≤ 12 → ∃ j, n ≤ j ∧ j ≤ 3 * n ∧ ch_ps f n = nI j - 1 := by
  induction n with
  | zero => exact fun _ => ⟨0, Nat.le_refl _, Nat.le_refl _, by show (-1 : Int32) = nI 0 - 1; decide⟩
  | succ n ih =>
    intro hn
    obtain ⟨j, h1, h2, e⟩ := ih (fun i hi => h i (by omega)) (by omega)
    have hv : vp_in (f n) 4 := ch_vp (n := 4) (by decide) (by have := (h n (by omega)).1; intro z; exact absurd (Int32.lt_of_le_of_lt this z) (by decide)) (by
      have := (h n (by omega)).2
      intro z
      exact absurd (Int32.le_trans z this) (by decide))
    obtain ⟨a, ha, ea⟩ := vp_in_of hv (by decide)
    have h0 : 1 ≤ a := by
      have := (h n (by omega)).1
      rw [ea] at this
      obtain rfl | h0 : a = 0 ∨ 1 ≤ a := by omega
      · exact absurd this (by decide)
      · exact h0
    refine ⟨j + a, by omega, by omega, ?_⟩
    show ch_ps f n + f n = _
    rw [e, ea, ← nI_add]
    grind
theorem m_ps1 (f : Nat → Int32) (n : Nat) (h : ∀ i, i < n + 1 → 1 ≤ f i ∧ f i ≤ 3) (hn : n < 12) : ∃ j, n ≤ j ∧ j ≤ 3 * n + 2 ∧ ch_ps f (n + 1) = nI j := by
  obtain ⟨j, h1, h2, e⟩ := m_ps f (n + 1) h (by omega)
  obtain ⟨i, rfl⟩ : ∃ i, j = i + 1 := ⟨j - 1, by omega⟩
  exact ⟨i, by omega, by omega, by rw [e, nI_pred]⟩
