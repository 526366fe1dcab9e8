/-! the reference's numbers and the yard that they tell -/
def m_rel (Y : ch_B) (N : Nat → Int32) : Prop :=
  (N 0 = Y 0 8 ∧ N 1 = Y 0 10 ∧ N 2 = Y 0 11 ∧ N 3 = Y 0 12 ∧ N 4 = Y 0 13 ∧ N 5 = Y 0 14 ∧ N 6 = Y 0 15 ∧ N 7 = Y 0 16 ∧ N 8 = Y 0 9) ∧
  (∀ k, k < 5 → k < (Y 0 9).toNatClampNeg → N (9 + k) = Y 8 k) ∧
  (∀ k, k < 12 → N (14 + 2 * k) = Y 1 k + 1 ∧ N (15 + 2 * k) = Y 2 k) ∧
  (∀ c, c < 5 → N (38 + 5 * c + 0) = Y 3 c ∧ N (38 + 5 * c + 1) = Y 4 c ∧ N (38 + 5 * c + 2) = Y 5 c ∧ N (38 + 5 * c + 3) = Y 6 c ∧ N (38 + 5 * c + 4) = Y 7 c)
theorem m_co {Y : ch_B} {N : Nat → Int32} (h : m_rel Y N) : N 0 = Y 0 8 := h.1.1
theorem m_st {Y : ch_B} {N : Nat → Int32} (h : m_rel Y N) : N 8 = Y 0 9 := h.1.2.2.2.2.2.2.2.2
theorem m_ow {Y : ch_B} {N : Nat → Int32} (h : m_rel Y N) {k : Nat} (hk : k < 12) : N (14 + 2 * k) - 1 = Y 1 k := by
  rw [(h.2.2.1 k hk).1]
  grind
theorem m_ck {Y : ch_B} {N : Nat → Int32} (h : m_rel Y N) {k : Nat} (hk : k < 12) : N (15 + 2 * k) = Y 2 k := (h.2.2.1 k hk).2
theorem m_pe {Y : ch_B} {N : Nat → Int32} (h : m_rel Y N) {c : Nat} (hc : c < 5) : N (38 + 5 * c + 0) = Y 3 c := (h.2.2.2 c hc).1
theorem m_tr {Y : ch_B} {N : Nat → Int32} (h : m_rel Y N) {c : Nat} (hc : c < 5) : N (38 + 5 * c + 1) = Y 4 c := (h.2.2.2 c hc).2.1
theorem m_wa {Y : ch_B} {N : Nat → Int32} (h : m_rel Y N) {c : Nat} (hc : c < 5) : N (38 + 5 * c + 2) = Y 5 c := (h.2.2.2 c hc).2.2.1
theorem m_ho {Y : ch_B} {N : Nat → Int32} (h : m_rel Y N) {c : Nat} (hc : c < 5) : N (38 + 5 * c + 3) = Y 6 c := (h.2.2.2 c hc).2.2.2.1
theorem m_un {Y : ch_B} {N : Nat → Int32} (h : m_rel Y N) {c : Nat} (hc : c < 5) : N (38 + 5 * c + 4) = Y 7 c := (h.2.2.2 c hc).2.2.2.2
theorem m_tn (h : Int32.toNatClampNeg 2 = 2 := by decide) : Int32.toNatClampNeg 2 = 2 := h
/-- how many are from 1 to r -/
def m_ci (f : Nat → Int32) (r : Int32) : Nat → Int32
  | 0 => 0
  | n + 1 => if 1 ≤ f n ∧ f n ≤ r then m_ci f r n + 1 else m_ci f r n
theorem ch_cnO_nn (o : Nat → Int32) (c : Int32) (n : Nat) : ∃ k, k ≤ n ∧ ch_cnO o c n = nI k := by
  induction n with
  | zero => exact ⟨0, Nat.le_refl _, rfl⟩
  | succ n ih =>
    obtain ⟨k, hk, e⟩ := ih
    unfold ch_cnO
    split
    · exact ⟨k + 1, by omega, by rw [e, nI_1]⟩
    · exact ⟨k, by omega, e⟩
theorem y_ofS_0 (o : Nat → Int32) (c : Int32) (n : Nat) (hn : n < 100) : y_ofS o c 0 (n + 1) = if o n = c then y_ofS o c 0 n ||| (1 <<< (nI n &&& 31)) else y_ofS o c 0 n := by
  obtain ⟨k, hk, e⟩ := ch_cnO_nn o c n
  rw [y_ofS, e, if_neg (nI_pos (by omega))]
theorem ch_wr_v (m : ch_M) (a : ch_Ad) (k : Nat) (x : Int32) : ch_wr m a k x a k = x := by rw [ch_wr_at, if_pos rfl]
theorem ch_wr_k {m : ch_M} {a : ch_Ad} {k i : Nat} {x : Int32} (h : i ≠ k) : ch_wr m a k x a i = m a i := by rw [ch_wr_at, if_neg h]
theorem ch_wr_wr (m : ch_M) (a : ch_Ad) (k : Nat) (x y : Int32) : ch_wr (ch_wr m a k x) a k y = ch_wr m a k y := by
  funext b i
  unfold ch_wr
  by_cases h : b = a ∧ i = k
  · rw [if_pos h, if_pos h]
  · rw [if_neg h, if_neg h, if_neg h]
theorem ch_0l {x : Int32} (h : vp_in x 12) : (0 ≤ x ∧ x ≤ 11) := by
  obtain ⟨k, hk, rfl⟩ := vp_in_of h (by decide)
  exact ⟨nI_pos' (by omega), nI_le (b := 11) (by omega) (by decide)⟩
theorem ch_11 {x : Int32} (h : 0 ≤ x ∧ x ≤ 11) : vp_in x 12 := ch_vp (n := 12) (by decide) (by have := h.1; grind) (by
  have h1 := h.2
  show ¬ (12 : Int32) ≤ x
  have e : (11 : Int32) < 12 := by decide
  grind)
