theorem ch_wr_v (m : ch_M) (a : ch_Ad) (k : Nat) (x : Int32) : ch_wr m a k x a k = x := by rw [ch_wr_at, if_pos rfl]
theorem ch_wr_k {m : ch_M} {a : ch_Ad} {k i : Nat} {x : Int32} (h : i ≠ k) : ch_wr m a k x a i = m a i := by rw [ch_wr_at, if_neg h]
theorem ch_wr_wr (m : ch_M) (a : ch_Ad) (k : Nat) (x y : Int32) : ch_wr (ch_wr m a k x) a k y = ch_wr m a k y := by
  funext b i
  unfold ch_wr
  by_cases h : b = a ∧ i = k
  · rw [if_pos h, if_pos h]
  · rw [if_neg h, if_neg h, if_neg h]
theorem ch_0l {x : Int32} (h : vp_in x 12) : (0 ≤ x ∧ x ≤ 11) := by
  obtain ⟨k, hk, rfl⟩ := vp_in_of h (by decide)
  exact ⟨nI_pos' (by omega), nI_le (b := 11) (by omega) (by decide)⟩
theorem ch_os_p (m : ch_M) (ci j c : Nat) (B : ch_B) : ch_os m ci j B (ci, j, c) = B c := by
  funext k
  exact ch_os_at m ci j c k B
theorem ch_os_v {m : ch_M} {a j b i c k : Nat} {B : ch_B} (h : ¬ (b = a ∧ i = j)) : ch_os m a j B (b, i, c) k = m (b, i, c) k := congrFun (ch_os_ne (fun z => h z)) k
theorem lw_nar (p : Int32) : narrow .char (.int (vp_nar .char p)) = .int (vp_nar .char p) := by
  unfold vp_nar
  simp only [narrow]
  congr 1
  have e : p.toUInt32 % 65536 % 65536 = p.toUInt32 % 65536 := by
    apply UInt32.toNat_inj.mp
    rw [UInt32.toNat_mod, UInt32.toNat_mod]
    exact Nat.mod_mod _ _
  simp [e]
theorem lw_put {X : ch_B} (p : Int32) (h : ∀ i, i < 60 → narrow .char (.int (X 1 i)) = .int (X 1 i)) : ∀ i, i < 60 → narrow .char (.int (t_putB X p 1 i)) = .int (t_putB X p 1 i) := by
  intro i hi
  unfold t_putB
  split
  · exact h i hi
  · rw [ch_bw_c (by decide)]
    by_cases e : i = (X 0 1).toNatClampNeg
    · rw [e, ch_bw_at]
      exact lw_nar p
    · rw [ch_bw_k e]
      exact h i hi
theorem lw_bB {X : ch_B} (h : ∀ i, i < 60 → narrow .char (.int (X 1 i)) = .int (X 1 i)) : ∀ i, i < 60 → narrow .char (.int (x_bB X 1 i)) = .int (x_bB X 1 i) := by
  unfold x_bB
  split
  · exact h
  · exact lw_put _ h
theorem lw_pB {X : ch_B} (a b c : Int32) (h : ∀ i, i < 60 → narrow .char (.int (X 1 i)) = .int (X 1 i)) : ∀ i, i < 60 → narrow .char (.int (x_pB X a b c 1 i)) = .int (x_pB X a b c 1 i) := by
  unfold x_pB
  exact lw_put _ (lw_put _ (lw_put _ h))
theorem lw_lnn {Y X : ch_B} (h : ∀ i, i < 60 → narrow .char (.int (X 1 i)) = .int (X 1 i)) (n : Nat) : ∀ i, i < 60 → narrow .char (.int (x_ln Y X n 1 i)) = .int (x_ln Y X n 1 i) := by
  induction n with
  | zero =>
    intro i hi
    rw [x_ln, ch_bw_c (by decide)]
    exact h i hi
  | succ n ih =>
    rw [x_ln]
    split
    · exact lw_put _ (lw_bB ih)
    · exact lw_pB _ _ _ (lw_bB ih)
theorem lw_wnn {Y X : ch_B} (h : ∀ i, i < 60 → narrow .char (.int (X 1 i)) = .int (X 1 i)) (n : Nat) : ∀ i, i < 60 → narrow .char (.int (x_wn Y X n 1 i)) = .int (x_wn Y X n 1 i) := by
  induction n with
  | zero =>
    intro i hi
    rw [x_wn, ch_bw_c (by decide)]
    exact h i hi
  | succ n ih => exact lw_pB _ _ _ (lw_bB ih)
theorem arrV_cong {cA : ClassId} {n : Nat} {f f' : Nat → Value} (h : ∀ k, k < n → f k = f' k) : arrV cA n f = arrV cA n f' := by
  unfold arrV
  congr 1
  first
    | (apply Array.ext
       · simp
       · intro i h1 h2
         simp at h1
         simp [h i h1])
