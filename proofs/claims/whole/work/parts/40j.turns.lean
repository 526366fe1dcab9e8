theorem lw_I_bx {T : Nat} {Y Z : ch_B} {K : Nat → ch_B} {P R X X' W W' B B' : ch_B} {f fp s : Int32} (h : lw_I T Y Z K P R X W B f fp s) (e1 : ∀ i, i < 63 → B' 1 i = B 1 i) (e2 : ∀ a i, a = 4 ∨ a = 5 → B' a i = B a i) (e3 : ∀ i, i = 4 ∨ i = 6 ∨ i = 14 ∨ i = 15 ∨ i = 16 ∨ i = 17 → B' 0 i = B 0 i) (hX : m_txt X' B') (hW : lw_wr W' B') : lw_I T Y Z K P R X' W' B' f fp s := by
  obtain ⟨⟨h1, h2⟩, ⟨r1, r2, r3⟩, h4, -, -, ⟨v1, v2⟩, ⟨n, c, p1, p2, p3, p4, p5, p6⟩, h9⟩ := h
  refine ⟨⟨h1, m_rel_cong h2 e1⟩, ⟨?_, ?_, ?_⟩, ?_, hX, hW, ⟨?_, fun z => ⟨(v2 z).1, m_rel_cong (v2 z).2 (fun i _ => e2 5 i (by omega))⟩⟩, ⟨n, c, p1, p2, p3, p4, ?_, fun k hk => ⟨(p6 k hk).1, m_rel_cong (p6 k hk).2 (fun i _ => e2 4 _ (by omega))⟩⟩, h9⟩
  · rw [e3 15 (by omega)]; exact r1
  · rw [e3 16 (by omega)]; exact r2
  · rw [e3 17 (by omega)]; exact r3
  · rw [e3 14 (by omega)]; exact h4
  · rw [e3 6 (by omega)]; exact v1
  · rw [e3 4 (by omega)]; exact p5
theorem lw_nar (p : Int32) : narrow .char (.int (vp_nar .char p)) = .int (vp_nar .char p) := by
  unfold vp_nar
  simp only [narrow]
  congr 1
  have e : p.toUInt32 % 65536 % 65536 = p.toUInt32 % 65536 := by
    apply UInt32.toNat_inj.mp
    rw [UInt32.toNat_mod, UInt32.toNat_mod]
    exact Nat.mod_mod _ _
  simp [e]
theorem lw_put {X : ch_B} (p : Int32) (h : ∀ i, i < 60 → narrow .char (.int (X 1 i)) = .int (X 1 i)) : ∀ i, i < 60 → narrow .char (.int (t_putB X p 1 i)) = .int (t_putB X p 1 i) := by
  intro i hi
  unfold t_putB
  split
  · exact h i hi
  · rw [ch_bw_c (by decide)]
    by_cases e : i = (X 0 1).toNatClampNeg
    · rw [e, ch_bw_at]
      exact lw_nar p
    · rw [ch_bw_k e]
      exact h i hi
theorem lw_bB {X : ch_B} (h : ∀ i, i < 60 → narrow .char (.int (X 1 i)) = .int (X 1 i)) : ∀ i, i < 60 → narrow .char (.int (x_bB X 1 i)) = .int (x_bB X 1 i) := by
  unfold x_bB
  split
  · exact h
  · exact lw_put _ h
theorem lw_pB {X : ch_B} (a b c : Int32) (h : ∀ i, i < 60 → narrow .char (.int (X 1 i)) = .int (X 1 i)) : ∀ i, i < 60 → narrow .char (.int (x_pB X a b c 1 i)) = .int (x_pB X a b c 1 i) := by
  unfold x_pB
  exact lw_put _ (lw_put _ (lw_put _ h))
theorem lw_lnn {Y X : ch_B} (h : ∀ i, i < 60 → narrow .char (.int (X 1 i)) = .int (X 1 i)) (n : Nat) : ∀ i, i < 60 → narrow .char (.int (x_ln Y X n 1 i)) = .int (x_ln Y X n 1 i) := by
  induction n with
  | zero =>
    intro i hi
    rw [x_ln, ch_bw_c (by decide)]
    exact h i hi
  | succ n ih =>
    rw [x_ln]
    split
    · exact lw_put _ (lw_bB ih)
    · exact lw_pB _ _ _ (lw_bB ih)
theorem lw_wnn {Y X : ch_B} (h : ∀ i, i < 60 → narrow .char (.int (X 1 i)) = .int (X 1 i)) (n : Nat) : ∀ i, i < 60 → narrow .char (.int (x_wn Y X n 1 i)) = .int (x_wn Y X n 1 i) := by
  induction n with
  | zero =>
    intro i hi
    rw [x_wn, ch_bw_c (by decide)]
    exact h i hi
  | succ n ih => exact lw_pB _ _ _ (lw_bB ih)
/-- the written line anew -/
theorem lw_inv_wr {T : Nat} {m : ch_M} {W' B' : ch_B} (h : lw_inv T m) (f : ∀ a i, a ≠ 6 → ¬ (a = 0 ∧ (i = 8 ∨ i = 19)) → B' a i = ch_ob m 9 0 a i) (hv : vp_in (W' 0 1) 61) (e8 : B' 0 8 = W' 0 1) (e6 : ∀ k, k < (W' 0 1).toNatClampNeg → B' 6 k = W' 1 k) (hn : ∀ i, i < 60 → narrow .char (.int (W' 1 i)) = .int (W' 1 i)) : lw_inv T (ch_os (ch_os m 6 1 W') 9 0 B') := by
  obtain ⟨x1, x2, x3⟩ := h.2.2.2.1
  refine lw_inv_mk (lw_I_bx (X' := ch_ob m 6 0) (W' := W') (B' := B') h (fun i _ => f 1 i (by decide) (by omega)) (fun a i ha => f a i (by omega) (by omega)) (fun i hi => f 0 i (by decide) (by omega)) ⟨x1, ?_, fun k hk => ?_⟩ ⟨hv, e8.symm, e6, hn⟩) ?_ ?_ (fun i => ?_) ?_ ?_ ?_ ?_ ?_ ?_ ?_ ?_
  · rw [f 0 10 (by decide) (by omega)]; exact x2
  · rw [f 7 k (by decide) (by omega)]; exact x3 k hk
  · rw [ch_ob_ne (show ¬ (1 = 9 ∧ 0 = 0) by omega), ch_ob_ne (by omega)]
  · rw [ch_ob_ne (show ¬ (1 = 9 ∧ 3 = 0) by omega), ch_ob_ne (by omega)]
  · rw [ch_ob_ne (show ¬ (1 = 9 ∧ 4 + i = 0) by omega), ch_ob_ne (by omega)]
  · rw [ch_ob_ne (show ¬ (2 = 9 ∧ 0 = 0) by omega), ch_ob_ne (by omega)]
  · rw [ch_ob_ne (show ¬ (3 = 9 ∧ 0 = 0) by omega), ch_ob_ne (by omega)]
  · rw [ch_ob_ne (show ¬ (6 = 9 ∧ 0 = 0) by omega), ch_ob_ne (by omega)]
  · rw [ch_ob_ne (show ¬ (6 = 9 ∧ 1 = 0) by omega), ch_ob_os]
  · rw [ch_ob_os]
  · rw [ch_os_v (by omega), ch_os_v (by omega)]
  · rw [ch_os_v (by omega), ch_os_v (by omega)]
  · rw [ch_os_v (by omega), ch_os_v (by omega)]
