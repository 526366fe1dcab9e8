/-! the mean chalk and the owned share are numbers -/
theorem y_fl64a : ∀ s : Fin 109, ∀ n : Fin 12, (FP.ddiv (FP.i2d (nI s.1)) (FP.i2d (nI (n.1 + 1)))) &&& 0x7fffffffffffffff ≤ 0x7ff0000000000000 := by decide +kernel
theorem y_fl32a : ∀ n : Fin 13, (FP.fdiv (FP.i2f (nI n.1)) 1094713344) &&& 0x7fffffff ≤ 0x7f800000 := by decide +kernel
theorem y_fl64 {s n : Nat} (hs : s < 109) (h0 : 0 < n) (hn : n < 13) : vf_n64 (FP.ddiv (FP.i2d (nI s)) (FP.i2d (nI n))) := by
  have := y_fl64a ⟨s, hs⟩ ⟨n - 1, by omega⟩
  dsimp only at this
  rw [show n - 1 + 1 = n by omega] at this
  exact this
theorem y_fl32 {n : Nat} (hn : n < 13) : vf_n32 (FP.fdiv (FP.i2f (nI n)) 1094713344) := y_fl32a ⟨n, hn⟩
theorem y_sum_le {f : Nat → Int32} {b : Nat} (hb0 : b + 1 < 2 ^ 31) (n : Nat) (hb : n * b < 2 ^ 31) (h : ∀ k, k < n → vp_in (f k) (b + 1)) : ∃ s, s ≤ n * b ∧ y_sum f n = nI s := by
  induction n with
  | zero => exact ⟨0, Nat.zero_le _, rfl⟩
  | succ n ih =>
    have e : (n + 1) * b = n * b + b := Nat.succ_mul n b
    obtain ⟨s, h1, h2⟩ := ih (by omega) (fun k hk => h k (by omega))
    have hv := h n (by omega)
    obtain ⟨x, hx, ex⟩ := vp_in_of hv hb0
    refine ⟨s + x, by omega, ?_⟩
    rw [y_sum, h2, ex, nI_add]
def y_fls (Y : ch_B) : Prop := 12 - ch_cnO (Y 1) (-1) 12 = 0 ∨ vf_n64 (FP.ddiv (FP.i2d (y_sum (Y 2) 12)) (FP.i2d (12 - ch_cnO (Y 1) (-1) 12)))
def y_flo (Y : ch_B) : Prop := vf_n32 (FP.fdiv (FP.i2f (12 - ch_cnO (Y 1) (-1) 12)) 1094713344)
theorem y_fl_cn (Y : ch_B) : ∃ n, n < 13 ∧ 12 - ch_cnO (Y 1) (-1) 12 = nI n := by
  obtain ⟨k, hk, e⟩ := ch_cnO_nn (Y 1) (-1) 12
  refine ⟨12 - k, by omega, ?_⟩
  rw [e]
  have : nI (12 - k) + nI k = nI 12 := by rw [nI_add, Nat.sub_add_cancel hk]
  have h2 : (12 : Int32) = nI 12 := rfl
  rw [h2, ← this]
  grind
theorem y_flo_inv (Y : ch_B) : y_flo Y := by
  obtain ⟨n, hn, e⟩ := y_fl_cn Y
  unfold y_flo
  rw [e]
  exact y_fl32 hn
theorem y_fls_inv {T : Nat} {Y : ch_B} (h : y_inv T Y) : y_fls Y := by
  obtain ⟨n, hn, e⟩ := y_fl_cn Y
  obtain ⟨s, hs, es⟩ := y_sum_le (f := Y 2) (b := 9) (by decide) 12 (by decide) (fun k hk => (h.2.1 k hk).1)
  unfold y_fls
  rw [e, es]
  by_cases h0 : n = 0
  · exact Or.inl (by rw [h0]; rfl)
  · exact Or.inr (y_fl64 (by omega) (by omega) hn)
