def k_ch (x : Int32) : Int32 := (Int32.toUInt32 (x &&& 255) % 65536).toInt32
theorem k_nar (y : Int32) : narrow .char (.int ((Int32.toUInt32 y % 65536).toInt32)) = .int ((Int32.toUInt32 y % 65536).toInt32) := by
  have h := lg_i2c_nf y
  have h2 : narrow .char (.int y) = .int ((Int32.toUInt32 y % 65536).toInt32) := by
    rw [h]
    have := vp_nar_char y
    unfold vp_nar at this
    cases e : narrow .char (.int y) <;> rw [e] at this <;> first | (simp only at this; rw [this]) | skip
    all_goals (revert e; simp [narrow])
  have h3 := lg_i2c_nf ((Int32.toUInt32 y % 65536).toInt32)
  have h4 : ((Int32.toUInt32 y % 65536).toInt32.toUInt32 % 65536).toInt32 = (Int32.toUInt32 y % 65536).toInt32 := by
    congr 1
    simp
    apply UInt32.toNat_inj.mp
    simp
  have h5 := vp_nar_char ((Int32.toUInt32 y % 65536).toInt32)
  rw [← h3, h4] at h5
  unfold vp_nar at h5
  cases e : narrow .char (.int ((Int32.toUInt32 y % 65536).toInt32)) <;> rw [e] at h5 <;> first | (simp only at h5; rw [h5]) | skip
  all_goals (revert e; simp [narrow])
set_option maxHeartbeats 1600000 in
theorem s_k_charAt (g : ch_G) (q : Int32 → ch_M → Prop) (j : Nat) (p1 : Int32) (m : ch_M) (h : (vp_in p1 (ch_tn g j)) ∧ (ch_tn g j < 2 ^ 31) ∧ q (k_ch (ch_tb g j (Int32.toNatClampNeg p1))) m) : ch_C g m_k_charAt [.inr (13, j, 0), .inl (.int p1)] m (ch_oi q) := by
  refine e_k_charAt g _ j p1 m ?_
  refine g_k_charAt_0 g _ _ _ _ ?_
  obtain ⟨h1, h2, h3⟩ := h
  obtain ⟨k, hk, rfl⟩ := vp_in_of h1 h2
  exact ⟨nI_pos (by omega), nI_lt hk h2, h1, k_nar _, ch_oi_iff.mpr h3⟩
