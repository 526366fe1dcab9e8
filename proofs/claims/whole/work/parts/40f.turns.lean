theorem y_fl64c : ∀ s : Fin 109, ∀ n : Fin 12, Op.cmpValue (FP.dcmp (FP.ddiv (FP.i2d (nI s.1)) (FP.i2d (nI (n.1 + 1)))) (FP.ddiv (FP.i2d (nI s.1)) (FP.i2d (nI (n.1 + 1))))) .l = 0 := by decide +kernel
theorem y_fl32c : ∀ n : Fin 13, (FP.f2d (FP.fdiv (FP.i2f (nI n.1)) 1094713344)) &&& 0x7fffffffffffffff ≤ 0x7ff0000000000000 ∧ Op.cmpValue (FP.dcmp (FP.f2d (FP.fdiv (FP.i2f (nI n.1)) 1094713344)) (FP.f2d (FP.fdiv (FP.i2f (nI n.1)) 1094713344))) .l = 0 := by decide +kernel
theorem y_fls_eq {T : Nat} {Y : ch_B} (h : y_inv T Y) (h0 : ¬ 12 - ch_cnO (Y 1) (-1) 12 = 0) : Op.cmpValue (FP.dcmp (FP.ddiv (FP.i2d (y_sum (Y 2) 12)) (FP.i2d (12 - ch_cnO (Y 1) (-1) 12))) (FP.ddiv (FP.i2d (y_sum (Y 2) 12)) (FP.i2d (12 - ch_cnO (Y 1) (-1) 12)))) .l = 0 := by
  obtain ⟨n, hn, e⟩ := y_fl_cn Y
  obtain ⟨s, hs, es⟩ := y_sum_le (f := Y 2) (b := 9) (by decide) 12 (by decide) (fun k hk => (h.2.1 k hk).1)
  rw [e] at h0 ⊢
  rw [es]
  have hn0 : n ≠ 0 := fun z => h0 (by rw [z]; rfl)
  have := y_fl64c ⟨s, by omega⟩ ⟨n - 1, by omega⟩
  dsimp only at this
  rw [show n - 1 + 1 = n by omega] at this
  exact this
theorem y_flo_eq (Y : ch_B) : vf_n64 (FP.f2d (FP.fdiv (FP.i2f (12 - ch_cnO (Y 1) (-1) 12)) 1094713344)) ∧ Op.cmpValue (FP.dcmp (FP.f2d (FP.fdiv (FP.i2f (12 - ch_cnO (Y 1) (-1) 12)) 1094713344)) (FP.f2d (FP.fdiv (FP.i2f (12 - ch_cnO (Y 1) (-1) 12)) 1094713344))) .l = 0 := by
  obtain ⟨n, hn, e⟩ := y_fl_cn Y
  rw [e]
  exact y_fl32c ⟨n, hn⟩
theorem lw_inv_mk {T : Nat} {m' : ch_M} {Y Z : ch_B} {K : Nat → ch_B} {P R X W B : ch_B} {f fp s : Int32} (h : lw_I T Y Z K P R X W B f fp s) (e1 : ch_ob m' 1 0 = Y) (e2 : ch_ob m' 1 3 = Z) (e3 : ∀ k, ch_ob m' 1 (4 + k) = K k) (e4 : ch_ob m' 2 0 = P) (e5 : ch_ob m' 3 0 = R) (e6 : ch_ob m' 6 0 = X) (e7 : ch_ob m' 6 1 = W) (e8 : ch_ob m' 9 0 = B) (e9 : m' (0, 0, 0) 12 = f) (e10 : m' (0, 0, 0) 13 = fp) (e11 : m' (5, 0, 0) 1 = s) : lw_inv T m' := by
  have e3' : (fun k => ch_ob m' 1 (4 + k)) = K := funext e3
  unfold lw_inv
  rw [e1, e2, e3', e4, e5, e6, e7, e8, e9, e10, e11]
  exact h
theorem ch_os_v {m : ch_M} {a j b i c k : Nat} {B : ch_B} (h : ¬ (b = a ∧ i = j)) : ch_os m a j B (b, i, c) k = m (b, i, c) k := congrFun (ch_os_ne (fun z => h z)) k
theorem lw_I_undo {T : Nat} {Y Z : ch_B} {K : Nat → ch_B} {P R X W B : ch_B} {f fp s : Int32} (h : lw_I T Y Z K P R X W B f fp s) (h0 : ¬ P 0 2 = 0) : lw_I T (y_cp (K (P 0 1).toNatClampNeg) Y) Z K (p_gB P) R X W (m_unB B) f fp s := by
  obtain ⟨⟨h1, h2⟩, ⟨r1, r2, r3⟩, h4, ⟨x1, x2, x3⟩, ⟨w1, w2, w3, w4⟩, ⟨v1, v2⟩, ⟨n, c, p1, p2, p3, p4, p5, p6⟩, h9⟩ := h
  have hc : c ≠ 0 := fun z => h0 (by rw [p4, z]; rfl)
  have o : ∀ a i, a ≠ 1 → ¬ (a = 0 ∧ (i = 19 ∨ i = 4)) → m_unB B a i = B a i := fun a i h1 h2 => by
    unfold m_unB m_unK
    rw [if_neg (by omega), if_neg (by omega), if_neg (by omega)]
  have oc : nI c - 1 = nI (c - 1) := by
    obtain ⟨d, rfl⟩ : ∃ d, c = d + 1 := ⟨c - 1, by omega⟩
    exact nI_pred d
  have e1 : ∀ i, i < 63 → m_unB B 1 i = B 4 (63 * (c - 1) + i) := fun i hi => by
    unfold m_unB m_unK
    rw [if_neg (by omega), if_neg (by omega), if_pos ⟨rfl, hi⟩, p5, oc, nI_clamp (by omega)]
  have en : lw_rg n c (c - 1) = n := by unfold lw_rg; omega
  obtain ⟨q1, q2⟩ := p6 (c - 1) (by omega)
  rw [en] at q1 q2
  have cn : (P 0 1).toNatClampNeg = n := by rw [p3, nI_clamp (by omega)]
  rw [cn]
  refine ⟨⟨y_inv_cp _ q1, m_rel_cong (m_rel_cp _ q1 q2) e1⟩, ⟨?_, ?_, ?_⟩, ?_, ⟨x1, ?_, fun k hk => ?_⟩, ⟨w1, ?_, fun i hi => ?_, w4⟩, ⟨?_, fun z => ⟨(v2 z).1, m_rel_cong (v2 z).2 (fun i _ => o 5 i (by decide) (by omega))⟩⟩, ⟨(n + 7) % 8, c - 1, Nat.mod_lt _ (by decide), by omega, ?_, ?_, ?_, fun k hk => ?_⟩, h9⟩
  · rw [o 0 15 (by omega) (by omega)]; exact r1
  · rw [o 0 16 (by omega) (by omega)]; exact r2
  · rw [o 0 17 (by omega) (by omega)]; exact r3
  · rw [o 0 14 (by omega) (by omega)]; exact h4
  · rw [o 0 10 (by omega) (by omega)]; exact x2
  · rw [o 7 k (by omega) (by omega)]; exact x3 k hk
  · rw [o 0 8 (by omega) (by omega)]; exact w2
  · rw [o 6 i (by omega) (by omega)]; exact w3 i hi
  · rw [o 0 6 (by omega) (by omega)]; exact v1
  · unfold p_gB
    rw [ch_bw_k (by decide), ch_bw_at, p3]
    by_cases z : n = 0
    · subst z
      decide
    · rw [if_neg (nI_nle (by omega) (by omega)), show (n + 7) % 8 = n - 1 by omega]
      obtain ⟨d, rfl⟩ : ∃ d, n = d + 1 := ⟨n - 1, by omega⟩
      exact nI_pred d
  · unfold p_gB
    rw [ch_bw_at, p4]
    exact oc
  · unfold m_unB m_unK
    rw [if_neg (by omega), if_pos ⟨rfl, rfl⟩, p5]
    exact oc
  · have e : lw_rg ((n + 7) % 8) (c - 1) k = lw_rg n c k := by unfold lw_rg; omega
    rw [e]
    exact ⟨(p6 k (by omega)).1, m_rel_cong (p6 k (by omega)).2 (fun i _ => o 4 _ (by decide) (by omega))⟩
theorem lw_I_save {T : Nat} {Y Z : ch_B} {K : Nat → ch_B} {P R X W B : ch_B} {f fp s : Int32} (h : lw_I T Y Z K P R X W B f fp s) : lw_I T Y (y_cp Y Z) K P R X W (m_svB B) 1 fp s := by
  obtain ⟨⟨h1, h2⟩, ⟨r1, r2, r3⟩, h4, ⟨x1, x2, x3⟩, ⟨w1, w2, w3, w4⟩, ⟨v1, v2⟩, ⟨n, c, p1, p2, p3, p4, p5, p6⟩, h9⟩ := h
  have o : ∀ a i, a ≠ 5 → ¬ (a = 0 ∧ (i = 19 ∨ i = 6)) → m_svB B a i = B a i := fun a i h1 h2 => by
    unfold m_svB m_svK
    rw [if_neg (by omega), if_neg (by omega), if_neg (by omega)]
  have e5 : ∀ i, i < 63 → m_svB B 5 i = B 1 i := fun i hi => by
    unfold m_svB m_svK
    rw [if_neg (by omega), if_neg (by omega), if_pos ⟨rfl, hi⟩]
  refine ⟨⟨h1, m_rel_cong h2 (fun i _ => o 1 i (by omega) (by omega))⟩, ⟨?_, ?_, ?_⟩, ?_, ⟨x1, ?_, fun k hk => ?_⟩, ⟨w1, ?_, fun i hi => ?_, w4⟩, ⟨?_, fun z => ⟨y_inv_cp _ h1, m_rel_cong (m_rel_cp _ h1 h2) e5⟩⟩, ⟨n, c, p1, p2, p3, p4, ?_, fun k hk => ⟨(p6 k hk).1, m_rel_cong (p6 k hk).2 (fun i _ => o 4 _ (by decide) (by omega))⟩⟩, h9⟩
  · rw [o 0 15 (by omega) (by omega)]; exact r1
  · rw [o 0 16 (by omega) (by omega)]; exact r2
  · rw [o 0 17 (by omega) (by omega)]; exact r3
  · rw [o 0 14 (by omega) (by omega)]; exact h4
  · rw [o 0 10 (by omega) (by omega)]; exact x2
  · rw [o 7 k (by omega) (by omega)]; exact x3 k hk
  · rw [o 0 8 (by omega) (by omega)]; exact w2
  · rw [o 6 i (by omega) (by omega)]; exact w3 i hi
  · unfold m_svB m_svK
    rw [if_neg (by omega), if_pos ⟨rfl, rfl⟩]
  · rw [o 0 4 (by omega) (by omega)]; exact p5
theorem lw_I_rest {T : Nat} {Y Z : ch_B} {K : Nat → ch_B} {P R X W B : ch_B} {f fp s : Int32} (h : lw_I T Y Z K P R X W B f fp s) (h0 : ¬ f = 0) : lw_I T (y_cp Z Y) Z K (ch_bw P 0 2 0) R X W (m_rsB B) f fp s := by
  obtain ⟨⟨h1, h2⟩, ⟨r1, r2, r3⟩, h4, ⟨x1, x2, x3⟩, ⟨w1, w2, w3, w4⟩, ⟨v1, v2⟩, ⟨n, c, p1, p2, p3, p4, p5, p6⟩, h9⟩ := h
  have o : ∀ a i, a ≠ 1 → ¬ (a = 0 ∧ (i = 19 ∨ i = 4)) → m_rsB B a i = B a i := fun a i h1 h2 => by
    unfold m_rsB
    rw [show ch_bw (m_rsK B 63) 0 4 0 a i = m_rsK B 63 a i from if_neg (by omega)]
    unfold m_rsK
    rw [if_neg (by omega), if_neg (by omega)]
  have e1 : ∀ i, i < 63 → m_rsB B 1 i = B 5 i := fun i hi => by
    unfold m_rsB
    rw [ch_bw_c (by decide)]
    unfold m_rsK
    rw [if_neg (by omega), if_pos ⟨rfl, hi⟩]
  obtain ⟨q1, q2⟩ := v2 h0
  refine ⟨⟨y_inv_cp _ q1, m_rel_cong (m_rel_cp _ q1 q2) e1⟩, ⟨?_, ?_, ?_⟩, ?_, ⟨x1, ?_, fun k hk => ?_⟩, ⟨w1, ?_, fun i hi => ?_, w4⟩, ⟨?_, fun z => ⟨q1, m_rel_cong q2 (fun i _ => o 5 i (by decide) (by omega))⟩⟩, ⟨n, 0, p1, by omega, ?_, ?_, ?_, fun k hk => absurd hk (by omega)⟩, h9⟩
  · rw [o 0 15 (by omega) (by omega)]; exact r1
  · rw [o 0 16 (by omega) (by omega)]; exact r2
  · rw [o 0 17 (by omega) (by omega)]; exact r3
  · rw [o 0 14 (by omega) (by omega)]; exact h4
  · rw [o 0 10 (by omega) (by omega)]; exact x2
  · rw [o 7 k (by omega) (by omega)]; exact x3 k hk
  · rw [o 0 8 (by omega) (by omega)]; exact w2
  · rw [o 6 i (by omega) (by omega)]; exact w3 i hi
  · rw [o 0 6 (by omega) (by omega)]; exact v1
  · rw [ch_bw_k (by decide)]; exact p3
  · exact ch_bw_at _ _ _ _
  · unfold m_rsB
    exact ch_bw_at _ _ _ _
theorem lw_h42 {T : Nat} {m : ch_M} (h : lw_inv T m) : m (9, 0, 0) 4 = m (2, 0, 0) 2 := by
  obtain ⟨-, -, -, -, -, -, ⟨n, c, p1, p2, p3, p4, p5, p6⟩, -⟩ := h
  exact p5.trans p4.symm
