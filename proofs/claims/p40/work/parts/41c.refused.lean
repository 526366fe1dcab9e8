theorem y_rl5 {c k : Nat} (hc : 3 ≤ c) (hc8 : c ≤ 8) (hk : k < 5) : ch_rl (1, 0, c) k = true := y_rl.mpr (Or.inr (Or.inr ⟨hc, hc8, hk⟩))
theorem y_rl12 {c k : Nat} (hc : c = 1 ∨ c = 2) (hk : k < 12) : ch_rl (1, 0, c) k = true := y_rl.mpr (Or.inr (Or.inl ⟨hc, hk⟩))
section REF
variable {Z : ch_B} {n : Nat}
theorem rr_N (h8 : Z 0 8 = nI n) : ¬ ((0 : Int32) ≤ nI n ∧ nI n < Z 0 8) := fun z => by
  rw [h8] at z
  exact Int32.lt_irrefl z.2
theorem rr_M (Z : ch_B) : ¬ ((0 : Int32) ≤ -1 ∧ -1 < Z 0 8) := fun z => absurd z.1 (by decide)
theorem rr_0 (h8 : Z 0 8 = nI n) (h2 : 2 ≤ n) (hn : n < 6) : (0 : Int32) ≤ 0 ∧ 0 < Z 0 8 := l_nI_in (a := 0) (by omega) (by omega) h8
theorem rr_1 (h8 : Z 0 8 = nI n) (h2 : 2 ≤ n) (hn : n < 6) : (0 : Int32) ≤ 1 ∧ 1 < Z 0 8 := l_nI_in (a := 1) (by omega) (by omega) h8
theorem rr_wn1 (Z : ch_B) : r_wn Z (-1) = (1, 0) := if_neg (by decide)
theorem rr_wn100 (Z : ch_B) : r_wn Z 100 = (1, 0) := if_neg (by decide)
theorem rr_wn5 (h8 : Z 0 8 = 5) : r_wn Z 1 = (2, 5) := by
  unfold r_wn
  rw [if_pos (by decide), h8, if_neg (by decide)]
theorem rr_wcN (h8 : Z 0 8 = nI n) (p : Int32) : r_wc Z (nI n) p = (3, nI n) := by
  unfold r_wc
  rw [if_neg (rr_N h8), h8]
theorem rr_wcM (h8 : Z 0 8 = nI n) (p : Int32) : r_wc Z (-1) p = (3, nI n) := by
  unfold r_wc
  rw [if_neg (rr_M Z), h8]
theorem rr_wc0 (h8 : Z 0 8 = nI n) (h2 : 2 ≤ n) (hn : n < 6) {p : Int32} (hp : ¬ (0 ≤ p ∧ p ≤ 11)) : r_wc Z 0 p = (1, 0) := by
  unfold r_wc
  rw [if_pos (rr_0 h8 h2 hn), if_neg hp]
theorem rr_hxN (h8 : Z 0 8 = nI n) (p : Int32) : r_hx Z (nI n) p = (3, nI n) := by
  unfold r_hx
  rw [if_neg (rr_N h8), h8]
theorem rr_wwN (h8 : Z 0 8 = nI n) : r_ww Z (nI n) = (3, nI n) := by
  unfold r_ww
  rw [if_neg (rr_N h8), h8]
theorem rr_wsN (h8 : Z 0 8 = nI n) : r_ws Z (nI n) = (3, nI n) := by
  unfold r_ws
  rw [if_neg (rr_N h8), h8]
theorem rr_wr0 (Z : ch_B) : r_wr Z 0 = (1, 0) := if_neg (by decide)
theorem rr_wr10 (Z : ch_B) : r_wr Z 10 = (1, 0) := if_neg (by decide)
theorem rr_wgN (h8 : Z 0 8 = nI n) (d p : Int32) : r_wg Z (nI n) d p = (3, nI n) := by
  unfold r_wg
  rw [if_neg (rr_N h8), h8]
theorem rr_wg0M (h8 : Z 0 8 = nI n) (h2 : 2 ≤ n) (hn : n < 6) (p : Int32) : r_wg Z 0 (-1) p = (3, nI n) := by
  unfold r_wg
  rw [if_pos (rr_0 h8 h2 hn), if_neg (rr_M Z), h8]
theorem rr_wg11 (h8 : Z 0 8 = nI n) (h2 : 2 ≤ n) (hn : n < 6) (p : Int32) : r_wg Z 1 1 p = (11, 1) := by
  unfold r_wg
  rw [if_pos (rr_1 h8 h2 hn), if_pos (rr_1 h8 h2 hn), if_pos rfl]
theorem rr_wg01 (h8 : Z 0 8 = nI n) (h2 : 2 ≤ n) (hn : n < 6) {p : Int32} (hp : ¬ (1 ≤ p ∧ p ≤ 99)) : r_wg Z 0 1 p = (1, 0) := by
  unfold r_wg
  rw [if_pos (rr_0 h8 h2 hn), if_pos (rr_1 h8 h2 hn), if_neg (by decide), if_neg hp]
variable {c : Nat}
theorem rr_hx7 (h8 : Z 0 8 = nI n) (hn : n < 6) (hc : c < n) (p : Int32) {w : Int32} (e : Z 5 c = w) (hw : ¬ w ≤ 0) : r_hx Z (nI c) p = (7, w) := by
  unfold r_hx
  rw [if_pos (l_nI_in hc (by omega) h8), nI_clamp (by omega), e, if_neg hw]
theorem rr_ww7 (h8 : Z 0 8 = nI n) (hn : n < 6) (hc : c < n) {w : Int32} (e : Z 5 c = w) (hw : ¬ w ≤ 0) : r_ww Z (nI c) = (7, w) := by
  unfold r_ww
  rw [if_pos (l_nI_in hc (by omega) h8), nI_clamp (by omega), e, if_neg hw]
theorem rr_ws5 (h8 : Z 0 8 = nI n) (hn : n < 6) (hc : c < n) {w p : Int32} (e : Z 5 c = w) (e3 : Z 3 c = p) (hw : ¬ w = 0) (hp : ¬ w ≤ p) : r_ws Z (nI c) = (5, w - p) := by
  unfold r_ws
  rw [if_pos (l_nI_in hc (by omega) h8), nI_clamp (by omega), e, e3, if_neg hw, if_neg hp]
theorem rr_ws10 (h8 : Z 0 8 = nI n) (hn : n < 6) (hc : c < n) (e : Z 5 c = 0) : r_ws Z (nI c) = (10, 0) := by
  unfold r_ws
  rw [if_pos (l_nI_in hc (by omega) h8), nI_clamp (by omega), e, if_pos rfl]
theorem rr_hx0 (h8 : Z 0 8 = nI n) (hn : n < 6) (hc : c < n) (e : Z 5 c = 0) : r_hx Z (nI c) 0 = (1, 0) := by
  unfold r_hx
  rw [if_pos (l_nI_in hc (by omega) h8), nI_clamp (by omega), e, if_pos (by decide), if_pos (by decide +kernel)]
theorem rr_hx1 (h8 : Z 0 8 = nI n) (hn : n < 6) (hc : c < n) (e : Z 5 c = 0) : r_hx Z (nI c) 1 = (8, 0) := by
  unfold r_hx
  rw [if_pos (l_nI_in hc (by omega) h8), nI_clamp (by omega), e, if_pos (by decide), if_neg (by decide +kernel), if_neg (by decide +kernel), show l_hm 1 = 0 by decide +kernel]
theorem rr_hx3 (h8 : Z 0 8 = nI n) (hn : n < 6) (hc : c < n) (e : Z 5 c = 0) : r_hx Z (nI c) 33331 = (8, 12) := by
  unfold r_hx
  rw [if_pos (l_nI_in hc (by omega) h8), nI_clamp (by omega), e, if_pos (by decide), if_neg (by decide +kernel), if_neg (by decide +kernel), show l_hm 33331 = 12 by decide +kernel]
theorem rr_ww9 (h8 : Z 0 8 = nI n) (hn : n < 6) (hc : c < n) (e : Z 5 c = 0) {t : Int32} (e4 : Z 4 c = t) (ht : ¬ 3 ≤ t) : r_ww Z (nI c) = (9, t) := by
  unfold r_ww
  rw [if_pos (l_nI_in hc (by omega) h8), nI_clamp (by omega), e, if_pos (by decide), e4, if_neg ht]
theorem rr_nx : ∀ n : Fin 6, ∀ a : Fin 6, a < n → nI a.val + 1 - (nI a.val + 1) / nI n.val * nI n.val = nI ((a.val + 1) % n.val) := by decide +kernel
theorem rr_nx' (h2 : 2 ≤ n) (hn : n < 6) (hc : c < n) : ∃ d, d < n ∧ d ≠ c ∧ nI c + 1 - (nI c + 1) / nI n * nI n = nI d := by
  refine ⟨(c + 1) % n, Nat.mod_lt _ (by omega), fun z => ?_, rr_nx ⟨n, hn⟩ ⟨c, by omega⟩ hc⟩
  by_cases e : c + 1 = n
  · rw [e, Nat.mod_self] at z
    omega
  · rw [Nat.mod_eq_of_lt (by omega)] at z
    omega
theorem rr_nn {a b : Nat} (ha : a < 2 ^ 31) (hb : b < 2 ^ 31) (h : a ≠ b) : ¬ nI a = nI b := fun z => h ((nI_eq ha hb).mp z)
theorem rr_wg99 (h8 : Z 0 8 = nI n) (hn : n < 6) (hc : c < n) {d : Nat} (hd : d < n) (hcd : d ≠ c) {p : Int32} (e3 : Z 3 c = p) (hp : ¬ 99 ≤ p) : r_wg Z (nI c) (nI d) 99 = (5, 99 - p) := by
  unfold r_wg
  rw [if_pos (l_nI_in hc (by omega) h8), if_pos (l_nI_in hd (by omega) h8), if_neg (rr_nn (by omega) (by omega) (Ne.symm hcd)), if_pos (by decide), nI_clamp (by omega), e3, if_neg hp]
theorem rr_wc4 (h8 : Z 0 8 = nI n) (hn : n < 6) {d i : Nat} (hd : d < n) (hc : c < n) (hi : i < 12) (hcd : d ≠ c) (e1 : Z 1 i = nI c) : r_wc Z (nI d) (nI i) = (4, nI c) := by
  unfold r_wc
  rw [if_pos (l_nI_in hd (by omega) h8), if_pos ⟨nI_pos' (by omega), nI_le (b := 11) (by omega) (by decide)⟩, nI_clamp (by omega), e1, if_neg (fun z => z.elim (fun w => absurd w (fun q => by
    have h0 : (0 : Int32) ≤ nI c := nI_pos' (by omega)
    rw [q] at h0
    exact absurd h0 (by decide))) (fun w => rr_nn (by omega) (by omega) (Ne.symm hcd) w))]
theorem rr_wc6 (h8 : Z 0 8 = nI n) (hn : n < 6) {i : Nat} (hc : c < n) (hi : i < 12) (e1 : Z 1 i = nI c) (e2 : Z 2 i = 9) : r_wc Z (nI c) (nI i) = (6, nI i) := by
  unfold r_wc
  rw [if_pos (l_nI_in hc (by omega) h8), if_pos ⟨nI_pos' (by omega), nI_le (b := 11) (by omega) (by decide)⟩, nI_clamp (by omega), e1, if_pos (Or.inr rfl), e2, if_neg (by decide)]
theorem rr_wr12 (e9 : Z 0 9 = 0) (e : ch_cnO (Z 1) (-1) 12 = 12) : r_wr Z 1 = (12, 0) := by
  unfold r_wr
  rw [if_pos (by decide), if_pos ⟨e9, e⟩]
end REF
abbrev l_fJ (g : ch_G) (q : Int32 → ch_M → Prop) (pc : Nat) (Y : ch_B) (n : Nat) (o4 o5 o6 : Option ch_V) (m : ch_M) (k : Nat) : Prop := ch_J g m_l_refused (ch_rm m_l_refused) (ch_E g m_l_refused (ch_oi q)) pc [some (.inr (0, 0, 0)), some (.inl (.long (a_V (y_can Y)))), none, some (.inl (.int (nI n))), o4, o5, o6] [] m k
abbrev l_o1 : Option ch_V := some (.inl (.int 1))
abbrev l_oI (x : Int32) : Option ch_V := some (.inl (.int x))
section REFUSED
variable {g : ch_G} {q : Int32 → ch_M → Prop} {A : a_G} {Y : ch_B} {n : Nat}
theorem l_f1247 (h8 : Y 0 8 = nI n) (h2 : 2 ≤ n) (hn : n < 6) (nx : ∀ m k x5 o6, a_W A Y (11, 1, 0) m → k ≤ 4018 → l_fJ g q 1326 Y n l_o1 (l_oI x5) o6 m k) (m : ch_M) (k : Nat) (x5 : Int32) (o6 : Option ch_V) (hW : a_W A Y (11, 1, 0) m) (hk : k ≤ 4009) : l_fJ g q 1247 Y n l_o1 (l_oI x5) o6 m k := by
  refine g_l_refused_1247 g _ k (by omega) _ _ _ _ m ?_
  refine ⟨A, Y, _, hW, by decide, fun M1 u1 m1 e1 => ?_⟩
  subst e1
  refine ⟨A, Y, _, u1, by decide, fun M2 u2 m2 e2 => ?_⟩
  subst e2
  refine ⟨A, Y, _, u2, by decide, fun M3 u3 m3 e3 => ?_⟩
  subst e3
  refine ⟨A, Y, _, u3, by decide, fun M4 u4 m4 e4 => ?_⟩
  subst e4
  refine ⟨A, Y, _, u4, by decide, fun M5 u5 m5 e5 => ?_⟩
  subst e5
  refine ⟨A, Y, u5, by decide, ?_⟩
  exact nx m5 _ _ _ u5 (by omega)
theorem l_f1211 (h8 : Y 0 8 = nI n) (h2 : 2 ≤ n) (hn : n < 6) (nx : ∀ m k x5 o6, a_W A Y (11, 1, 0) m → k ≤ 4009 → l_fJ g q 1247 Y n l_o1 (l_oI x5) o6 m k) (m : ch_M) (k : Nat) (x5 : Int32) (o6 : Option ch_V) (hW : a_W A Y (11, 1, 0) m) (hk : k ≤ 4006) : l_fJ g q 1211 Y n l_o1 (l_oI x5) o6 m k := by
  refine g_l_refused_1211 g _ k (by omega) _ _ _ _ m ?_
  refine ⟨A, Y, _, hW, by decide, fun M7 u7 m7 e7 => ?_⟩
  subst e7
  refine ⟨A, Y, _, u7, by decide, fun M8 u8 m8 e8 => ?_⟩
  subst e8
  refine ⟨A, Y, _, u8, ⟨⟨by decide, by decide⟩, rr_N h8⟩, fun M9 u9 m9 e9 => ?_⟩
  subst e9
  exact nx m9 _ _ _ u9 (by omega)
theorem l_f1144 (h8 : Y 0 8 = nI n) (h2 : 2 ≤ n) (hn : n < 6) (nx : ∀ m k x5 o6, a_W A Y (11, 1, 0) m → k ≤ 4006 → l_fJ g q 1211 Y n l_o1 (l_oI x5) o6 m k) (m : ch_M) (k : Nat) (x5 : Int32) (o6 : Option ch_V) (hW : a_W A Y (11, 1, 0) m) (hk : k ≤ 3998) : l_fJ g q 1144 Y n l_o1 (l_oI x5) o6 m k := by
  refine g_l_refused_1144 g _ k (by omega) _ _ _ _ m ?_
  refine ⟨A, Y, _, hW, rr_N h8, fun M10 u10 m10 e10 => ?_⟩
  subst e10
  refine ⟨A, Y, _, u10, by decide, fun M11 u11 m11 e11 => ?_⟩
  subst e11
  refine ⟨A, Y, _, u11, by decide, fun M12 u12 m12 e12 => ?_⟩
  subst e12
  refine ⟨A, Y, _, u12, rr_N h8, fun M13 u13 m13 e13 => ?_⟩
  subst e13
  refine ⟨A, Y, _, u13, rr_M Y, fun M14 u14 m14 e14 => ?_⟩
  subst e14
  refine ⟨A, Y, _, u14, rr_N h8, fun M15 u15 m15 e15 => ?_⟩
  subst e15
  exact nx m15 _ _ _ u15 (by omega)
theorem l_f1066 (h8 : Y 0 8 = nI n) (h2 : 2 ≤ n) (hn : n < 6) (nx : ∀ m k x5 o6, a_W A Y (11, 1, 0) m → k ≤ 3998 → l_fJ g q 1144 Y n l_o1 (l_oI x5) o6 m k) (m : ch_M) (k : Nat) (x5 : Int32) (o6 : Option ch_V) (hW : a_W A Y (11, 1, 0) m) (hk : k ≤ 3986) : l_fJ g q 1066 Y n l_o1 (l_oI x5) o6 m k := by
  refine g_l_refused_1066 g _ k (by omega) _ _ _ _ m ?_
  refine ⟨A, Y, _, hW, rr_N h8, fun M16 u16 m16 e16 => ?_⟩
  subst e16
  refine ⟨A, Y, _, u16, ⟨rr_0 h8 h2 hn, by decide +kernel⟩, fun M17 u17 m17 e17 => ?_⟩
  subst e17
  refine ⟨A, Y, _, u17, ⟨rr_0 h8 h2 hn, by decide +kernel⟩, fun M18 u18 m18 e18 => ?_⟩
  subst e18
  refine ⟨A, Y, _, u18, ⟨rr_0 h8 h2 hn, by decide +kernel⟩, fun M19 u19 m19 e19 => ?_⟩
  subst e19
  refine ⟨A, Y, _, u19, ⟨rr_0 h8 h2 hn, by decide +kernel⟩, fun M20 u20 m20 e20 => ?_⟩
  subst e20
  refine ⟨A, Y, _, u20, ⟨rr_0 h8 h2 hn, by decide +kernel⟩, fun M21 u21 m21 e21 => ?_⟩
  subst e21
  exact nx m21 _ _ _ u21 (by omega)
theorem l_f1029 (h8 : Y 0 8 = nI n) (h2 : 2 ≤ n) (hn : n < 6) (nx : ∀ m k x5 o6, a_W A Y (11, 1, 0) m → k ≤ 3986 → l_fJ g q 1066 Y n l_o1 (l_oI x5) o6 m k) (m : ch_M) (k : Nat) (x5 : Int32) (o6 : Option ch_V) (hW : a_W A Y (11, 1, 0) m) (hk : k ≤ 3980) : l_fJ g q 1029 Y n l_o1 (l_oI x5) o6 m k := by
  refine g_l_refused_1029 g _ k (by omega) _ _ _ _ m ?_
  refine ⟨A, Y, _, hW, rr_N h8, fun M22 u22 m22 e22 => ?_⟩
  subst e22
  refine ⟨A, Y, _, u22, ⟨rr_0 h8 h2 hn, by decide⟩, fun M23 u23 m23 e23 => ?_⟩
  subst e23
  refine ⟨A, Y, _, u23, ⟨rr_0 h8 h2 hn, by decide⟩, fun M24 u24 m24 e24 => ?_⟩
  subst e24
  exact nx m24 _ _ _ u24 (by omega)
theorem x_acR4 (Y : ch_B) : x_acR (y_can Y) 0 0 4 = Y 0 9 := by
  have h0 : ∀ Z : ch_B, x_acR Z 0 0 4 = Z 0 9 := fun Z => rfl
  rw [h0]
  exact y_can_at (by decide)
theorem l_f970 (h8 : Y 0 8 = nI n) (h2 : 2 ≤ n) (hn : n < 6) (nx : ∀ m k x5 o6, a_W A Y (11, 1, 0) m → k ≤ 3980 → l_fJ g q 1029 Y n l_o1 (l_oI x5) o6 m k) (m : ch_M) (k : Nat) (x5 : Int32) (o6 : Option ch_V) (hW : a_W A Y (11, 1, 0) m) (hk : k ≤ 3974) : l_fJ g q 970 Y n l_o1 (l_oI x5) o6 m k := by
  refine g_l_refused_970 g _ k (by omega) _ _ _ _ m ?_
  refine ⟨A, Y, _, hW, rr_N h8, fun M25 u25 m25 e25 => ?_⟩
  subst e25
  refine ⟨A, Y, _, u25, ⟨by decide, by decide⟩, fun M26 u26 m26 e26 => ?_⟩
  subst e26
  refine ⟨A, Y, _, u26, fun z => by rw [x_acR4] at z; exact Int32.lt_irrefl z.2, fun M27 u27 m27 e27 => ?_⟩
  subst e27
  refine ⟨A, Y, _, u27, fun z => absurd z.1 (by decide), fun M28 u28 m28 e28 => ?_⟩
  subst e28
  refine ⟨A, Y, _, u28, rr_N h8, fun M29 u29 m29 e29 => ?_⟩
  subst e29
  refine ⟨A, Y, _, u29, rr_M Y, fun M30 u30 m30 e30 => ?_⟩
  subst e30
  exact nx m30 _ _ _ u30 (by omega)
theorem l_f877 (h8 : Y 0 8 = nI n) (h2 : 2 ≤ n) (hn : n < 6) (nx : ∀ m k x5 o6, a_W A Y (11, 1, 0) m → k ≤ 3974 → l_fJ g q 970 Y n l_o1 (l_oI x5) o6 m k) (R : Int32 × Int32 × Int32) (m : ch_M) (k : Nat) (x5 : Int32) (o6 : Option ch_V) (hW : a_W A Y R m) (hk : k ≤ 3963) : l_fJ g q 877 Y n l_o1 (l_oI x5) o6 m k := by
  refine g_l_refused_877 g _ k (by omega) _ _ _ _ m ?_
  refine ⟨A, Y, _, 11, 1, hW, fun Z hZ => rr_wg11 ((hZ 0 8 (by decide)).trans h8) h2 hn 1, by decide, fun M31 u31 m31 e31 => ?_⟩
  subst e31
  refine ⟨A, Y, _, u31, by decide, fun M32 u32 m32 e32 => ?_⟩
  subst e32
  refine ⟨A, Y, _, u32, by decide, fun M33 u33 m33 e33 => ?_⟩
  subst e33
  refine ⟨A, Y, _, u33, rr_N h8, fun M34 u34 m34 e34 => ?_⟩
  subst e34
  refine ⟨A, Y, _, u34, rr_M Y, fun M35 u35 m35 e35 => ?_⟩
  subst e35
  refine ⟨A, Y, _, u35, ⟨rr_0 h8 h2 hn, by decide⟩, fun M36 u36 m36 e36 => ?_⟩
  subst e36
  refine ⟨A, Y, _, u36, ⟨rr_0 h8 h2 hn, by decide⟩, fun M37 u37 m37 e37 => ?_⟩
  subst e37
  exact nx m37 _ _ _ u37 (by omega)
theorem l_f251 (h8 : Y 0 8 = nI n) (h2 : 2 ≤ n) (hn : n < 6) (nx : ∀ R m k o6, a_W A Y R m → k ≤ 1300 → l_fJ g q 351 Y n l_o1 (some (.inl (.int 0))) o6 m k) (R : Int32 × Int32 × Int32) (m : ch_M) (k : Nat) (o4 o5 o6 : Option ch_V) (hW : a_W A Y R m) (hk : k ≤ 1280) : l_fJ g q 251 Y n o4 o5 o6 m k := by
  refine g_l_refused_251 g _ k (by omega) _ _ _ _ _ m ?_
  refine ⟨A, Y, _, 3, (nI n), hW, fun Z hZ => rr_wg0M ((hZ 0 8 (by decide)).trans h8) h2 hn 0, by decide, fun M38 u38 m38 e38 => ?_⟩
  subst e38
  refine ⟨A, Y, u38, by decide, ?_⟩
  refine ⟨A, Y, _, 11, 1, u38, fun Z hZ => rr_wg11 ((hZ 0 8 (by decide)).trans h8) h2 hn 0, by decide, fun M40 u40 m40 e40 => ?_⟩
  subst e40
  refine ⟨A, Y, u40, by decide, ?_⟩
  refine ⟨A, Y, _, 1, 0, u40, fun Z hZ => rr_wg01 ((hZ 0 8 (by decide)).trans h8) h2 hn (by decide), by decide, fun M42 u42 m42 e42 => ?_⟩
  subst e42
  refine ⟨A, Y, u42, by decide, ?_⟩
  refine ⟨A, Y, _, 1, 0, u42, fun Z hZ => rr_wg01 ((hZ 0 8 (by decide)).trans h8) h2 hn (by decide), by decide, fun M44 u44 m44 e44 => ?_⟩
  subst e44
  refine ⟨A, Y, u44, by decide, ?_⟩
  exact nx _ m44 _ _ u44 (by omega)
theorem l_f197 (h8 : Y 0 8 = nI n) (h2 : 2 ≤ n) (hn : n < 6) (nx : ∀ R m k o4 o5 o6, a_W A Y R m → k ≤ 1280 → l_fJ g q 251 Y n o4 o5 o6 m k) (R : Int32 × Int32 × Int32) (m : ch_M) (k : Nat) (o4 o5 o6 : Option ch_V) (hW : a_W A Y R m) (hk : k ≤ 1269) : l_fJ g q 197 Y n o4 o5 o6 m k := by
  refine g_l_refused_197 g _ k (by omega) _ _ _ _ _ m ?_
  refine ⟨A, Y, _, 1, 0, hW, fun Z hZ => rr_wr0 Z, by decide, fun M46 u46 m46 e46 => ?_⟩
  subst e46
  refine ⟨A, Y, u46, by decide, ?_⟩
  refine ⟨A, Y, _, 1, 0, u46, fun Z hZ => rr_wr10 Z, by decide, fun M48 u48 m48 e48 => ?_⟩
  subst e48
  refine ⟨A, Y, _, 3, (nI n), u48, fun Z hZ => rr_wgN ((hZ 0 8 (by decide)).trans h8) 0 0, by decide, fun M49 u49 m49 e49 => ?_⟩
  subst e49
  refine ⟨A, Y, u49, by decide, ?_⟩
  exact nx _ m49 _ _ _ _ u49 (by omega)
theorem l_f136 (h8 : Y 0 8 = nI n) (h2 : 2 ≤ n) (hn : n < 6) (nx : ∀ R m k o4 o5 o6, a_W A Y R m → k ≤ 1269 → l_fJ g q 197 Y n o4 o5 o6 m k) (R : Int32 × Int32 × Int32) (m : ch_M) (k : Nat) (o4 o5 o6 : Option ch_V) (hW : a_W A Y R m) (hk : k ≤ 1254) : l_fJ g q 136 Y n o4 o5 o6 m k := by
  refine g_l_refused_136 g _ k (by omega) _ _ _ _ _ m ?_
  refine ⟨A, Y, _, 3, (nI n), hW, fun Z hZ => rr_hxN ((hZ 0 8 (by decide)).trans h8) 0, by decide, fun M51 u51 m51 e51 => ?_⟩
  subst e51
  refine ⟨A, Y, u51, by decide, ?_⟩
  refine ⟨A, Y, _, 3, (nI n), u51, fun Z hZ => rr_wwN ((hZ 0 8 (by decide)).trans h8), by decide, fun M53 u53 m53 e53 => ?_⟩
  subst e53
  refine ⟨A, Y, u53, by decide, ?_⟩
  refine ⟨A, Y, _, 3, (nI n), u53, fun Z hZ => rr_wsN ((hZ 0 8 (by decide)).trans h8), by decide, fun M55 u55 m55 e55 => ?_⟩
  subst e55
  refine ⟨A, Y, u55, by decide, ?_⟩
  exact nx _ m55 _ _ _ _ u55 (by omega)
theorem l_f68 (h8 : Y 0 8 = nI n) (h2 : 2 ≤ n) (hn : n < 6) (nx : ∀ R m k o4 o5 o6, a_W A Y R m → k ≤ 1254 → l_fJ g q 136 Y n o4 o5 o6 m k) (R : Int32 × Int32 × Int32) (m : ch_M) (k : Nat) (o4 o5 o6 : Option ch_V) (hW : a_W A Y R m) (hk : k ≤ 1242) : l_fJ g q 68 Y n o4 o5 o6 m k := by
  refine g_l_refused_68 g _ k (by omega) _ _ _ _ _ m ?_
  refine ⟨A, Y, _, 3, (nI n), hW, fun Z hZ => rr_wcN ((hZ 0 8 (by decide)).trans h8) 99, by decide, fun M57 u57 m57 e57 => ?_⟩
  subst e57
  refine ⟨A, Y, u57, by decide, ?_⟩
  refine ⟨A, Y, _, 3, (nI n), u57, fun Z hZ => rr_wcM ((hZ 0 8 (by decide)).trans h8) 0, by decide, fun M59 u59 m59 e59 => ?_⟩
  subst e59
  refine ⟨A, Y, _, 1, 0, u59, fun Z hZ => rr_wc0 ((hZ 0 8 (by decide)).trans h8) h2 hn (by decide), by decide, fun M60 u60 m60 e60 => ?_⟩
  subst e60
  refine ⟨A, Y, u60, by decide, ?_⟩
  refine ⟨A, Y, _, 1, 0, u60, fun Z hZ => rr_wc0 ((hZ 0 8 (by decide)).trans h8) h2 hn (by decide), by decide, fun M62 u62 m62 e62 => ?_⟩
  subst e62
  exact nx _ m62 _ _ _ _ u62 (by omega)
theorem l_f11 (h8 : Y 0 8 = nI n) (h2 : 2 ≤ n) (hn : n < 6) (nx : ∀ R m k o4 o5 o6, a_W A Y R m → k ≤ 1242 → l_fJ g q 68 Y n o4 o5 o6 m k) (R : Int32 × Int32 × Int32) (m : ch_M) (k : Nat) (o4 o5 o6 : Option ch_V) (hW : a_W A Y R m) (hk : k ≤ 1201) : l_fJ g q 11 Y n o4 o5 o6 m k := by
  refine g_l_refused_11 g _ k (by omega) _ _ _ _ _ m ?_
  refine ⟨A, Y, _, 1, 0, hW, fun Z hZ => rr_wn1 Z, by decide, fun M63 u63 m63 e63 => ?_⟩
  subst e63
  refine ⟨A, Y, u63, by decide, ?_⟩
  refine ⟨A, Y, _, 1, 0, u63, fun Z hZ => rr_wn100 Z, by decide, fun M65 u65 m65 e65 => ?_⟩
  subst e65
  refine ⟨fun _ => nx _ m65 _ _ _ _ u65 (by omega), fun h5 => ?_⟩
  have e5 : n = 5 := by
    by_cases w : n < 5
    · exact absurd (nI_lt (b := 5) w (by decide)) h5
    · omega
  subst e5
  refine ⟨A, Y, _, 2, 5, u65, fun Z hZ => rr_wn5 ((hZ 0 8 (by decide)).trans h8), by decide, fun M h9 m9 e9 => ?_⟩
  subst e9
  refine ⟨A, Y, h9, by decide, ?_⟩
  exact nx _ m9 _ _ _ _ h9 (by omega)
theorem l_co {c : Nat} (hc : c < 5) : x_coR (y_can Y) (nI c) 0 = Y 3 c ∧ x_coR (y_can Y) (nI c) 1 = Y 4 c ∧ x_coR (y_can Y) (nI c) 2 = Y 5 c := by
  have e0 : ∀ Z : ch_B, x_coR Z (nI c) 0 = Z 3 (nI c).toNatClampNeg := fun Z => rfl
  have e1 : ∀ Z : ch_B, x_coR Z (nI c) 1 = Z 4 (nI c).toNatClampNeg := fun Z => rfl
  have e2 : ∀ Z : ch_B, x_coR Z (nI c) 2 = Z 5 (nI c).toNatClampNeg := fun Z => rfl
  rw [e0, e1, e2, nI_clamp (by omega)]
  exact ⟨y_can_at (y_rl5 (by decide) (by decide) hc), y_can_at (y_rl5 (by decide) (by decide) hc), y_can_at (y_rl5 (by decide) (by decide) hc)⟩
abbrev l_fI (c : Nat) : Option ch_V := some (.inl (.int (nI c)))
theorem l_f643 (h8 : Y 0 8 = nI n) (h2 : 2 ≤ n) (hn : n < 6) {c : Nat} (hc : c < n) (nx : ∀ R m k o6, a_W A Y R m → k ≤ 1300 + 60 * (c + 1) → l_fJ g q 351 Y n l_o1 (l_fI (c + 1)) o6 m k) (R : Int32 × Int32 × Int32) (m : ch_M) (k : Nat) (x6 : Int32) (hW : a_W A Y R m) (hk : k ≤ 1340 + 60 * c) : l_fJ g q 643 Y n l_o1 (l_fI c) (some (.inl (.int x6))) m k := by
  obtain ⟨p0, p1, p2⟩ := l_co (Y := Y) (c := c) (by omega)
  obtain ⟨d, hd, hcd, ed⟩ := rr_nx' h2 hn hc
  refine g_l_refused_643 g _ k (by omega) _ _ _ _ m ?_
  refine ⟨A, Y, _, hW, l_nI_in hc (by omega) h8, ⟨by decide, by decide⟩, fun M1 h1 m1 e1 => ?_⟩
  subst e1
  rw [p0, nI_1]
  refine ⟨fun _ => nx _ m1 _ _ h1 (by omega), fun h99 => ⟨nI_ne0 (by omega) (by omega), ?_⟩⟩
  rw [← nI_1, ed]
  refine ⟨A, Y, _, 5, (99 - Y 3 c), h1, fun Z hZ => rr_wg99 ((hZ 0 8 (by decide)).trans h8) hn hc hd hcd (hZ 3 c (y_rl5 (by decide) (by decide) (by omega))) h99, by decide, fun M3 h3 m3 e3 => ?_⟩
  subst e3
  refine ⟨A, Y, _, h3, l_nI_in hc (by omega) h8, ⟨by decide, by decide⟩, fun M4 h4 m4 e4 => ?_⟩
  subst e4
  refine ⟨A, Y, ?_, by decide, ?_⟩
  · rw [p0]
    exact h4
  · rw [nI_1]
    exact nx _ m4 _ _ h4 (by omega)
theorem l_f430 (h8 : Y 0 8 = nI n) (h2 : 2 ≤ n) (hn : n < 6) {c : Nat} (hc : c < n) (hw : ¬ Y 5 c ≤ 0) (nx : ∀ R m k x6, a_W A Y R m → k ≤ 1340 + 60 * c → l_fJ g q 643 Y n l_o1 (l_fI c) (some (.inl (.int x6))) m k) (R : Int32 × Int32 × Int32) (m : ch_M) (k : Nat) (hW : a_W A Y R m) (hk : k ≤ 1325 + 60 * c) : l_fJ g q 430 Y n l_o1 (l_fI c) (some (.inl (.int (Y 5 c)))) m k := by
  obtain ⟨p0, p1, p2⟩ := l_co (Y := Y) (c := c) (by omega)
  refine g_l_refused_430 g _ k (by omega) _ _ _ _ m ?_
  refine ⟨A, Y, _, hW, l_nI_in hc (by omega) h8, ⟨by decide, by decide⟩, fun M1 h1 m1 e1 => ?_⟩
  subst e1
  rw [p0]
  refine ⟨fun _ => nx _ m1 _ _ h1 (by omega), fun hp => ?_⟩
  have c0 : ¬ Y 5 c = 0 := fun z => hw (by rw [z]; exact Int32.le_refl _)
  refine ⟨A, Y, _, 5, (Y 5 c - Y 3 c), h1, fun Z hZ => rr_ws5 ((hZ 0 8 (by decide)).trans h8) hn hc (hZ 5 c (y_rl5 (by decide) (by decide) (by omega))) (hZ 3 c (y_rl5 (by decide) (by decide) (by omega))) c0 hp, by decide, fun M3 h3 m3 e3 => ?_⟩
  subst e3
  refine ⟨A, Y, _, h3, l_nI_in hc (by omega) h8, ⟨by decide, by decide⟩, fun M4 h4 m4 e4 => ?_⟩
  subst e4
  refine ⟨A, Y, ?_, by decide, nx _ m4 _ _ h4 (by omega)⟩
  rw [p0]
  exact h4
theorem l_f592 (h8 : Y 0 8 = nI n) (h2 : 2 ≤ n) (hn : n < 6) {c : Nat} (hc : c < n) (hw : Y 5 c = 0) (nx : ∀ R m k x6, a_W A Y R m → k ≤ 1340 + 60 * c → l_fJ g q 643 Y n l_o1 (l_fI c) (some (.inl (.int x6))) m k) (R : Int32 × Int32 × Int32) (m : ch_M) (k : Nat) (x6 : Int32) (hW : a_W A Y R m) (hk : k ≤ 1325 + 60 * c) : l_fJ g q 592 Y n l_o1 (l_fI c) (some (.inl (.int x6))) m k := by
  obtain ⟨p0, p1, p2⟩ := l_co (Y := Y) (c := c) (by omega)
  refine g_l_refused_592 g _ k (by omega) _ _ _ _ m ?_
  refine ⟨A, Y, _, hW, l_nI_in hc (by omega) h8, ⟨by decide, by decide⟩, fun M1 h1 m1 e1 => ?_⟩
  subst e1
  rw [p1]
  refine ⟨fun _ => nx _ m1 _ _ h1 (by omega), fun hp => ?_⟩
  refine ⟨A, Y, _, 9, (Y 4 c), h1, fun Z hZ => rr_ww9 ((hZ 0 8 (by decide)).trans h8) hn hc ((hZ 5 c (y_rl5 (by decide) (by decide) (by omega))).trans hw) (hZ 4 c (y_rl5 (by decide) (by decide) (by omega))) hp, by decide, fun M3 h3 m3 e3 => ?_⟩
  subst e3
  refine ⟨A, Y, _, h3, l_nI_in hc (by omega) h8, ⟨by decide, by decide⟩, fun M4 h4 m4 e4 => ?_⟩
  subst e4
  refine ⟨A, Y, ?_, by decide, nx _ m4 _ _ h4 (by omega)⟩
  rw [p1]
  exact h4
theorem l_f351 (h8 : Y 0 8 = nI n) (h2 : 2 ≤ n) (hn : n < 6) (hY : y_inv A.1 Y) (nx : ∀ R m k o6, a_W A Y R m → k ≤ 1600 → l_fJ g q 714 Y n l_o1 (l_fI 0) o6 m k) : ∀ c, c ≤ n → ∀ R m k o6, a_W A Y R m → k ≤ 1300 + 60 * c → l_fJ g q 351 Y n l_o1 (l_fI c) o6 m k := by
  refine ch_down (fun c => ∀ R m k o6, a_W A Y R m → k ≤ 1300 + 60 * c → l_fJ g q 351 Y n l_o1 (l_fI c) o6 m k) n ?_ ?_
  · intro R m k o6 hW hk
    exact g_l_refused_351 g _ k (by omega) _ _ _ _ m ⟨fun _ => nx R m k o6 hW (by omega), fun z => absurd (Int32.le_refl _) z⟩
  · intro c hc ih R m k o6 hW hk
    obtain ⟨p0, p1, p2⟩ := l_co (Y := Y) (c := c) (by omega)
    refine g_l_refused_351 g _ k (by omega) _ _ _ _ m ⟨fun z => absurd z (nI_ge hc (by omega)), fun _ => ?_⟩
    have n643 := l_f643 (g := g) (q := q) (A := A) h8 h2 hn hc (fun R m k o6 hW hk => ih R m k o6 hW hk)
    refine ⟨A, Y, _, hW, l_nI_in hc (by omega) h8, ⟨by decide, by decide⟩, fun M1 h1 m1 e1 => ?_⟩
    subst e1
    rw [p2]
    have z5 : ∀ {Z : ch_B}, y_sm Y Z → Z 5 c = Y 5 c := fun hZ => hZ 5 c (y_rl5 (by decide) (by decide) (by omega))
    refine ⟨fun hw => ?_, fun hw => ?_⟩
    · have w0 : Y 5 c = 0 := by
        obtain ⟨v, hv, ev⟩ := vp_in_of (y_i5 hY (c := c) (by omega)) (by decide)
        rw [ev] at hw ⊢
        have := (nI_leI (a := v) (b := 0) (by omega) (by omega)).mp hw
        rw [show v = 0 by omega]
        rfl
      refine ⟨A, Y, _, 1, 0, h1, fun Z hZ => rr_hx0 ((hZ 0 8 (by decide)).trans h8) hn hc ((z5 hZ).trans w0), by decide, fun M2 h2' m2 e2 => ?_⟩
      subst e2
      refine ⟨A, Y, h2', by decide, ?_⟩
      refine ⟨A, Y, _, 8, 0, h2', fun Z hZ => rr_hx1 ((hZ 0 8 (by decide)).trans h8) hn hc ((z5 hZ).trans w0), by decide, fun M3 h3 m3 e3 => ?_⟩
      subst e3
      refine ⟨A, Y, h3, by decide, ?_⟩
      refine ⟨A, Y, _, 8, 12, h3, fun Z hZ => rr_hx3 ((hZ 0 8 (by decide)).trans h8) hn hc ((z5 hZ).trans w0), by decide, fun M4 h4 m4 e4 => ?_⟩
      subst e4
      refine ⟨A, Y, h4, by decide, ?_⟩
      refine ⟨A, Y, _, 10, 0, h4, fun Z hZ => rr_ws10 ((hZ 0 8 (by decide)).trans h8) hn hc ((z5 hZ).trans w0), by decide, fun M5 h5 m5 e5 => ?_⟩
      subst e5
      refine ⟨A, Y, h5, by decide, ?_⟩
      exact l_f592 h8 h2 hn hc w0 n643 _ m5 _ _ h5 (by omega)
    · refine ⟨A, Y, _, 7, (Y 5 c), h1, fun Z hZ => rr_hx7 ((hZ 0 8 (by decide)).trans h8) hn hc 0 (z5 hZ) hw, by decide, fun M2 h2' m2 e2 => ?_⟩
      subst e2
      refine ⟨A, Y, h2', by decide, ?_⟩
      refine ⟨A, Y, _, 7, (Y 5 c), h2', fun Z hZ => rr_ww7 ((hZ 0 8 (by decide)).trans h8) hn hc (z5 hZ) hw, by decide, fun M3 h3 m3 e3 => ?_⟩
      subst e3
      refine ⟨A, Y, h3, by decide, ?_⟩
      exact l_f430 h8 h2 hn hc hw n643 _ m3 _ h3 (by omega)
end REFUSED
