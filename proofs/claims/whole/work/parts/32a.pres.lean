/-! what holds of a yard holds behind each change -/
def y_D (T : Nat) (Y : ch_B) (n s C Br : Nat) (P R W K O : Nat → Nat) : Prop :=
  (n < 6 ∧ s < 6 ∧ Y 0 8 = nI n ∧ Y 0 9 = nI s ∧ Y 0 10 = nI C ∧ Y 0 11 = nI Br) ∧
  (∀ k, k < 5 → O k < 5 ∧ Y 8 k = nI (O k)) ∧
  (∀ q, q < 12 → K q < 10 ∧ Y 2 q = nI (K q) ∧ ((Y 1 q = -1 ∧ K q = 0) ∨ (∃ c, c < n ∧ Y 1 q = nI c ∧ K q ≠ 0))) ∧
  (∀ c, c < 5 → P c < 496 ∧ Y 3 c = nI (P c) ∧ R c < T ∧ Y 4 c = nI (R c) ∧ W c < 10 ∧ Y 5 c = nI (W c)) ∧
  (∀ c, n ≤ c → c < 5 → P c = 0 ∧ R c = 0 ∧ W c = 0 ∧ Y 6 c = 0 ∧ Y 7 c = 0) ∧
  ((∀ c, c < 5 → (W c ≠ 0 ↔ ∃ k, k < s ∧ O k = c)) ∧ ∀ i j, i < j → j < s → O i ≠ O j) ∧
  (P 0 + P 1 + P 2 + P 3 + P 4 + C = Br ∧ Br ≤ 99 * n)
theorem nI_0i {n : Nat} (h : n < 2 ^ 31) : nI n = 0 ↔ n = 0 := nI_eq (b := 0) h (by decide)
theorem y_D_of {T : Nat} (hT : T < 2 ^ 31) {Y : ch_B} (h : y_inv T Y) : ∃ n s C Br P R W K O, y_D T Y n s C Br P R W K O := by
  obtain ⟨n, hn, en⟩ := vp_in_of (y_i8 h) (by decide)
  obtain ⟨s, hs, es⟩ := vp_in_of (y_i9 h) (by decide)
  obtain ⟨C, hC, eC⟩ := vp_in_of h.2.2.2.2.2.2.2.2 (by decide)
  obtain ⟨Br, hBr, eBr⟩ := vp_in_of h.2.2.2.2.2.2.2.1 (by decide)
  have hP : ∀ c, c < 5 → (Y 3 c).toNatClampNeg < 496 ∧ Y 3 c = nI (Y 3 c).toNatClampNeg := fun c hc => by
    obtain ⟨v, hv, ev⟩ := vp_in_of (y_i3 h hc) (by decide)
    rw [ev, nI_clamp (by omega)]
    exact ⟨hv, rfl⟩
  have hR : ∀ c, c < 5 → (Y 4 c).toNatClampNeg < T ∧ Y 4 c = nI (Y 4 c).toNatClampNeg := fun c hc => by
    obtain ⟨v, hv, ev⟩ := vp_in_of (y_i4 h hc) hT
    rw [ev, nI_clamp (by omega)]
    exact ⟨hv, rfl⟩
  have hW : ∀ c, c < 5 → (Y 5 c).toNatClampNeg < 10 ∧ Y 5 c = nI (Y 5 c).toNatClampNeg := fun c hc => by
    obtain ⟨v, hv, ev⟩ := vp_in_of (y_i5 h hc) (by decide)
    rw [ev, nI_clamp (by omega)]
    exact ⟨hv, rfl⟩
  have hK : ∀ q, q < 12 → (Y 2 q).toNatClampNeg < 10 ∧ Y 2 q = nI (Y 2 q).toNatClampNeg := fun c hc => by
    obtain ⟨v, hv, ev⟩ := vp_in_of (y_i2 h hc) (by decide)
    rw [ev, nI_clamp (by omega)]
    exact ⟨hv, rfl⟩
  have hO : ∀ k, k < 5 → (Y 8 k).toNatClampNeg < 5 ∧ Y 8 k = nI (Y 8 k).toNatClampNeg := fun c hc => by
    obtain ⟨v, hv, ev⟩ := vp_in_of (y_i8k h c hc) (by decide)
    rw [ev, nI_clamp (by omega)]
    exact ⟨hv, rfl⟩
  have cn : (Y 0 8).toNatClampNeg = n := by rw [en, nI_clamp (by omega)]
  have cs : (Y 0 9).toNatClampNeg = s := by rw [es, nI_clamp (by omega)]
  have cC : (Y 0 10).toNatClampNeg = C := by rw [eC, nI_clamp (by omega)]
  have cB : (Y 0 11).toNatClampNeg = Br := by rw [eBr, nI_clamp (by omega)]
  obtain ⟨-, i2, i3, i4, ⟨i5, i6⟩, i7, i8, -⟩ := h
  rw [cn] at i4 i8
  rw [cs] at i5 i6
  rw [cB] at i7 i8
  refine ⟨n, s, C, Br, fun c => (Y 3 c).toNatClampNeg, fun c => (Y 4 c).toNatClampNeg, fun c => (Y 5 c).toNatClampNeg, fun c => (Y 2 c).toNatClampNeg, fun c => (Y 8 c).toNatClampNeg, ⟨hn, hs, en, es, eC, eBr⟩, hO, fun q hq => ⟨(hK q hq).1, (hK q hq).2, ?_⟩, fun c hc => ⟨(hP c hc).1, (hP c hc).2, (hR c hc).1, (hR c hc).2, (hW c hc).1, (hW c hc).2⟩, fun c h1 h2 => ?_, ⟨fun c hc => ?_, fun i j h1 h2 => ?_⟩, ?_, i8⟩
  · have e0 : Y 2 q = 0 ↔ (Y 2 q).toNatClampNeg = 0 := by
      rw [(hK q hq).2, nI_clamp (by have := (hK q hq).1; omega)]
      exact nI_0i (by have := (hK q hq).1; omega)
    rcases (i2 q hq).2 with ⟨a, b⟩ | ⟨c, hc, a, b⟩
    · exact Or.inl ⟨a, e0.mp b⟩
    · rw [cn] at hc
      exact Or.inr ⟨c, hc, a, fun z => b (e0.mpr z)⟩
  · obtain ⟨z3, z4, z5, z6, z7⟩ := i4 c h1 h2
    dsimp only
    rw [z3, z4, z5]
    exact ⟨by decide, by decide, by decide, z6, z7⟩
  · have e0 : Y 5 c = 0 ↔ (Y 5 c).toNatClampNeg = 0 := by
      rw [(hW c hc).2, nI_clamp (by have := (hW c hc).1; omega)]
      exact nI_0i (by have := (hW c hc).1; omega)
    refine ⟨fun z => ?_, fun ⟨k, hk, ek⟩ z => ?_⟩
    · obtain ⟨k, hk, ek⟩ := (i5 c hc).mp (fun y => z (e0.mp y))
      exact ⟨k, hk, by dsimp only; rw [ek, nI_clamp (by omega)]⟩
    · refine (i5 c hc).mpr ⟨k, hk, ?_⟩ (e0.mpr z)
      rw [(hO k (by omega)).2]
      dsimp only at ek
      rw [ek]
  · have := i6 i j h1 h2
    intro z
    refine this ?_
    rw [(hO i (by omega)).2, (hO j (by omega)).2]
    dsimp only at z
    rw [z]
  · dsimp only
    rw [← i7]
    unfold y_tot
    rw [cC]
theorem y_inv_of {T : Nat} {Y : ch_B} {n s C Br : Nat} {P R W K O : Nat → Nat} (hT : T < 2 ^ 31) (h : y_D T Y n s C Br P R W K O) : y_inv T Y := by
  obtain ⟨⟨hn, hs, en, es, eC, eB⟩, hO, hK, hc, hz, ⟨ho, hd⟩, hsum, hb⟩ := h
  have cn : (Y 0 8).toNatClampNeg = n := by rw [en, nI_clamp (by omega)]
  have cs : (Y 0 9).toNatClampNeg = s := by rw [es, nI_clamp (by omega)]
  have cC : (Y 0 10).toNatClampNeg = C := by rw [eC, nI_clamp (by omega)]
  have cB : (Y 0 11).toNatClampNeg = Br := by rw [eB, nI_clamp (by omega)]
  have cP : ∀ c, c < 5 → (Y 3 c).toNatClampNeg = P c := fun c h => by
    rw [(hc c h).2.1, nI_clamp (by have := (hc c h).1; omega)]
  unfold y_inv
  rw [cn, cs, cB]
  refine ⟨⟨by rw [en]; exact vp_in_nI hn (by decide), by rw [es]; exact vp_in_nI hs (by decide), fun k hk => by rw [(hO k hk).2]; exact vp_in_nI (hO k hk).1 (by decide)⟩, fun q hq => ⟨?_, ?_⟩, fun c h => ⟨?_, ?_, ?_⟩, fun c h1 h2 => ?_, ⟨fun c h => ?_, fun i j h1 h2 z => ?_⟩, ?_, hb, by rw [eB]; exact vp_in_nI (by omega) (by decide), by rw [eC]; exact vp_in_nI (by omega) (by decide)⟩
  · rw [(hK q hq).2.1]
    exact vp_in_nI (hK q hq).1 (by decide)
  · have hl := (hK q hq).1
    rcases (hK q hq).2.2 with ⟨a, b⟩ | ⟨c, hc, a, b⟩
    · exact Or.inl ⟨a, by rw [(hK q hq).2.1, b]; decide⟩
    · exact Or.inr ⟨c, hc, a, by rw [(hK q hq).2.1]; exact fun z => b ((nI_0i (by omega)).mp z)⟩
  · rw [(hc c h).2.1]
    exact vp_in_nI (hc c h).1 (by decide)
  · rw [(hc c h).2.2.2.1]
    exact vp_in_nI (hc c h).2.2.1 hT
  · rw [(hc c h).2.2.2.2.2]
    exact vp_in_nI (hc c h).2.2.2.2.1 (by decide)
  · obtain ⟨z1, z2, z3, z6, z7⟩ := hz c h1 h2
    obtain ⟨-, e3, -, e4, -, e5⟩ := hc c h2
    rw [e3, e4, e5, z1, z2, z3]
    exact ⟨by decide, by decide, by decide, z6, z7⟩
  · have hw := (hc c h).2.2.2.2.1
    rw [(hc c h).2.2.2.2.2]
    refine ⟨fun z => ?_, fun ⟨k, hk, ek⟩ z => ?_⟩
    · obtain ⟨k, hk, ek⟩ := (ho c h).mp (fun y => z (by rw [y]; decide))
      exact ⟨k, hk, by rw [(hO k (by omega)).2, ek]⟩
    · rw [(hO k (by omega)).2] at ek
      exact (ho c h).mpr ⟨k, hk, (nI_eq (by have := (hO k (by omega)).1; omega) (by omega)).mp ek⟩ ((nI_0i (by omega)).mp z)
  · rw [(hO i (by omega)).2, (hO j (by omega)).2] at z
    exact hd i j h1 h2 ((nI_eq (by have := (hO i (by omega)).1; omega) (by have := (hO j (by omega)).1; omega)).mp z)
  · unfold y_tot
    rw [cP 0 (by omega), cP 1 (by omega), cP 2 (by omega), cP 3 (by omega), cP 4 (by omega), cC]
    exact hsum
theorem y_inv_mono {T T' : Nat} {Y : ch_B} (hT : T' < 2 ^ 31) (h : y_inv T Y) (hl : T ≤ T') : y_inv T' Y := by
  refine ⟨h.1, h.2.1, fun c hc => ⟨(h.2.2.1 c hc).1, ?_, (h.2.2.1 c hc).2.2⟩, h.2.2.2⟩
  obtain ⟨v, hv, ev⟩ := vp_in_of (y_i4 h hc) (by omega)
  rw [ev]
  exact vp_in_nI (by omega) hT
/-- the sum of five, one of them changed -/
def f_up (f : Nat → Nat) (k v : Nat) : Nat → Nat := fun c => if c = k then v else f c
theorem f_up_at (f : Nat → Nat) (k v : Nat) : f_up f k v k = v := if_pos rfl
theorem f_up_ne {f : Nat → Nat} {k v c : Nat} (h : c ≠ k) : f_up f k v c = f c := if_neg h
theorem f_sum {f : Nat → Nat} {k v : Nat} (hk : k < 5) : f_up f k v 0 + f_up f k v 1 + f_up f k v 2 + f_up f k v 3 + f_up f k v 4 + f k = f 0 + f 1 + f 2 + f 3 + f 4 + v := by
  unfold f_up
  obtain rfl | rfl | rfl | rfl | rfl : k = 0 ∨ k = 1 ∨ k = 2 ∨ k = 3 ∨ k = 4 := by omega
  all_goals simp <;> omega
theorem f_le {f : Nat → Nat} {k : Nat} (hk : k < 5) : f k ≤ f 0 + f 1 + f 2 + f 3 + f 4 := by
  obtain rfl | rfl | rfl | rfl | rfl : k = 0 ∨ k = 1 ∨ k = 2 ∨ k = 3 ∨ k = 4 := by omega
  all_goals omega
theorem y_inv_sq {T : Nat} (hT : T < 2 ^ 31) {Y : ch_B} (h : y_inv T Y) {q v : Nat} (hq : q < 12) (hv : v < 10) {o : Int32} (ho : (o = -1 ∧ v = 0) ∨ (∃ c, c < (Y 0 8).toNatClampNeg ∧ o = nI c ∧ v ≠ 0)) : y_inv T (ch_bw (ch_bw Y 2 q (nI v)) 1 q o) := by
  obtain ⟨n, s, C, Br, P, R, W, K, O, ⟨hn, hs, en, es, eC, eB⟩, hO, hK, hc, hz, hod, hsum, hb⟩ := y_D_of hT h
  rw [en, nI_clamp (by omega)] at ho
  refine y_inv_of (n := n) (s := s) (C := C) (Br := Br) (P := P) (R := R) (W := W) (K := f_up K q v) (O := O) hT ⟨⟨hn, hs, en, es, eC, eB⟩, hO, fun i hi => ?_, hc, hz, hod, hsum, hb⟩
  by_cases e : i = q
  · subst e
    rw [f_up_at, ch_bw_c (by decide), ch_bw_at, ch_bw_at]
    exact ⟨hv, rfl, ho⟩
  · rw [f_up_ne e, ch_bw_c (by decide), ch_bw_k e, ch_bw_k e, ch_bw_c (by decide)]
    exact hK i hi
theorem ch_bw_self (Y : ch_B) (a k : Nat) : ch_bw Y a k (Y a k) = Y := by
  funext c i
  unfold ch_bw
  split
  · rename_i h
    rw [h.1, h.2]
  · rfl
theorem y_inv_pay {T : Nat} (hT : T < 2 ^ 31) {Y : ch_B} (h : y_inv T Y) {c a p : Nat} (hc5 : c < 5) (hp : Y 3 c = nI p) (hp2 : p < 496) (ha : a ≤ p) : y_inv T (ch_bw (ch_bw Y 3 c (Y 3 c - nI a)) 0 10 (Y 0 10 + nI a)) := by
  obtain ⟨n, s, C, Br, P, R, W, K, O, ⟨hn, hs, en, es, eC, eB⟩, hO, hK, hc, hz, hod, hsum, hb⟩ := y_D_of hT h
  have ep : P c = p := (nI_eq (by have := (hc c hc5).1; omega) (by omega)).mp ((hc c hc5).2.1.symm.trans hp)
  have hs5 := f_sum (f := P) (k := c) (v := p - a) hc5
  refine y_inv_of (n := n) (s := s) (C := C + a) (Br := Br) (P := f_up P c (p - a)) (R := R) (W := W) (K := K) (O := O) hT ⟨⟨hn, hs, en, es, ?_, eB⟩, hO, hK, fun d hd => ?_, fun d h1 h2 => ?_, hod, by omega, hb⟩
  · rw [ch_bw_at, eC, nI_add]
  · obtain ⟨c1, c2, c3, c4, c5, c6⟩ := hc d hd
    by_cases e : d = c
    · subst e
      rw [f_up_at, ch_bw_c (by decide), ch_bw_at, hp, pk_sub ha]
      exact ⟨by omega, rfl, c3, c4, c5, c6⟩
    · rw [f_up_ne e, ch_bw_c (by decide), ch_bw_k e]
      exact ⟨c1, c2, c3, c4, c5, c6⟩
  · obtain ⟨z1, z2⟩ := hz d h1 h2
    refine ⟨?_, z2⟩
    by_cases e : d = c
    · subst e
      rw [f_up_at]
      omega
    · rw [f_up_ne e]
      exact z1
theorem y_inv_get {T : Nat} (hT : T < 2 ^ 31) {Y : ch_B} (h : y_inv T Y) {c : Nat} (hc5 : c < (Y 0 8).toNatClampNeg) (hC : ¬ Y 0 10 ≤ 0) : y_inv T (ch_bw (ch_bw Y 0 10 (Y 0 10 - 1)) 3 c (Y 3 c + 1)) := by
  obtain ⟨n, s, C, Br, P, R, W, K, O, ⟨hn, hs, en, es, eC, eB⟩, hO, hK, hc, hz, hod, hsum, hb⟩ := y_D_of hT h
  rw [en, nI_clamp (by omega)] at hc5
  have hC1 : 1 ≤ C := by
    by_cases l : 1 ≤ C
    · exact l
    · exact absurd (by rw [eC, show C = 0 by omega]; decide) hC
  obtain ⟨C', rfl⟩ : ∃ C', C = C' + 1 := ⟨C - 1, by omega⟩
  have hs5 := f_sum (f := P) (k := c) (v := P c + 1) (by omega)
  have hle := f_le (f := P) (k := c) (by omega)
  refine y_inv_of (n := n) (s := s) (C := C') (Br := Br) (P := f_up P c (P c + 1)) (R := R) (W := W) (K := K) (O := O) hT ⟨⟨hn, hs, en, es, ?_, eB⟩, hO, hK, fun d hd => ?_, fun d h1 h2 => ?_, hod, by omega, hb⟩
  · rw [ch_bw_c (by decide), ch_bw_at, eC, nI_pred]
  · obtain ⟨c1, c2, c3, c4, c5, c6⟩ := hc d hd
    by_cases e : d = c
    · subst e
      rw [f_up_at, ch_bw_at, c2, nI_1]
      exact ⟨by omega, rfl, c3, c4, c5, c6⟩
    · rw [f_up_ne e, ch_bw_k e, ch_bw_c (by decide)]
      exact ⟨c1, c2, c3, c4, c5, c6⟩
  · rw [f_up_ne (show d ≠ c by omega)]
    exact hz d h1 h2
theorem y_inv_give {T : Nat} (hT : T < 2 ^ 31) {Y : ch_B} (h : y_inv T Y) {c d a p : Nat} (hc5 : c < 5) (hd5 : d < (Y 0 8).toNatClampNeg) (hcd : c ≠ d) (hp : Y 3 c = nI p) (hp2 : p < 496) (ha : a ≤ p) : y_inv T (ch_bw (ch_bw Y 3 c (Y 3 c - nI a)) 3 d (Y 3 d + nI a)) := by
  obtain ⟨n, s, C, Br, P, R, W, K, O, ⟨hn, hs, en, es, eC, eB⟩, hO, hK, hc, hz, hod, hsum, hb⟩ := y_D_of hT h
  rw [en, nI_clamp (by omega)] at hd5
  have ep : P c = p := (nI_eq (by have := (hc c hc5).1; omega) (by omega)).mp ((hc c hc5).2.1.symm.trans hp)
  have hs5 := f_sum (f := P) (k := c) (v := p - a) hc5
  have hs6 := f_sum (f := f_up P c (p - a)) (k := d) (v := P d + a) (by omega)
  rw [f_up_ne (fun z => hcd z.symm)] at hs6
  have hle := f_le (f := f_up (f_up P c (p - a)) d (P d + a)) (k := d) (by omega)
  rw [f_up_at] at hle
  refine y_inv_of (n := n) (s := s) (C := C) (Br := Br) (P := f_up (f_up P c (p - a)) d (P d + a)) (R := R) (W := W) (K := K) (O := O) hT ⟨⟨hn, hs, en, es, eC, eB⟩, hO, hK, fun e he => ?_, fun e h1 h2 => ?_, hod, by omega, hb⟩
  · obtain ⟨c1, c2, c3, c4, c5, c6⟩ := hc e he
    by_cases e1 : e = d
    · subst e1
      rw [f_up_at, ch_bw_at, c2, nI_add]
      exact ⟨by omega, rfl, c3, c4, c5, c6⟩
    · rw [f_up_ne e1, ch_bw_k e1]
      by_cases e2 : e = c
      · subst e2
        rw [f_up_at, ch_bw_at, hp, pk_sub ha]
        exact ⟨by omega, rfl, c3, c4, c5, c6⟩
      · rw [f_up_ne e2, ch_bw_k e2]
        exact ⟨c1, c2, c3, c4, c5, c6⟩
  · rw [f_up_ne (show e ≠ d by omega)]
    obtain ⟨z1, z2⟩ := hz e h1 h2
    refine ⟨?_, z2⟩
    by_cases e2 : e = c
    · subst e2
      rw [f_up_at]
      omega
    · rw [f_up_ne e2]
      exact z1
theorem y_inv_cnt {T : Nat} {Y : ch_B} (h : y_inv T Y) {k : Nat} {v : Int32} (hk : 12 ≤ k) : y_inv T (ch_bw Y 0 k v) := by
  have e : ∀ i, i < 12 → ch_bw Y 0 k v 0 i = Y 0 i := fun i hi => ch_bw_k (by omega)
  unfold y_inv y_tot
  rw [e 8 (by decide), e 9 (by decide), e 10 (by decide), e 11 (by decide)]
  exact h
theorem y_inv_67 {T : Nat} (hT : T < 2 ^ 31) {Y : ch_B} (h : y_inv T Y) {a c : Nat} {v : Int32} (ha : a = 6 ∨ a = 7) (hc5 : c < (Y 0 8).toNatClampNeg) : y_inv T (ch_bw Y a c v) := by
  obtain ⟨n, s, C, Br, P, R, W, K, O, ⟨hn, hs, en, es, eC, eB⟩, hO, hK, hc, hz, hod, hsum, hb⟩ := y_D_of hT h
  rw [en, nI_clamp (by omega)] at hc5
  have o : ∀ b i, b ≠ 6 → b ≠ 7 → ch_bw Y a c v b i = Y b i := fun b i h1 h2 => ch_bw_c (by omega)
  refine y_inv_of (n := n) (s := s) (C := C) (Br := Br) (P := P) (R := R) (W := W) (K := K) (O := O) hT ⟨⟨hn, hs, ?_, ?_, ?_, ?_⟩, fun k hk => ?_, fun q hq => ?_, fun d hd => ?_, fun d h1 h2 => ?_, hod, hsum, hb⟩
  · rw [o 0 8 (by decide) (by decide)]; exact en
  · rw [o 0 9 (by decide) (by decide)]; exact es
  · rw [o 0 10 (by decide) (by decide)]; exact eC
  · rw [o 0 11 (by decide) (by decide)]; exact eB
  · rw [o 8 k (by decide) (by decide)]; exact hO k hk
  · rw [o 2 q (by decide) (by decide), o 1 q (by decide) (by decide)]; exact hK q hq
  · rw [o 3 d (by decide) (by decide), o 4 d (by decide) (by decide), o 5 d (by decide) (by decide)]; exact hc d hd
  · have e : ∀ b, ch_bw Y a c v b d = Y b d := fun b => ch_bw_k (by omega)
    rw [e 6, e 7]
    exact hz d h1 h2
theorem y_inv_4 {T a : Nat} (hT : T + a < 2 ^ 31) {Y : ch_B} (h : y_inv T Y) {c : Nat} (hc5 : c < (Y 0 8).toNatClampNeg) : y_inv (T + a) (ch_bw Y 4 c (Y 4 c + nI a)) := by
  obtain ⟨n, s, C, Br, P, R, W, K, O, ⟨hn, hs, en, es, eC, eB⟩, hO, hK, hc, hz, hod, hsum, hb⟩ := y_D_of (by omega) h
  rw [en, nI_clamp (by omega)] at hc5
  refine y_inv_of (n := n) (s := s) (C := C) (Br := Br) (P := P) (R := f_up R c (R c + a)) (W := W) (K := K) (O := O) hT ⟨⟨hn, hs, en, es, eC, eB⟩, hO, hK, fun d hd => ?_, fun d h1 h2 => ?_, hod, hsum, hb⟩
  · obtain ⟨c1, c2, c3, c4, c5, c6⟩ := hc d hd
    by_cases e : d = c
    · subst e
      rw [f_up_at, ch_bw_at, c4, nI_add]
      exact ⟨c1, c2, by omega, rfl, c5, c6⟩
    · rw [f_up_ne e, ch_bw_c (show (3 : Nat) ≠ 4 by decide), ch_bw_c (show (5 : Nat) ≠ 4 by decide), ch_bw_k e]
      exact ⟨c1, c2, by omega, c4, c5, c6⟩
  · rw [f_up_ne (show d ≠ c by omega)]
    exact hz d h1 h2
