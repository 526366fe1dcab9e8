/-- the first object's yard, so many children and so many squares of the first child -/
def e_Y (k j : Nat) : ch_B := fun c i =>
  if c = 0 then (if i = 8 then nI k else if i = 10 then nI j else if i = 11 then (if k = 0 then 0 else nI (99 + k * (k - 1) / 2)) else 0)
  else if c = 1 then (if i < j then 0 else -1)
  else if c = 2 then (if i < j then 5 else 0)
  else if c = 3 then (if i = 0 then (if k = 0 then 0 else nI (99 - j)) else if i < k then nI i else 0)
  else 0
def e_S (n : Nat) : ch_B := if n ≤ 5 then e_Y n 0 else e_Y 5 (n - 5)
def e_D (T n c : Nat) : a_G := (T, c, (fun k => e_S (n - 1 - k)), ((1 : Int32), e_Y 0 0), (0 : Int32))
theorem e_D_up {T n c c' : Nat} (hc : c' = min (c + 1) 8) : a_up (e_D T n c) ((e_D T n c).1 + 12) (e_S n) = e_D (T + 12) (n + 1) c' := by
  subst hc
  unfold a_up e_D
  have e : a_pu (e_S n) (fun k => e_S (n - 1 - k)) = fun k => e_S (n + 1 - 1 - k) := by
    funext k
    unfold a_pu
    by_cases h : k = 0
    · rw [if_pos h, h]
      rfl
    · rw [if_neg h]
      show e_S (n - 1 - (k - 1)) = e_S (n + 1 - 1 - k)
      rw [show n - 1 - (k - 1) = n + 1 - 1 - k by omega]
  show (T + 12, min (c + 1) 8, a_pu (e_S n) (fun k => e_S (n - 1 - k)), _, _) = _
  rw [e]
theorem e_D_dn {T n c : Nat} : a_dn (e_D T n c) = e_D T (n - 1) (c - 1) := by
  unfold a_dn e_D
  have e : (fun k => e_S (n - 1 - (k + 1))) = fun k => e_S (n - 1 - 1 - k) := by
    funext k
    rw [show n - 1 - (k + 1) = n - 1 - 1 - k by omega]
  show (T, c - 1, (fun k => e_S (n - 1 - (k + 1))), _, _) = _
  rw [e]
theorem e_bri {k : Nat} (hk : k < 5) {Z : ch_B} {p : Nat} (hp : p = if k = 0 then 99 else k) (h : y_sm (e_Y k 0) Z) : y_sm (e_Y (k + 1) 0) (y_briB Z (nI p)) := by
  have z8 : Z 0 8 = nI k := h 0 8 (by decide)
  have z11 : Z 0 11 = (if k = 0 then 0 else nI (99 + k * (k - 1) / 2)) := h 0 11 (by decide)
  intro c i e
  have hz := h c i e
  unfold y_briB
  rw [z8, nI_clamp (by omega)]
  by_cases a1 : c = 0 ∧ i = 8
  · rw [a1.1, a1.2, ch_bw_at, nI_1]
    rfl
  · have b1 : ∀ B v, ch_bw B 0 8 v c i = B c i := fun B v => if_neg (fun z => a1 z)
    rw [b1]
    by_cases a2 : c = 0 ∧ i = 11
    · rw [a2.1, a2.2, ch_bw_at]
      rw [z11, hp]
      obtain rfl | rfl | rfl | rfl | rfl : k = 0 ∨ k = 1 ∨ k = 2 ∨ k = 3 ∨ k = 4 := by omega
      all_goals decide
    · have b2 : ∀ B v, ch_bw B 0 11 v c i = B c i := fun B v => if_neg (fun z => a2 z)
      rw [b2]
      by_cases a3 : c = 3 ∧ i = k
      · rw [a3.1, a3.2, ch_bw_at, hp]
        obtain rfl | rfl | rfl | rfl | rfl : k = 0 ∨ k = 1 ∨ k = 2 ∨ k = 3 ∨ k = 4 := by omega
        all_goals decide
      · have b3 : ∀ B v, ch_bw B 3 k v c i = B c i := fun B v => if_neg (fun z => a3 z)
        rw [b3, hz]
        unfold e_Y
        by_cases c0 : c = 0
        · rw [if_pos c0, if_pos c0, if_neg (fun z => a1 ⟨c0, z⟩), if_neg (fun z => a1 ⟨c0, z⟩), if_neg (show ¬ i = 11 from fun z => a2 ⟨c0, z⟩), if_neg (show ¬ i = 11 from fun z => a2 ⟨c0, z⟩)]
        · rw [if_neg c0, if_neg c0]
          by_cases c1 : c = 1
          · rw [if_pos c1, if_pos c1]
          · rw [if_neg c1, if_neg c1]
            by_cases c2 : c = 2
            · rw [if_pos c2, if_pos c2]
            · rw [if_neg c2, if_neg c2]
              by_cases c3 : c = 3
              · rw [if_pos c3, if_pos c3]
                by_cases i0 : i = 0
                · rw [if_pos i0, if_pos i0, if_neg (show ¬ k = 0 from fun z => a3 ⟨c3, i0.trans z.symm⟩), if_neg (by omega)]
                · rw [if_neg i0, if_neg i0]
                  by_cases ik : i < k
                  · rw [if_pos ik, if_pos (by omega)]
                  · rw [if_neg ik, if_neg (show ¬ i < k + 1 from fun z => a3 ⟨c3, by omega⟩)]
              · rw [if_neg c3, if_neg c3]
theorem e_cha {j : Nat} (hj : j < 12) {Z : ch_B} (h : y_sm (e_Y 5 j) Z) : r_wc Z 0 (nI j) = (0, 0) ∧ y_sm (e_Y 5 (j + 1)) (y_chaB Z 0 (nI j)) ∧ y_chv Z (nI j) = 5 := by
  have z8 : Z 0 8 = nI 5 := h 0 8 (by decide)
  have z10 : Z 0 10 = nI j := h 0 10 (by decide)
  have z1 : Z 1 j = -1 := by
    rw [h 1 j (y_rl12 (Or.inl rfl) hj)]
    show (if j < j then (0 : Int32) else -1) = -1
    rw [if_neg (by omega)]
  have z2 : Z 2 j = 0 := by
    rw [h 2 j (y_rl12 (Or.inr rfl) hj)]
    show (if j < j then (5 : Int32) else 0) = 0
    rw [if_neg (by omega)]
  have z3 : Z 3 0 = nI (99 - j) := h 3 0 (by decide)
  have hv : y_chv Z (nI j) = 5 := by
    unfold y_chv
    rw [nI_clamp (by omega), if_pos z1]
  refine ⟨?_, ?_, hv⟩
  · unfold r_wc
    rw [if_pos ⟨Int32.le_refl _, by rw [z8]; decide⟩, if_pos ⟨nI_pos' (by omega), nI_le (b := 11) (by omega) (by decide)⟩, nI_clamp (by omega), if_pos (Or.inl z1), z2, if_pos (by decide)]
    have e0 : Int32.toNatClampNeg 0 = 0 := by decide
    rw [e0, z3, if_pos (show (1 : Int32) ≤ nI (99 - j) from nI_le (a := 1) (by omega) (by omega))]
  · intro c i e
    have hz := h c i e
    unfold y_chaB
    have e0 : Int32.toNatClampNeg 0 = 0 := by decide
    rw [hv, e0, nI_clamp (by omega), z10, z3]
    by_cases a1 : c = 1 ∧ i = j
    · rw [a1.1, a1.2, ch_bw_at]
      show (0 : Int32) = if j < j + 1 then (0 : Int32) else -1
      rw [if_pos (by omega)]
    · have b1 : ∀ B v, ch_bw B 1 j v c i = B c i := fun B v => if_neg (fun z => a1 z)
      rw [b1]
      by_cases a2 : c = 2 ∧ i = j
      · rw [a2.1, a2.2, ch_bw_at]
        show (5 : Int32) = if j < j + 1 then (5 : Int32) else 0
        rw [if_pos (by omega)]
      · have b2 : ∀ B v, ch_bw B 2 j v c i = B c i := fun B v => if_neg (fun z => a2 z)
        rw [b2]
        by_cases a3 : c = 0 ∧ i = 10
        · rw [a3.1, a3.2, ch_bw_at, nI_1]
          rfl
        · have b3 : ∀ B v, ch_bw B 0 10 v c i = B c i := fun B v => if_neg (fun z => a3 z)
          rw [b3]
          by_cases a4 : c = 3 ∧ i = 0
          · rw [a4.1, a4.2, ch_bw_at]
            show nI (99 - j) - 1 = nI (99 - (j + 1))
            rw [nI_m1 (by omega), show 99 - j - 1 = 99 - (j + 1) by omega]
          · have b4 : ∀ B v, ch_bw B 3 0 v c i = B c i := fun B v => if_neg (fun z => a4 z)
            rw [b4, hz]
            unfold e_Y
            by_cases c0 : c = 0
            · rw [if_pos c0, if_pos c0]
              by_cases i8 : i = 8
              · rw [if_pos i8, if_pos i8]
              · rw [if_neg i8, if_neg i8, if_neg (show ¬ i = 10 from fun z => a3 ⟨c0, z⟩), if_neg (show ¬ i = 10 from fun z => a3 ⟨c0, z⟩)]
            · rw [if_neg c0, if_neg c0]
              by_cases c1 : c = 1
              · rw [if_pos c1, if_pos c1]
                by_cases ij : i < j
                · rw [if_pos ij, if_pos (by omega)]
                · rw [if_neg ij, if_neg (show ¬ i < j + 1 from fun z => a1 ⟨c1, by omega⟩)]
              · rw [if_neg c1, if_neg c1]
                by_cases c2 : c = 2
                · rw [if_pos c2, if_pos c2]
                  by_cases ij : i < j
                  · rw [if_pos ij, if_pos (by omega)]
                  · rw [if_neg ij, if_neg (show ¬ i < j + 1 from fun z => a2 ⟨c2, by omega⟩)]
                · rw [if_neg c2, if_neg c2]
                  by_cases c3 : c = 3
                  · rw [if_pos c3, if_pos c3, if_neg (show ¬ i = 0 from fun z => a4 ⟨c3, z⟩), if_neg (show ¬ i = 0 from fun z => a4 ⟨c3, z⟩)]
                  · rw [if_neg c3, if_neg c3]
theorem e_q12 : x_coR (y_can (e_Y 5 12)) 0 0 = 87 ∧ (y_lr (y_can (e_Y 5 12) 1) 0 12).1 = 12 ∧ (y_lr (y_can (e_Y 5 12) 1) (-1) 12).1 = 0 := by decide +kernel
theorem e_a1 : x_acR (y_can (e_Y 5 0)) 0 0 1 = 109 := by decide +kernel
theorem e_a3 : x_acR (y_can (e_Y 5 11)) 0 0 3 = 11 ∧ x_acR (y_can (e_Y 5 9)) 0 0 3 = 9 ∧ x_acR (y_can (e_Y 5 4)) 0 0 3 = 4 ∧ x_coR (y_can (e_Y 5 4)) 0 0 = 95 := by decide +kernel
theorem e_a0 : x_acR (y_can (e_Y 0 0)) 0 0 0 = 0 ∧ x_acR (y_can (e_Y 0 0)) 0 0 3 = 0 ∧ x_acR (y_can (e_Y 0 0)) 0 0 2 = 0 := by decide +kernel
