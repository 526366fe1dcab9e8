/-! the world as it is at the start -/
def cb_M : ch_M := fun a k => if (a.1 = 1 ∧ a.2.2 = 1 ∧ k < 12) ∨ (a.1 = 0 ∧ a.2.2 = 0 ∧ k = 13) ∨ (a.1 = 9 ∧ a.2.2 = 0 ∧ k = 14) then -1 else 0
def cb_e (a : ch_Ad) (t k : Nat) : ch_V := match t with
  | 0 => .inl (.int (cb_M a k))
  | 1 => .inl (.int (cb_M a k))
  | 2 => .inl (.long (cb_M a k).toInt64)
  | 3 => .inl (.double (ch_dv (cb_M a 0) (cb_M a 1)))
  | _ => .inr (1, 4 + k, 0)
def cb_T (i : Nat) : cb_d := match ch_all[i]? with
  | some (ci, j, 0) => .inl (ci, fun k => ch_gv cb_M ci j k)
  | some (ci, j, c + 1) => .inr ((ch_ak ci (c + 1)).1, (ch_ak ci (c + 1)).2, fun k => cb_e (ci, j, c + 1) (ch_ak ci (c + 1)).1 k)
  | none => .inl (0, fun _ => .inl .null)
theorem cb_T_o {ci j : Nat} (h : ch_in (ci, j, 0)) : cb_T (ch_off ci j) = .inl (ci, fun k => ch_gv cb_M ci j k) := by
  have h1 := ch_in_all h
  have h1 : ch_all[ch_off ci j]? = some (ci, j, 0) := h1
  unfold cb_T
  rw [h1]
theorem cb_T_a {ci j c : Nat} (h : ch_in (ci, j, c + 1)) : cb_T (ch_off ci j + (c + 1)) = .inr ((ch_ak ci (c + 1)).1, (ch_ak ci (c + 1)).2, fun k => cb_e (ci, j, c + 1) (ch_ak ci (c + 1)).1 k) := by
  have h1 : ch_all[ch_off ci j + (c + 1)]? = some (ci, j, c + 1) := ch_in_all h
  unfold cb_T
  rw [h1]
theorem cb_fin {g : ch_G} {H : Heap} (h : cb_H g 140 cb_T H) : ch_Rp g cb_M H := by
  obtain ⟨h1, h2, h3⟩ := h
  refine ⟨by omega, h2, fun a ha => ?_⟩
  obtain ⟨ci, j, c⟩ := a
  have hlt := ch_in_lt ha
  have hc := h3 _ hlt
  cases c with
  | zero =>
    have e : cb_T (ch_off ci j + 0) = _ := cb_T_o ha
    have hc : cb_c g (cb_T (ch_off ci j + 0)) (ch_base g + (ch_off ci j + 0)) H := hc
    rw [e] at hc
    obtain ⟨r, hr, hob⟩ := hc
    refine ⟨r, hr, ?_⟩
    rw [ch_adr_in ha]
    exact hob
  | succ c =>
    have e := cb_T_a ha
    have hc : cb_c g (cb_T (ch_off ci j + (c + 1))) (ch_base g + (ch_off ci j + (c + 1))) H := hc
    rw [e] at hc
    have hc : H[ch_base g + (ch_off ci j + (c + 1))]? = some (arrV (ch_cA g (ch_ak ci (c + 1)).1) (ch_ak ci (c + 1)).2 (fun k => ch_tr g (cb_e (ci, j, c + 1) (ch_ak ci (c + 1)).1 k))) := hc
    show H[ch_adr g (ci, j, c + 1)]? = _
    rw [ch_adr_in ha]
    refine hc.trans ?_
    congr 2
    funext k
    generalize (ch_ak ci (c + 1)).1 = t
    rcases t with _ | _ | _ | _ | t <;> rfl
/-- an object whose first q fields are as they are at the end, and what lies behind it -/
def cb_S (D : Nat → cb_d) (ci j q : Nat) : Nat → cb_d := fun i => if i < ch_off ci j then D i else if i = ch_off ci j then .inl (ci, fun k => if k < q then ch_gv cb_M ci j k else cb_0 ci k) else cb_T i
theorem cb_S_0 (D : Nat → cb_d) (ci j : Nat) : ∀ i, i < ch_off ci j + 1 → cb_S D ci j 0 i = if i = ch_off ci j then .inl (ci, cb_0 ci) else D i := by
  intro i hi
  unfold cb_S
  by_cases h : i = ch_off ci j
  · rw [if_neg (by omega), if_pos h, if_pos h]
    rfl
  · rw [if_pos (by omega), if_neg h]
theorem cb_S_n {D : Nat → cb_d} {ci j q : Nat} (h : ch_in (ci, j, 0)) (hq : ∀ k, q ≤ k → ch_gv cb_M ci j k = cb_0 ci k) : cb_S D ci j q = fun i => if i < ch_off ci j then D i else cb_T i := by
  funext i
  unfold cb_S
  by_cases h1 : i < ch_off ci j
  · rw [if_pos h1, if_pos h1]
  · rw [if_neg h1, if_neg h1]
    by_cases h2 : i = ch_off ci j
    · rw [if_pos h2, h2, cb_T_o h]
      congr 2
      funext k
      by_cases h3 : k < q
      · rw [if_pos h3]
      · rw [if_neg h3, hq k (by omega)]
    · rw [if_neg h2]
theorem cb_S_up {D : Nat → cb_d} {ci j q q' : Nat} (hl : q ≤ q') (hq : ∀ k, q ≤ k → k < q' → ch_gv cb_M ci j k = cb_0 ci k) : cb_S D ci j q = cb_S D ci j q' := by
  funext i
  unfold cb_S
  congr 4
  funext k
  by_cases h1 : k < q
  · rw [if_pos h1, if_pos (by omega)]
  · by_cases h2 : k < q'
    · rw [if_neg h1, if_pos h2, hq k (by omega) h2]
    · rw [if_neg h1, if_neg h2]
theorem cb_S_set {D : Nat → cb_d} {ci j q : Nat} {v : ch_V} (hv : ch_gv cb_M ci j q = v) : (fun i => if i = ch_off ci j then .inl (ci, fun k => if k = q then v else if k < q then ch_gv cb_M ci j k else cb_0 ci k) else cb_S D ci j q i) = cb_S D ci j (q + 1) := by
  funext i
  unfold cb_S
  by_cases h1 : i = ch_off ci j
  · rw [if_pos h1, if_neg (by omega), if_pos h1]
    congr 2
    funext k
    by_cases h2 : k = q
    · rw [if_pos h2, if_pos (by omega), h2, hv]
    · by_cases h3 : k < q
      · rw [if_neg h2, if_pos h3, if_pos (by omega)]
      · rw [if_neg h2, if_neg h3, if_neg (by omega)]
  · rw [if_neg h1, if_neg h1]
    by_cases h2 : i < ch_off ci j
    · rw [if_pos h2, if_pos h2]
    · rw [if_neg h2, if_neg h2, if_neg h1]
theorem cb_S_at (D : Nat → cb_d) (ci j q : Nat) : cb_S D ci j q (ch_off ci j) = .inl (ci, fun k => if k < q then ch_gv cb_M ci j k else cb_0 ci k) := by
  unfold cb_S
  rw [if_neg (by omega), if_pos rfl]
