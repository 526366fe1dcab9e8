/-! the world as it is at the start -/
def cb_M : ch_M := fun a k => if (a.1 = 1 ∧ a.2.2 = 1 ∧ k < 12) ∨ (a.1 = 0 ∧ a.2.2 = 0 ∧ k = 13) ∨ (a.1 = 9 ∧ a.2.2 = 0 ∧ k = 14) then -1 else 0
def cb_e (a : ch_Ad) (t k : Nat) : ch_V := match t with
  | 0 => .inl (.int (cb_M a k))
  | 1 => .inl (.int (cb_M a k))
  | 2 => .inl (.long (ch_lw (cb_M a (2 * k)) (cb_M a (2 * k + 1))))
  | 3 => .inl .null
  | 4 => .inr (1, 4 + k, 0)
  | _ => .inl (.int (cb_M a k))
def cb_T (i : Nat) : cb_d := match ch_all[i]? with
  | some (ci, j, 0) => .inl (ci, fun k => ch_gv cb_M ci j k)
  | some (ci, j, c + 1) => .inr ((ch_ak ci (c + 1)).1, (ch_ak ci (c + 1)).2, fun k => cb_e (ci, j, c + 1) (ch_ak ci (c + 1)).1 k)
  | none => .inl (0, fun _ => .inl .null)
theorem cb_T_o {ci j : Nat} (h : ch_in (ci, j, 0)) : cb_T (ch_off ci j) = .inl (ci, fun k => ch_gv cb_M ci j k) := by
  have h1 := ch_in_all h
  have h1 : ch_all[ch_off ci j]? = some (ci, j, 0) := h1
  unfold cb_T
  rw [h1]
theorem cb_T_a {ci j c : Nat} (h : ch_in (ci, j, c + 1)) : cb_T (ch_off ci j + (c + 1)) = .inr ((ch_ak ci (c + 1)).1, (ch_ak ci (c + 1)).2, fun k => cb_e (ci, j, c + 1) (ch_ak ci (c + 1)).1 k) := by
  have h1 : ch_all[ch_off ci j + (c + 1)]? = some (ci, j, c + 1) := ch_in_all h
  unfold cb_T
  rw [h1]
theorem cb_fin {g : ch_G} {H : Heap} (hx : ∀ a, ¬ ch_xi g a) (hlo : ch_lo g ≤ ch_base g) (hb : (ch_H0 g).size = ch_base g) (h : cb_H g 126 cb_T H) : ch_Rp g cb_M H := by
  obtain ⟨h1, h2, h3⟩ := h
  have hin : ∀ {a}, ch_inx g a → ch_in a := fun h => h.elim id (fun z => absurd z (hx _))
  refine ⟨by omega, fun q hq => h2 q (by rw [← hb]; exact hq.1), fun a ha => ?_, ⟨fun a b h4 h5 h6 => ch_adr_injm (hin h4) (hin h5) h6, fun a h4 => by rw [ch_adr_in (hin h4)]; exact Nat.le_trans hlo (Nat.le_add_right _ _), fun j h4 => absurd h4 (hx _), fun a h4 => absurd h4 (hx _)⟩⟩
  have ha := hin ha
  obtain ⟨ci, j, c⟩ := a
  have hlt := ch_in_lt ha
  have hc := h3 _ hlt
  cases c with
  | zero =>
    have e : cb_T (ch_off ci j + 0) = _ := cb_T_o ha
    have hc : cb_c g (cb_T (ch_off ci j + 0)) (ch_base g + (ch_off ci j + 0)) H := hc
    rw [e] at hc
    obtain ⟨r, hr, hob⟩ := hc
    refine ⟨r, hr, ?_⟩
    rw [ch_adr_in ha]
    exact hob
  | succ c =>
    have e := cb_T_a ha
    have hc : cb_c g (cb_T (ch_off ci j + (c + 1))) (ch_base g + (ch_off ci j + (c + 1))) H := hc
    rw [e] at hc
    have hc : H[ch_base g + (ch_off ci j + (c + 1))]? = some (arrV (ch_cA g (ch_ak ci (c + 1)).1) (ch_ak ci (c + 1)).2 (fun k => ch_tr g (cb_e (ci, j, c + 1) (ch_ak ci (c + 1)).1 k))) := hc
    show H[ch_adr g (ci, j, c + 1)]? = _
    rw [ch_adr_in ha]
    refine hc.trans ?_
    congr 2
    funext k
    generalize (ch_ak ci (c + 1)).1 = t
    rcases t with _ | _ | _ | _ | _ | t <;> rfl
/-- an object whose first q fields are as they are at the end, and what lies behind it -/
def cb_S (T D : Nat → cb_d) (ci j q : Nat) : Nat → cb_d := fun i => if i < ch_off ci j then D i else if i = ch_off ci j then .inl (ci, fun k => if k < q then ch_gv cb_M ci j k else cb_0 ci k) else T i
theorem cb_S_0 (T D : Nat → cb_d) (ci j : Nat) : ∀ i, i < ch_off ci j + 1 → cb_S T D ci j 0 i = if i = ch_off ci j then .inl (ci, cb_0 ci) else D i := by
  intro i hi
  unfold cb_S
  by_cases h : i = ch_off ci j
  · rw [if_neg (by omega), if_pos h, if_pos h]
    rfl
  · rw [if_pos (by omega), if_neg h]
theorem cb_S_n {D : Nat → cb_d} {ci j q : Nat} (h : ch_in (ci, j, 0)) (hq : ∀ k, q ≤ k → ch_gv cb_M ci j k = cb_0 ci k) : cb_S cb_T D ci j q = fun i => if i < ch_off ci j then D i else cb_T i := by
  funext i
  unfold cb_S
  by_cases h1 : i < ch_off ci j
  · rw [if_pos h1, if_pos h1]
  · rw [if_neg h1, if_neg h1]
    by_cases h2 : i = ch_off ci j
    · rw [if_pos h2, h2, cb_T_o h]
      congr 2
      funext k
      by_cases h3 : k < q
      · rw [if_pos h3]
      · rw [if_neg h3, hq k (by omega)]
    · rw [if_neg h2]
theorem cb_S_up {T D : Nat → cb_d} {ci j q q' : Nat} (hl : q ≤ q') (hq : ∀ k, q ≤ k → k < q' → ch_gv cb_M ci j k = cb_0 ci k) : cb_S T D ci j q = cb_S T D ci j q' := by
  funext i
  unfold cb_S
  congr 4
  funext k
  by_cases h1 : k < q
  · rw [if_pos h1, if_pos (by omega)]
  · by_cases h2 : k < q'
    · rw [if_neg h1, if_pos h2, hq k (by omega) h2]
    · rw [if_neg h1, if_neg h2]
theorem cb_S_set {T D : Nat → cb_d} {ci j q : Nat} {v : ch_V} (hv : ch_gv cb_M ci j q = v) : (fun i => if i = ch_off ci j then .inl (ci, fun k => if k = q then v else if k < q then ch_gv cb_M ci j k else cb_0 ci k) else cb_S T D ci j q i) = cb_S T D ci j (q + 1) := by
  funext i
  unfold cb_S
  by_cases h1 : i = ch_off ci j
  · rw [if_pos h1, if_neg (by omega), if_pos h1]
    congr 2
    funext k
    by_cases h2 : k = q
    · rw [if_pos h2, if_pos (by omega), h2, hv]
    · by_cases h3 : k < q
      · rw [if_neg h2, if_pos h3, if_pos (by omega)]
      · rw [if_neg h2, if_neg h3, if_neg (by omega)]
  · rw [if_neg h1, if_neg h1]
    by_cases h2 : i < ch_off ci j
    · rw [if_pos h2, if_pos h2]
    · rw [if_neg h2, if_neg h2, if_neg h1]
theorem cb_S_at (T D : Nat → cb_d) (ci j q : Nat) : cb_S T D ci j q (ch_off ci j) = .inl (ci, fun k => if k < q then ch_gv cb_M ci j k else cb_0 ci k) := by
  unfold cb_S
  rw [if_neg (by omega), if_pos rfl]
theorem cb_S_be (T D : Nat → cb_d) (ci j q : Nat) {i : Nat} (h : ch_off ci j < i) : cb_S T D ci j q i = T i := by
  unfold cb_S
  rw [if_neg (by omega), if_neg (by omega)]
section CB6
variable {g : ch_G} {f : ch_MI} {R : Room} {E : ch_En} {pc : Nat} {ls : ch_LT} {st : List ch_V} {T T' D : Nat → cb_d} {n k ci j q : Nat}
/-- a new cell is the one that is to stand there -/
theorem cb_nA {d : cb_d} {i0 : Nat} (h : ch_off ci j < i0) (hT : T i0 = d) (kk : cb_J g f R E pc ls st (cb_H g (i0 + 1) (cb_S T D ci j q)) k) : cb_J g f R E pc ls st (cb_H g (i0 + 1) (fun i => if i = i0 then d else cb_S T D ci j q i)) k := by
  refine cb_J_imp (fun H hH => cb_H_cong hH (fun i hi => ?_)) kk
  by_cases e : i = i0
  · rw [if_pos e, e, cb_S_be _ _ _ _ _ h, hT]
  · rw [if_neg e]
theorem cb_nP {v : ch_V} (hv : ch_gv cb_M ci j q = v) (kk : cb_J g f R E pc ls st (cb_H g n (cb_S T D ci j (q + 1))) k) : cb_J g f R E pc ls st (cb_H g n (fun i => if i = ch_off ci j then .inl (ci, fun k => if k = q then v else if k < q then ch_gv cb_M ci j k else cb_0 ci k) else cb_S T D ci j q i)) k := by
  rw [cb_S_set hv]
  exact kk
theorem cb_nT (h : ∀ i, ch_off ci j < i → i < n → T' i = T i) (kk : cb_J g f R E pc ls st (cb_H g n (cb_S T' D ci j q)) k) : cb_J g f R E pc ls st (cb_H g n (cb_S T D ci j q)) k := by
  refine cb_J_imp (fun H hH => cb_H_cong hH (fun i hi => ?_)) kk
  unfold cb_S
  by_cases h1 : i < ch_off ci j
  · rw [if_pos h1, if_pos h1]
  · by_cases h2 : i = ch_off ci j
    · rw [if_neg h1, if_neg h1, if_pos h2, if_pos h2]
    · rw [if_neg h1, if_neg h1, if_neg h2, if_neg h2]
      exact h i (by omega) hi
end CB6
theorem cb_e_0 {ci j c t : Nat} (ht : t < 2) (h : ¬ (ci = 1 ∧ c = 0)) : (fun k => cb_e (ci, j, c + 1) t k) = fun _ => .inl (defaultValue (ch_ty t)) := by
  funext k
  have e : cb_M (ci, j, c + 1) k = 0 := by
    unfold cb_M
    rw [if_neg]
    rintro (⟨h1, h2, -⟩ | ⟨-, h2, -⟩ | ⟨-, h2, -⟩)
    · dsimp only at h1 h2
      exact h ⟨h1, by omega⟩
    · dsimp only at h2
      omega
    · dsimp only at h2
      omega
  unfold cb_e
  match t, ht with
  | 0, _ => rw [e]; rfl
  | 1, _ => rw [e]; rfl
theorem cb_T_0 {ci j c t len : Nat} (h : ch_in (ci, j, c + 1)) (ht : t < 2) (h1 : ¬ (ci = 1 ∧ c = 0)) (ha : ch_ak ci (c + 1) = (t, len)) : cb_T (ch_off ci j + (c + 1)) = .inr (t, len, fun _ => .inl (defaultValue (ch_ty t))) := by
  rw [cb_T_a h, ha]
  dsimp only
  rw [cb_e_0 ht h1]
/-- what a constructor does -/
def cb_K (g : ch_G) (f : ch_MI) (ci j w : Nat) : Prop := ∀ D : Nat → cb_d, cb_C g f [.inr (ci, j, 0)] (cb_H g (ch_off ci j + 1) (fun i => if i = ch_off ci j then .inl (ci, cb_0 ci) else D i)) (cb_H g (ch_off ci j + w) (fun i => if i < ch_off ci j then D i else cb_T i))
theorem cb_gv_0 {ci j k : Nat} (h : ∀ j, ch_rf ci k j = none) (h2 : ¬ (ci = 0 ∧ k = 13) ∧ ¬ (ci = 9 ∧ k = 14)) : ch_gv cb_M ci j k = cb_0 ci k := by
  have e : cb_M (ci, j, 0) k = 0 := by
    unfold cb_M
    rw [if_neg]
    rintro (⟨-, h1, -⟩ | ⟨h1, -, h3⟩ | ⟨h1, -, h3⟩)
    · dsimp only at h1
      omega
    · exact h2.1 ⟨h1, h3⟩
    · exact h2.2 ⟨h1, h3⟩
  unfold ch_gv cb_0
  rw [h j, h 0]
  dsimp only
  rw [e]
  rfl
