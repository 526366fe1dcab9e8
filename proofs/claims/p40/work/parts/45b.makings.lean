section MAKINGS
variable {g : ch_G} {R : Room} {E : ch_En}
set_option maxHeartbeats 1600000 in
theorem l_0 (hR : ch_RR R 18) (hC : 120000 ≤ R.cells ∧ 720000 ≤ R.slots) (hx : ∀ a, ¬ ch_xi g a) (hlo : ch_lo g ≤ ch_base g) (hb : (ch_H0 g).size = ch_base g) (D : Nat → cb_d)
    (nx : ∀ k, k ≤ 300 → ch_J g m_l_law R E 8 (e_L none none none none none none none none none) [] cb_M k) : cb_J g m_l_law R E 0 [some (.inr (11, 0, 0)), none, none, none, none, none, none, none, none, none, none] [] (cb_H g 0 D) 0 := by
  have h0 : ch_in (0, 0, 0) := cb_in (by decide) (by decide) (by decide) (by decide)
  refine cb_new (ci := 0) (j := 0) (N := 14) (T := ch_F0) (k' := 3) ch_T0 ch_Cl0 ty_0 d_l_law_0 cl_l_law_8 in_0.1 in_0.2 rfl h0 ⟨by decide, by decide⟩ ⟨by omega, by omega⟩ ?_
  refine cb_dup d_l_law_3 rfl ?_
  refine cb_call (f' := n_x_init) d_l_law_4 nl_l_law_278 ni_x_init rfl rfl rfl (ch_hR hR (Nat.le_of_ble_eq_true rfl)) (Nat.le_of_ble_eq_true rfl) ⟨by show 3 + 201 ≤ _; omega, by show 6 * 3 + 6 * 201 ≤ _; omega⟩ (fun H h => by rw [h.1]; exact Nat.le_add_right _ _) (k_x_init g _) ?_
  refine cb_J_imp (P' := cb_H g 126 cb_T) (fun H h => cb_H_cong h (fun i hi => (if_neg (Nat.not_lt_zero i)).symm)) ?_
  refine cb_astore_n (i := 1) (ls' := e_L none none none none none none none none none) d_l_law_7 rfl (Nat.le_of_ble_eq_true rfl) rfl ?_
  exact cb_J_imp (fun H h => cb_fin hx hlo hb h) (cb_J_of (nx (3 + 201) (by omega)))
set_option maxHeartbeats 1600000 in
theorem l_479a (hR : ch_RR R 18) (hC : 120000 ≤ R.cells ∧ 720000 ≤ R.slots) (hx : ∀ a, ¬ ch_xi g a) (hlo : ch_lo g ≤ ch_base g) (hb : (ch_H0 g).size = ch_base g) (D : Nat → cb_d) (k : Nat) (hk : k ≤ 40000)
    (nx : ∀ k, k ≤ 40500 → ch_J g m_l_law R E 487 [some (.inr (11, 0, 0)), none, some (.inr (0, 0, 0)), none, none, none, none, none, none, none, none] [] cb_M k) : cb_J g m_l_law R E 479 [some (.inr (11, 0, 0)), none, none, none, none, none, none, none, none, none, none] [] (cb_H g 0 D) k := by
  have h0 : ch_in (0, 0, 0) := cb_in (by decide) (by decide) (by decide) (by decide)
  refine cb_new (ci := 0) (j := 0) (N := 14) (T := ch_F0) (k' := k + 3) ch_T0 ch_Cl0 ty_0 d_l_law_479 cl_l_law_8 in_0.1 in_0.2 rfl h0 ⟨by omega, by omega⟩ ⟨by omega, by omega⟩ ?_
  refine cb_dup d_l_law_482 rfl ?_
  refine cb_call (f' := n_x_init) d_l_law_483 nl_l_law_278 ni_x_init rfl rfl rfl (ch_hR hR (Nat.le_of_ble_eq_true rfl)) (Nat.le_of_ble_eq_true rfl) ⟨by show k + 3 + 201 ≤ _; omega, by show 6 * (k + 3) + 6 * 201 ≤ _; omega⟩ (fun H h => by rw [h.1]; exact Nat.le_add_right _ _) (k_x_init g _) ?_
  refine cb_J_imp (P' := cb_H g 126 cb_T) (fun H h => cb_H_cong h (fun i hi => (if_neg (Nat.not_lt_zero i)).symm)) ?_
  refine cb_astore_n (i := 2) (ls' := [some (.inr (11, 0, 0)), none, some (.inr (0, 0, 0)), none, none, none, none, none, none, none, none]) d_l_law_486 rfl (Nat.le_of_ble_eq_true rfl) rfl ?_
  exact cb_J_imp (fun H h => cb_fin hx hlo hb h) (cb_J_of (nx (k + 3 + 201) (by omega)))
/-- the second object is made: another world over the same heap -/
theorem l_479 (hR : ch_RR R 18) (hC : 120000 ≤ R.cells ∧ 720000 ≤ R.slots) (hfx : ∀ q, ch_fx g q → q < ch_lo g) (hl0 : ch_lo g ≤ (ch_H0 g).size)
    (nx : ∀ (H : Heap) (k : Nat), ch_lo g ≤ H.size → (∀ q, q < ch_lo g → H[q]? = (ch_H0 g)[q]?) → k ≤ 40500 → ch_J (ch_re g H H.size (ch_xa g) (fun _ => False)) m_l_law R E 487 [some (.inr (11, 0, 0)), none, some (.inr (0, 0, 0)), none, none, none, none, none, none, none, none] [] cb_M k)
    (m : ch_M) (k : Nat) (o1 o2 o3 o4 o5 o6 o7 o8 o9 o10 : Option ch_V) (hk : k ≤ 40000) : ch_J g m_l_law R E 479 [some (.inr (11, 0, 0)), o1, o2, o3, o4, o5, o6, o7, o8, o9, o10] [] m k := by
  intro p e s mm args below meth c H locs lm hF hRp hS ho hs hL
  have hlo : ch_lo g ≤ H.size := hRp.1
  have hH : ∀ q, q < ch_lo g → H[q]? = (ch_H0 g)[q]? := fun q hq => hRp.2.1 q ⟨by omega, fun a ha e => by
    have h1 := hRp.2.2.2.2.1 a ha
    rw [e] at h1
    omega⟩
  have hw : ∀ a, ch_inx (ch_re g H H.size (ch_xa g) (fun _ => False)) a → ch_lo g ≤ ch_adr (ch_re g H H.size (ch_xa g) (fun _ => False)) a := fun a ha => by
    rcases ha with ha | ha
    · rw [ch_adr_in ha]
      exact Nat.le_trans hlo (Nat.le_add_right _ _)
    · exact absurd ha id
  have hF' := ch_FR_re (b := H.size) (xa := ch_xa g) (xi := fun _ => False) hF hfx hH hlo (fun _ _ => rfl) hw
  have J := l_479a (g := ch_re g H H.size (ch_xa g) (fun _ => False)) (R := R) (E := E) hR hC (fun _ z => z) hlo rfl (fun _ => .inl (0, fun _ => .inl .null)) k hk (fun k hk => nx H k hlo hH hk)
  refine J p e s mm args below meth c H locs lm hF' hlo ⟨rfl, fun q _ => rfl, fun i hi => absurd hi (Nat.not_lt_zero i)⟩ hS ?_ (fun v hv => by cases hv) ⟨hL.1, hL.2.1, fun i v hv => ?_⟩
  · intro o ho' v hv
    simp only [List.mem_cons, List.not_mem_nil, or_false] at ho'
    rcases ho' with z | z | z | z | z | z | z | z | z | z | z
    · subst z
      cases hv
      intro a ha
      cases ha
      exact Or.inr (Or.inl rfl)
    all_goals
      subst z
      cases hv
  · cases i with
    | zero =>
      cases hv
      exact hL.2.2 0 (.inr (11, 0, 0)) rfl
    | succ i =>
      exfalso
      have : ∀ i, ([none, none, none, none, none, none, none, none, none, none] : ch_LT)[i]? = some (some v) → False := fun i hi => by
        have := List.mem_of_getElem? hi
        simp at this
      exact this i hv
end MAKINGS
