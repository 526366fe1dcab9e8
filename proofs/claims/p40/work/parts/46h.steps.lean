/-! from a world to one with a builder, and to one with a text more -/
theorem ch_rf_lo {ci k j : Nat} {b : ch_Ad} (h : ch_rf ci k j = some b) (hc : ci ≤ 8 ∨ ci = 14) : b.1 ≤ 8 := by
  unfold ch_rf at h
  split at h
  · split at h <;> first | (cases h; exact Nat.le_of_ble_eq_true rfl) | cases h
  · split at h
    · cases h
      exact Nat.le_of_ble_eq_true rfl
    · cases h
  · split at h
    · cases h
      exact Nat.le_of_ble_eq_true rfl
    · cases h
  · split at h
    · cases h
      exact Nat.le_of_ble_eq_true rfl
    · cases h
  · split at h
    · cases h
      exact Nat.le_of_ble_eq_true rfl
    · cases h
  · split at h
    · cases h
      exact Nat.le_of_ble_eq_true rfl
    · cases h
  · split at h
    · cases h
      exact Nat.le_of_ble_eq_true rfl
    · cases h
  · omega
  · cases h
/-- a cell of the one world is one of the other -/
theorem ch_cell_tr {g g' : ch_G} {mem mem' : ch_M} {x : ch_Ad} {H H1 : Heap} (hd : ch_dC g' = ch_dC g) (hI : ch_dI g' = ch_dI g) (hA : ch_cA g' = ch_cA g) (hadr : ∀ y : ch_Ad, y.1 ≤ 8 ∨ y.1 = 14 → ch_adr g' y = ch_adr g y) (hx : x.1 ≤ 8 ∨ x.1 = 14) (hm : mem' x = mem x) (hH : H1[ch_adr g x]? = H[ch_adr g x]?) (h : ch_cell g mem x H) : ch_cell g' mem' x H1 := by
  obtain ⟨ci, j, c⟩ := x
  cases c with
  | zero =>
    obtain ⟨r, hr, hob⟩ := h
    refine ⟨r, hr, ?_⟩
    rw [hadr _ hx, hd, hI]
    refine (hob.kept hH).to (fun k hk => ?_)
    unfold ch_gv
    cases hf : ch_rf ci k j with
    | none =>
      show Value.int (mem (ci, j, 0) k) = Value.int (mem' (ci, j, 0) k)
      rw [hm]
    | some b =>
      show Value.ref (ch_adr g b) = Value.ref (ch_adr g' b)
      rw [hadr _ (Or.inl (ch_rf_lo hf hx))]
  | succ c =>
    have h : H[ch_adr g (ci, j, c + 1)]? = some (arrV (ch_cA g (ch_ak ci (c + 1)).1) (ch_ak ci (c + 1)).2 (fun k => ch_ev g mem (ci, j, c + 1) (ch_ak ci (c + 1)).1 k)) := h
    show H1[ch_adr g' (ci, j, c + 1)]? = some (arrV (ch_cA g' (ch_ak ci (c + 1)).1) (ch_ak ci (c + 1)).2 (fun k => ch_ev g' mem' (ci, j, c + 1) (ch_ak ci (c + 1)).1 k))
    rw [hadr _ hx, hH, h, hA]
    congr 2
    funext k
    unfold ch_ev
    rw [hm]
    split
    all_goals first
      | rfl
      | (rw [hadr _ (Or.inl (show (1 : Nat) ≤ 8 by decide))])
theorem ch_inx_lo {g : ch_G} (hxi : ∀ x, ch_xi g x → x.1 = 14) {x : ch_Ad} (h : ch_inx g x) : x.1 ≤ 8 ∨ x.1 = 14 := h.elim (fun h => Or.inl h.1) (fun h => Or.inr (hxi x h))
theorem ch_Rp_b {g : ch_G} {m : ch_M} {H : Heap} (h : ch_Rp g m H) : ch_lo g ≤ ch_base g ∧ ch_base g ≤ H.size := by
  have hin : ch_in (0, 0, 0) := ⟨by decide, by decide, by decide⟩
  have e : ch_adr g (0, 0, 0) = ch_base g := ch_adr_in hin
  have h1 := h.2.2.2.2.1 (0, 0, 0) (Or.inl hin)
  have h2 := ch_cell_lt (h.2.2.1 (0, 0, 0) (Or.inl hin))
  rw [e] at h1 h2
  exact ⟨h1, by omega⟩
/-- the memory with an empty builder -/
def m_9 (m : ch_M) : ch_M := fun x k => if x.1 = 9 then 0 else m x k
theorem m_9_ne {m : ch_M} {x : ch_Ad} (h : x.1 ≠ 9) : m_9 m x = m x := by
  funext k
  exact if_neg h
theorem m_9_9 {m : ch_M} {x : ch_Ad} {k : Nat} (h : x.1 = 9) : m_9 m x k = 0 := if_pos h
theorem m_9_ok (m : ch_M) : bu_ok (m_9 m) 0 := ⟨rfl, rfl, by decide, fun j => by rw [m_9_9 rfl]; decide⟩
theorem ch_Rp_9 {g : ch_G} {m : ch_M} {H H1 : Heap} (hxi : ∀ x, ch_xi g x → x.1 = 14) (h : ch_Rp g m H) (h1 : st_H (ch_ex g 9 H.size) H 2 bu_D1 H1) : ch_Rp (ch_ex g 9 H.size) (m_9 m) H1 := by
  have hsz := ch_Rp_sz h
  have hx9 : ∀ x, ch_xi g x → x.1 ≠ 9 := fun x hx => by rw [hxi x hx]; decide
  have hadr : ∀ y : ch_Ad, y.1 ≤ 8 ∨ y.1 = 14 → ch_adr (ch_ex g 9 H.size) y = ch_adr g y := fun y hy => ch_ex_adr (by omega)
  obtain ⟨z1, z2, z3⟩ := h1
  have c0 := z3 0 (by decide)
  have c1 := z3 1 (by decide)
  have a0 : ch_adr (ch_ex g 9 H.size) (9, 0, 0) = H.size := ch_ex_0 (by decide)
  have a1 : ch_adr (ch_ex g 9 H.size) (9, 0, 1) = H.size + 1 := ch_ex_1 (by decide)
  have hlt : ∀ x, ch_inx g x → ch_adr g x < H.size := fun x hx => ch_cell_lt (h.2.2.1 x hx)
  refine ⟨by have := h.1; show ch_lo g ≤ _; omega, fun q hq => ?_, fun x hx => ?_, fun x y hx hy e => ?_, fun x hx => ?_, fun j hj => ?_, fun x hx => ?_⟩
  · have hq' := (ch_ex_fx (by decide) hx9 hsz).mp hq
    have : q < (ch_H0 g).size := hq'.1
    exact (z2 q (by omega)).trans (h.2.1 q hq')
  · rcases ch_ex_in (by decide) hx9 hx with ⟨hx, hn⟩ | hx | hx
    · exact ch_cell_tr (g := g) rfl rfl rfl hadr (ch_inx_lo hxi hx) (m_9_ne hn) (z2 _ (hlt x hx)) (h.2.2.1 x hx)
    · subst hx
      obtain ⟨r, hr, hob⟩ := c0
      refine ⟨r, hr, ?_⟩
      rw [a0]
      refine hob.to (fun k hk => ?_)
      unfold bu_V1 ch_gv
      by_cases e : k = 0
      · subst e
        rfl
      · have e2 : ch_rf 9 k 0 = none := if_neg e
        rw [if_neg e, e2]
        rfl
    · subst hx
      have c1 : H1[H.size + 1]? = some (arrV (ch_cA g 5) 16 (fun _ => Value.int 0)) := c1
      show H1[ch_adr (ch_ex g 9 H.size) (9, 0, 1)]? = some (arrV (ch_cA g 5) 16 (fun k => Value.int (m_9 m (9, 0, 1) k)))
      rw [a1, c1]
      rfl
  · rcases ch_ex_in (by decide) hx9 hx with ⟨hx, hn⟩ | hx | hx
    · have l1 := hlt x hx
      rcases ch_ex_in (by decide) hx9 hy with ⟨hy, hm⟩ | hy | hy
      · rw [ch_ex_adr hn, ch_ex_adr hm] at e
        exact h.2.2.2.1 x y hx hy e
      · rw [ch_ex_adr hn, hy, a0] at e
        omega
      · rw [ch_ex_adr hn, hy, a1] at e
        omega
    · rcases ch_ex_in (by decide) hx9 hy with ⟨hy, hm⟩ | hy | hy
      · have l1 := hlt y hy
        rw [ch_ex_adr hm, hx, a0] at e
        omega
      · rw [hx, hy]
      · rw [hx, hy, a0, a1] at e
        omega
    · rcases ch_ex_in (by decide) hx9 hy with ⟨hy, hm⟩ | hy | hy
      · have l1 := hlt y hy
        rw [ch_ex_adr hm, hx, a1] at e
        omega
      · rw [hx, hy, a0, a1] at e
        omega
      · rw [hx, hy]
  · have hl := h.1
    show ch_lo g ≤ _
    rcases ch_ex_in (by decide) hx9 hx with ⟨hx, hn⟩ | hx | hx
    · rw [ch_ex_adr hn]
      exact h.2.2.2.2.1 x hx
    · rw [hx, a0]
      exact hl
    · rw [hx, a1]
      omega
  · rcases hj with hj | hj | hj
    · exact absurd (hxi _ hj) (by show ¬ (9 : Nat) = 14; decide)
    · cases hj
      exact Or.inr (Or.inr rfl)
    · cases hj
  · rcases hx with hx | hx | hx
    · exact Or.inr (hxi _ hx)
    · rw [hx]
      exact Or.inl rfl
    · rw [hx]
      exact Or.inl rfl
theorem ch_LR_ex {g : ch_G} {c a n : Nat} {ls : ch_LT} {lm : Array Slot} (hc : c = 9 ∨ c = 10) (hxi : ∀ x, ch_xi g x → x.1 ≠ c) (ho : ∀ o ∈ ls, ∀ v, o = some v → ch_ok g v) (h : ch_LR g n ls lm) : ch_LR (ch_ex g c a) n ls lm ∧ ∀ o ∈ ls, ∀ v, o = some v → ch_ok (ch_ex g c a) v := by
  refine ⟨⟨h.1, h.2.1, fun i v hv => ?_⟩, fun o ho' v hv => ?_⟩
  · rw [(ch_ex_ok (a := a) hc hxi (ho _ (List.mem_of_getElem? hv) v rfl)).2]
    exact h.2.2 i v hv
  · exact (ch_ex_ok hc hxi (ho o ho' v hv)).1
theorem ch_map_ex {g : ch_G} {c a : Nat} {st : List ch_V} (hc : c = 9 ∨ c = 10) (hxi : ∀ x, ch_xi g x → x.1 ≠ c) (hs : ∀ v ∈ st, ch_ok g v) : st.map (ch_tr (ch_ex g c a)) = st.map (ch_tr g) ∧ ∀ v ∈ st, ch_ok (ch_ex g c a) v :=
  ⟨List.map_congr_left (fun v hv => (ch_ex_ok hc hxi (hs v hv)).2), fun v hv => (ch_ex_ok hc hxi (hs v hv)).1⟩
section BUN
variable {g : ch_G} {f : ch_MI} {R : Room} {E : ch_En} {pc : Nat} {ls : ch_LT} {rest : List ch_V} {mem : ch_M} {k : Nat}
/-- a builder is made -/
theorem bu_new {ik ii : Nat} (d0 : decode (ch_bc f) pc = .ok (.new ik, 3)) (d3 : decode (ch_bc f) (pc + 3) = .ok (.dup, 1)) (d4 : decode (ch_bc f) (pc + 4) = .ok (.invokespecial ii, 3)) (hcl : Cond.classLink (ch_nm f).cls ik "java/lang/StringBuilder" ∈ ch_good) (hsv : ch_SV n_b_init (ch_nm f).cls ii 0) (hxi : ∀ x, ch_xi g x → x.1 = 14) (hRR : ch_RR R 3) (hcat : (rest.map ch_cat).sum + 1 ≤ 8) (hcs : k + 4 ≤ R.cells ∧ 6 * (k + 4) ≤ R.slots)
    (nx : ∀ a, (ch_H0 g).size ≤ a → ch_J (ch_ex g 9 a) f R E (pc + 7) ls (.inr (9, 0, 0) :: rest) (m_9 mem) (k + 4)) : ch_J g f R E pc ls rest mem k := by
  intro p e s m args below meth c H locs lm hF hR hS ho hs hL
  have hsz := ch_Rp_sz hR
  have hx9 : ∀ x, ch_xi g x → x.1 ≠ 9 := fun x hx => by rw [hxi x hx]; decide
  have hW : st_W (ch_ex g 9 H.size) H := ⟨hR.1, (ch_Rp_b hR).2, fun q hq => by
    have hq' := (ch_ex_fx (by decide) hx9 hsz).mp hq
    have : q < (ch_H0 g).size := hq'.1
    exact ⟨by omega, hR.2.1 q hq'⟩⟩
  have a0 : ch_adr (ch_ex g 9 H.size) (9, 0, 0) = H.size := ch_ex_0 (by decide)
  have a1 : ch_adr (ch_ex g 9 H.size) (9, 0, 1) = H.size + 1 := ch_ex_1 (by decide)
  have J : cb_J (ch_ex g 9 H.size) f R E pc ls rest (st_H (ch_ex g 9 H.size) H 0 (fun _ => .inl (0, fun _ => .inl .null))) k := by
    refine st_new (k' := k + 1) (V := bu_V0) (a := (9, 0, 0)) ch_T9 ch_Cl9 b_ty d0 hcl nb_b nz_b a0 ch_ex_ok0 ⟨Nat.le_refl _, by omega⟩ ⟨by omega, by omega⟩ ?_
    refine cb_J_imp (P' := st_H (ch_ex g 9 H.size) H 1 (fun _ => .inl (9, bu_V0))) (fun H hH => st_H_cong hH (fun i hi => by rw [if_pos (by omega)])) ?_
    refine cb_dup d3 rfl ?_
    refine gx_callI (f' := n_b_init) (as := []) d4 hsv ni_b_init rfl rfl rfl rfl hRR ?_ ⟨by show k + 1 + 3 ≤ _; omega, by show 6 * (k + 1) + 6 * 3 ≤ _; omega⟩ (st_W_b hW) (k_b_init hW a0 a1 ch_ex_ok0 ch_ex_ok1) ?_
    · show ch_cat (.inr (9, 0, 0)) + (rest.map ch_cat).sum ≤ 8
      show 1 + _ ≤ 8
      omega
    · exact cb_J_imp (fun H1 h1 => ch_Rp_9 hxi hR h1) (cb_J_of (nx H.size hsz))
  obtain ⟨hL', ho'⟩ := ch_LR_ex (a := H.size) (Or.inl rfl) hx9 ho hL
  obtain ⟨hm, hs'⟩ := ch_map_ex (a := H.size) (Or.inl rfl) hx9 hs
  rw [← hm]
  exact J p e s m args below meth c H locs lm (ch_ex_FR (Or.inl rfl) hx9 hsz hF) (ch_Rp_b hR).1 ⟨rfl, fun q _ => rfl, fun i hi => absurd hi (Nat.not_lt_zero i)⟩ hS ho' hs' hL'
end BUN
