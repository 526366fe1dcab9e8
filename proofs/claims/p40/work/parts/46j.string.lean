theorem arrV_cg {c : ClassId} {n : Nat} {f f' : Nat → Value} (h : ∀ j, j < n → f j = f' j) : arrV c n f = arrV c n f' := by
  have e : (arrV c n f).slots = (arrV c n f').slots := by
    refine Array.ext_getElem? (fun i => ?_)
    by_cases hi : i < n
    · rw [arrV_read _ _ hi, arrV_read _ _ hi, h i hi]
    · rw [Array.getElem?_eq_none (by rw [arrV_size]; omega), Array.getElem?_eq_none (by rw [arrV_size]; omega)]
  have e2 : arrV c n f = { arrV c n f' with slots := (arrV c n f).slots } := rfl
  rw [e2, e]
section BST
variable {g : ch_G} {f : ch_MI} {R : Room} {E : ch_En} {pc : Nat} {ls : ch_LT} {rest : List ch_V} {mem : ch_M} {k : Nat}
/-- toString of the builder: a text more -/
theorem bu_str {idx n a : Nat} (hd : decode (ch_bc f) pc = .ok (.invokevirtual idx, 3)) (hsv : ch_SV n_b_toString (ch_nm f).cls idx 0) (hxi : ∀ x, ch_xi g x → x.1 = 14) (ha : (ch_H0 g).size ≤ a) (hok : bu_ok mem n) (hn : n < 16) (hlsg : ∀ o ∈ ls, ∀ v, o = some v → ch_ok g v) (hrg : ∀ v ∈ rest, ch_ok g v) (hRR : ch_RR R 7) (hcat : (rest.map ch_cat).sum ≤ 8) (hcs : k + 4 ≤ R.cells ∧ 6 * k + 6 * 4 ≤ R.slots)
    (nx : ∀ (H : Heap) (bs : List Int32) (b : Nat), bs.length = n → (∀ (m : ch_M) (H1 : Heap), ch_Rp (ch_tw g H bs b) m H1 → ch_Rp g m H1) → ch_J (ch_tw g H bs b) f R E (pc + 3) ls (.inr (12, (ch_tx g).length, 0) :: rest) mem (k + 4)) : ch_J (ch_ex g 9 a) f R E pc ls (.inr (9, 0, 0) :: rest) mem k := by
  intro p e s m args below meth c K locs lm hF hR hS ho hs hL
  have hx9 : ∀ x, ch_xi g x → x.1 ≠ 9 := fun x hx => by rw [hxi x hx]; decide
  have hx10 : ∀ x, ch_xi (ch_ex g 9 a) x → x.1 ≠ 10 := fun x hx => by
    rcases hx with h | h | h
    · rw [hxi x h]; decide
    · rw [h]; exact (by decide : (9 : Nat) ≠ 10)
    · rw [h]; exact (by decide : (9 : Nat) ≠ 10)
  have hszb : (ch_H0 (ch_ex g 9 a)).size ≤ K.size := ch_Rp_sz hR
  have hsz : (ch_H0 g).size ≤ K.size := hszb
  have hfxb : ∀ q, ch_fx (ch_ex (ch_ex g 9 a) 10 K.size) q ↔ ch_fx (ch_ex g 9 a) q := fun q => ch_ex_fx (by decide) hx10 hszb
  have hW : st_W (ch_ex (ch_ex g 9 a) 10 K.size) K := ⟨hR.1, (ch_Rp_b hR).2, fun q hq => by
    have hq' := (hfxb q).mp hq
    have : q < (ch_H0 g).size := hq'.1
    exact ⟨by omega, hR.2.1 q hq'⟩⟩
  have i0 : ch_inx (ch_ex g 9 a) (9, 0, 0) := Or.inr (Or.inr (Or.inl rfl))
  have i1 : ch_inx (ch_ex g 9 a) (9, 0, 1) := Or.inr (Or.inr (Or.inr rfl))
  have b0 : ch_adr (ch_ex (ch_ex g 9 a) 10 K.size) (9, 0, 0) = ch_adr (ch_ex g 9 a) (9, 0, 0) := ch_ex_adr (by decide : (9 : Nat) ≠ 10)
  have b1 : ch_adr (ch_ex (ch_ex g 9 a) 10 K.size) (9, 0, 1) = ch_adr (ch_ex g 9 a) (9, 0, 1) := ch_ex_adr (by decide : (9 : Nat) ≠ 10)
  have a0 : ch_adr (ch_ex (ch_ex g 9 a) 10 K.size) (10, 0, 0) = K.size := ch_ex_0 (by decide)
  have a1 : ch_adr (ch_ex (ch_ex g 9 a) 10 K.size) (10, 0, 1) = K.size + 1 := ch_ex_1 (by decide)
  have hc : cb_c (ch_ex (ch_ex g 9 a) 10 K.size) (.inl (9, ch_gv mem 9 0)) (ch_adr (ch_ex (ch_ex g 9 a) 10 K.size) (9, 0, 0)) K := by
    obtain ⟨r, hr, hob⟩ := hR.2.2.1 (9, 0, 0) i0
    refine ⟨r, hr, ?_⟩
    rw [b0]
    refine hob.to (fun q _ => ?_)
    unfold ch_gv
    by_cases e : q = 0
    · have e2 : ch_rf 9 q 0 = some (9, 0, 1) := if_pos e
      rw [e2]
      show Value.ref (ch_adr (ch_ex g 9 a) (9, 0, 1)) = Value.ref (ch_adr (ch_ex (ch_ex g 9 a) 10 K.size) (9, 0, 1))
      rw [b1]
    · have e2 : ch_rf 9 q 0 = none := if_neg e
      rw [e2]
      rfl
  have hB : K[ch_adr (ch_ex (ch_ex g 9 a) 10 K.size) (9, 0, 1)]? = some (vp_cell (ch_cA g 5) (16, .inl (mem (9, 0, 1)))) := by
    rw [b1]
    exact hR.2.2.1 (9, 0, 1) i1
  have hV1 : ch_gv mem 9 0 1 = .inl (.int 0) := by
    show (Sum.inl (Value.int (mem (9, 0, 0) 1)) : ch_V) = _
    rw [hok.1]
  have hV3 : ch_gv mem 9 0 3 = .inl (.int (nI n)) := by
    show (Sum.inl (Value.int (mem (9, 0, 0) 3)) : ch_V) = _
    rw [hok.2.1]
  have o9 : ch_ok (ch_ex (ch_ex g 9 a) 10 K.size) (.inr (9, 0, 1)) := (ch_ex_ok (Or.inr rfl) hx10 ch_ex_ok1).1
  have hlt : ∀ x, ch_inx g x → ch_adr g x < K.size := fun x hx => by
    have h1 := ch_cell_lt (hR.2.2.1 x (hx.elim Or.inl (fun z => Or.inr (Or.inl z))))
    rw [ch_ex_adr (by have := ch_inx_lo hxi hx; omega)] at h1
    exact h1
  have hgw : ∀ x, ch_inx g x → ch_lo g ≤ ch_adr g x := fun x hx => by
    have h1 := hR.2.2.2.2.1 x (hx.elim Or.inl (fun z => Or.inr (Or.inl z)))
    rw [ch_ex_adr (by have := ch_inx_lo hxi hx; omega)] at h1
    exact h1
  have kk : cb_J (ch_ex (ch_ex g 9 a) 10 K.size) f R E (pc + 3) ls (.inr (10, 0, 0) :: rest) (st_H (ch_ex (ch_ex g 9 a) 10 K.size) K 2 (q_T n (mem (9, 0, 1)))) (k + 4) := by
    intro p2 e2 s2 m2 args2 below2 meth2 c2 H2 locs2 lm2 hF2 hN2 hP2 hS2 ho2 hs2 hL2
    have hFg : ch_FR g f p2 s2 m2 args2 meth2 c2 := ch_ex_FRr (Or.inl rfl) hx9 ha (ch_ex_FRr (Or.inr rfl) hx10 hszb hF2)
    obtain ⟨z1, z2, z3⟩ := hP2
    obtain ⟨r, hr, hob⟩ := z3 0 (by decide)
    have hr' : r = (ch_R10, ch_F10, 4) := (Option.some.inj hr).symm
    subst hr'
    have hbsc : H2[K.size + 1]? = some (arrV (ch_cA g 5) n (fun q => .int (va_cpy (mem (9, 0, 1)) (fun _ => 0) 0 0 n q))) := z3 1 (by decide)
    have hbl : ((List.range n).map (fun q => va_cpy (mem (9, 0, 1)) (fun _ => 0) 0 0 n q)).length = n := by rw [List.length_map, List.length_range]
    generalize hbs : (List.range n).map (fun q => va_cpy (mem (9, 0, 1)) (fun _ => 0) 0 0 n q) = bs at hbl
    have hbe : ∀ j, j < n → bs.getD j 0 = va_cpy (mem (9, 0, 1)) (fun _ => 0) 0 0 n j := fun j hj => by
      rw [← hbs, List.getD_eq_getElem?_getD, List.getElem?_map, List.getElem?_range hj]
      rfl
    have hbsc2 : H2[K.size + 1]? = some (arrV (ch_cA g 5) bs.length (fun j => .int (bs.getD j 0))) := by
      rw [hbsc, hbl]
      congr 1
      exact arrV_cg (fun j hj => by rw [hbe j hj])
    have hH2 : ∀ q, ch_fx g q → H2[q]? = (ch_H0 g)[q]? := fun q hq => by
      have : q < (ch_H0 g).size := hq.1
      exact (z2 q (by omega)).trans (hR.2.1 q ((ch_ex_fx (by decide) hx9 ha).mpr hq))
    have hRb : ch_Rp (ch_ex g 9 a) mem H2 := ch_Rp_kept hR (by omega) z2
    have hFt := ch_tw_FR (H := H2) (bs := bs) (b := K.size) hxi hFg (by omega) hH2 (by have := hR.1; exact Nat.le_trans this (by omega)) hgw (by omega) hsz hlt hob (by show Value.ref (ch_adr _ (10, 0, 1)) = _; rw [a1]) rfl hbsc2 (by rw [hbl]; omega)
    have okt : ∀ v, ch_ok g v → ch_ok (ch_tw g H2 bs K.size) v ∧ ch_tr (ch_tw g H2 bs K.size) v = ch_tr (ch_ex (ch_ex g 9 a) 10 K.size) v := fun v hv => by
      obtain ⟨w1, w2⟩ := ch_ex_ok (a := a) (Or.inl rfl) hx9 hv
      obtain ⟨w3, w4⟩ := ch_ex_ok (a := K.size) (Or.inr rfl) hx10 w1
      rw [w4, w2]
      cases v with
      | inl v => exact ⟨ch_okl, rfl⟩
      | inr x =>
        have hx := hv x rfl
        refine ⟨fun y hy => ?_, ?_⟩
        · cases hy
          rcases hx with hx | hx | ⟨i, hi, hx⟩ | hx
          · exact Or.inl hx
          · exact Or.inr (Or.inl hx)
          · exact Or.inr (Or.inr (Or.inl ⟨i, by show i < (ch_tx g ++ [bs]).length; rw [List.length_append]; omega, hx⟩))
          · exact Or.inr (Or.inr (Or.inr hx))
        · show Value.ref _ = Value.ref _
          congr 1
          rcases hx with hx | hx | ⟨i, hi, hx⟩ | ⟨i, hi, hx⟩
          · exact ch_tw_adr (ch_inx_lo hxi hx)
          · subst hx
            exact ch_tw_xa (fun z => absurd (show (11 : Nat) = 12 from congrArg Prod.fst z) (by decide)) (fun z => absurd (show (11 : Nat) = 13 from congrArg Prod.fst z) (by decide))
          · rcases hx with hx | hx
            · subst hx
              exact ch_tw_xa (fun z => absurd (show i = (ch_tx g).length from congrArg (fun y => y.2.1) z) (by omega)) (fun z => absurd (show (12 : Nat) = 13 from congrArg Prod.fst z) (by decide))
            · subst hx
              exact ch_tw_xa (fun z => absurd (show (13 : Nat) = 12 from congrArg Prod.fst z) (by decide)) (fun z => absurd (show i = (ch_tx g).length from congrArg (fun y => y.2.1) z) (by omega))
          · subst hx
            exact ch_tw_xa (fun z => absurd (show (15 : Nat) = 12 from congrArg Prod.fst z) (by decide)) (fun z => absurd (show (15 : Nat) = 13 from congrArg Prod.fst z) (by decide))
    have hst : ((.inr (12, (ch_tx g).length, 0) :: rest : List ch_V).map (ch_tr (ch_tw g H2 bs K.size))) = (.inr (10, 0, 0) :: rest : List ch_V).map (ch_tr (ch_ex (ch_ex g 9 a) 10 K.size)) := by
      rw [List.map_cons, List.map_cons]
      congr 1
      · show Value.ref (ch_adr _ _) = Value.ref (ch_adr _ _)
        rw [a0]
        show Value.ref (ch_xa _ _) = _
        rw [ch_tw_x12]
      · exact List.map_congr_left (fun v hv => (okt v (hrg v hv)).2)
    rw [← hst]
    refine nx H2 bs K.size hbl (fun m1 H1 h1 => ch_tw_back hxi (by omega) hH2 h1) p2 e2 s2 m2 args2 below2 meth2 c2 H2 locs2 lm2 hFt (ch_tw_Rp hxi hRb) hS2 (fun o ho' v hv => (okt v (hlsg o ho' v hv)).1) (fun v hv => ?_) ⟨hL2.1, hL2.2.1, fun i v hv => ?_⟩
    · rcases List.mem_cons.mp hv with h | h
      · rw [h]
        intro y hy
        cases hy
        exact Or.inr (Or.inr (Or.inl ⟨_, by show (ch_tx g).length < (ch_tx g ++ [bs]).length; rw [List.length_append]; exact Nat.lt_succ_self _, Or.inl rfl⟩))
      · exact (okt v (hrg v h)).1
    · rw [(okt v (hlsg _ (List.mem_of_getElem? hv) v rfl)).2]
      exact hL2.2.2 i v hv
  have J : cb_J (ch_ex (ch_ex g 9 a) 10 K.size) f R E pc ls (.inr (9, 0, 0) :: rest) (st_H (ch_ex (ch_ex g 9 a) 10 K.size) K 0 (fun _ => .inl (0, fun _ => .inl .null))) k :=
    gx_callC (f' := n_b_toString) (C := "java/lang/StringBuilder") (v := some (.inr (10, 0, 0))) hd hsv ni_b_toString (bu_selW ne_b_toString) rfl rfl (fun H hH => cb_c_kept hc (hH.2.1 _ (by obtain ⟨r, hr, cell, q1, -⟩ := hc; exact (Array.getElem?_eq_some_iff.mp q1).1))) hRR hcat hcs (st_W_b hW) (k_b_toString hW hn hc rfl hV1 hV3 hB hok.2.2.2 a0 a1 o9 ch_ex_ok0 ch_ex_ok1) (fun w z => by cases z; exact ch_ex_ok0) kk
  obtain ⟨hL', ho'⟩ := ch_LR_ex (a := K.size) (Or.inr rfl) hx10 ho hL
  obtain ⟨hm, hs'⟩ := ch_map_ex (a := K.size) (Or.inr rfl) hx10 hs
  rw [← hm]
  exact J p e s m args below meth c K locs lm (ch_ex_FR (Or.inr rfl) hx10 hszb hF) (ch_Rp_b hR).1 ⟨rfl, fun q _ => rfl, fun i hi => absurd hi (Nat.not_lt_zero i)⟩ hS ho' hs' hL'
end BST
