/-! a text more -/
def ch_tw (g : ch_G) (H : Heap) (bs : List Int32) (b : Nat) : ch_G := (g.1, H, g.2.2.1, g.2.2.2.1, (fun x => if x = (12, (ch_tx g).length, 0) then b else if x = (13, (ch_tx g).length, 0) then b + 1 else ch_xa g x), ch_xi g, g.2.2.2.2.2.2.1, ch_tx g ++ [bs], g.2.2.2.2.2.2.2.2)
section TW9
variable {g : ch_G} {H : Heap} {bs : List Int32} {b : Nat}
theorem ch_tw_xa {x : ch_Ad} (h : x ≠ (12, (ch_tx g).length, 0)) (h' : x ≠ (13, (ch_tx g).length, 0)) : ch_xa (ch_tw g H bs b) x = ch_xa g x := by
  show (if x = (12, (ch_tx g).length, 0) then b else if x = (13, (ch_tx g).length, 0) then b + 1 else ch_xa g x) = _
  rw [if_neg h, if_neg h']
theorem ch_tw_x12 : ch_xa (ch_tw g H bs b) (12, (ch_tx g).length, 0) = b := if_pos rfl
theorem ch_tw_x13 : ch_xa (ch_tw g H bs b) (13, (ch_tx g).length, 0) = b + 1 := by
  show (if ((13, (ch_tx g).length, 0) : ch_Ad) = (12, (ch_tx g).length, 0) then b else if ((13, (ch_tx g).length, 0) : ch_Ad) = (13, (ch_tx g).length, 0) then b + 1 else _) = _
  rw [if_neg (fun z => absurd (show (13 : Nat) = 12 from congrArg Prod.fst z) (by decide)), if_pos rfl]
theorem ch_tw_adr {x : ch_Ad} (h : x.1 ≤ 8 ∨ x.1 = 14) : ch_adr (ch_tw g H bs b) x = ch_adr g x := by
  unfold ch_adr
  by_cases h8 : x.1 ≤ 8
  · rw [if_pos h8, if_pos h8]
    rfl
  · rw [if_neg h8, if_neg h8]
    exact ch_tw_xa (fun z => by rw [z] at h; simp at h) (fun z => by rw [z] at h; simp at h)
theorem ch_tw_fx (hxi : ∀ x, ch_xi g x → x.1 = 14) (hsz : (ch_H0 g).size ≤ H.size) {q : Nat} (h : ch_fx g q) : ch_fx (ch_tw g H bs b) q := by
  refine ⟨Nat.lt_of_lt_of_le h.1 hsz, fun x hx => ?_⟩
  rw [ch_tw_adr (ch_inx_lo hxi hx)]
  exact h.2 x hx
/-- the cell of the text -/
theorem tw_str {s : State} {args : Array Value} {V : Nat → Value} {A : Nat → Prop} (hts : ∀ w ∈ ch_good, w.before args s = true) (hK : va_K (ch_dC g, ch_dI g) ch_cls (ch_tys g) s) (hob : t_OB b (ch_dC g 10) 4 (ch_dI g 10) H V) (hA : ¬ A b) : va_O "java/lang/String" b A s H ∧ va_OF "java/lang/String" "coder" "B" (V 1) b A s H ∧ va_OF "java/lang/String" "value" "[B" (V 0) b A s H := by
  obtain ⟨cell, c1, c2, c3, c4⟩ := hob
  obtain ⟨hSl, hfc, kC, hkC, hkind⟩ := hK.1 10 _ rfl
  have fld : ∀ k, k < 4 → va_OF (ch_F10 k).1 (ch_F10 k).2.1 (ch_F10 k).2.2.1 (V k) b A s H := fun k hk => by
    obtain ⟨cf, kf, fi, fd, hi, hsl⟩ := hSl k hk
    have hst := (u_facts hfc hkC (u_lays hts ch_Cl10.2.1 hk) hi).1
    exact ⟨cf, kf, fi, fd, cell, hi, hst, c1, (by rw [c3]; exact (fun z => nomatch z)), (by rw [hsl]; exact c4 k hk), hA⟩
  exact ⟨⟨cell, c1, by rw [c3]; rfl, by rw [c2]; exact hfc, hA⟩, fld 1 (by decide), fld 0 (by decide)⟩
theorem ch_tw_FR {f : ch_MI} {p : Program} {s : State} {m : MethodId} {args : Array Value} {meth : Method} {c : Code} {V : Nat → Value} (hxi : ∀ x, ch_xi g x → x.1 = 14) (hF : ch_FR g f p s m args meth c) (hsz : (ch_H0 g).size ≤ H.size) (hH : ∀ q, ch_fx g q → H[q]? = (ch_H0 g)[q]?) (hlo : ch_lo g ≤ H.size) (hgw : ∀ x, ch_inx g x → ch_lo g ≤ ch_adr g x) (hb : b + 1 < H.size) (hb0 : (ch_H0 g).size ≤ b) (hbx : ∀ x, ch_inx g x → ch_adr g x < b) (hob : t_OB b (ch_dC g 10) 4 (ch_dI g 10) H V) (hV0 : V 0 = .ref (b + 1)) (hV1 : V 1 = .int 0) (hbs : H[b + 1]? = some (arrV (ch_cA g 5) bs.length (fun j => .int (bs.getD j 0)))) (hl : bs.length < 2 ^ 31) : ch_FR (ch_tw g H bs b) f p s m args meth c := by
  obtain ⟨f1, f2, f3, f4, f5, f6, f7, f8, f9, f10, f11, f12⟩ := hF
  refine ⟨f1, f2, f3, f4, f5, f6, ?_, f8, f9, f10, f11, f12⟩
  obtain ⟨h1, h2, h3, h4, h5, h6, h7, h8, ⟨⟨s1, s1'⟩, s2, s3, ⟨s4, s4'⟩, ⟨s5, s5'⟩, s6⟩, h10⟩ := f7
  have fx : ∀ q, ch_fx g q → ch_fx (ch_tw g H bs b) q := fun q hq => ch_tw_fx hxi hsz hq
  have fb : ch_fx (ch_tw g H bs b) b := ⟨by show b < H.size; omega, fun x hx => by
    have hx' : ch_inx g x := hx
    rw [ch_tw_adr (ch_inx_lo hxi hx')]
    have := hbx x hx'
    omega⟩
  have fb1 : ch_fx (ch_tw g H bs b) (b + 1) := ⟨hb, fun x hx => by
    have hx' : ch_inx g x := hx
    rw [ch_tw_adr (ch_inx_lo hxi hx')]
    have := hbx x hx'
    omega⟩
  have kA : ∀ a : Nat, a < (ch_H0 g).size → ¬ ch_A g a → H[a]? = (ch_H0 g)[a]? := fun a ha hn => hH a ⟨ha, fun x hx e => hn (by rw [← e]; exact hgw x hx)⟩
  have kF : ∀ a : Nat, a < (ch_H0 g).size → ¬ (¬ ch_fx g a) → H[a]? = (ch_H0 g)[a]? := fun a _ hn => hH a (Classical.not_not.mp hn)
  have nF : ∀ q, ¬ ch_fx (ch_tw g H bs b) q → ¬ ch_fx g q := fun q hn hq => hn (fx q hq)
  have e11 : ch_scr (ch_tw g H bs b) = ch_scr g := by
    show (ch_xa (ch_tw g H bs b) (11, 0, 0), _) = (ch_xa g (11, 0, 0), _)
    rw [ch_tw_xa (fun z => absurd (show (11 : Nat) = 12 from congrArg Prod.fst z) (by decide)) (fun z => absurd (show (11 : Nat) = 13 from congrArg Prod.fst z) (by decide))]
    rfl
  have e12 : ∀ i, i ≠ (ch_tx g).length → ch_xa (ch_tw g H bs b) (12, i, 0) = ch_xa g (12, i, 0) := fun i hi => ch_tw_xa (fun z => hi (by simpa using z)) (fun z => absurd (show (12 : Nat) = 13 from congrArg Prod.fst z) (by decide))
  have e13 : ∀ i, i ≠ (ch_tx g).length → ch_xa (ch_tw g H bs b) (13, i, 0) = ch_xa g (13, i, 0) := fun i hi => ch_tw_xa (fun z => absurd (show (13 : Nat) = 12 from congrArg Prod.fst z) (by decide)) (fun z => hi (by simpa using z))
  have e15 : ∀ i, ch_xa (ch_tw g H bs b) (15, i, 0) = ch_xa g (15, i, 0) := fun i => ch_tw_xa (fun z => absurd (show (15 : Nat) = 12 from congrArg Prod.fst z) (by decide)) (fun z => absurd (show (15 : Nat) = 13 from congrArg Prod.fst z) (by decide))
  have etx : ch_tx (ch_tw g H bs b) = ch_tx g ++ [bs] := rfl
  have h6l : ∀ i x, ch_lit6[i]? = some x → i < (ch_tx g).length := fun i x hi => by
    obtain ⟨more, hm⟩ := s1
    rw [hm, List.length_append, List.length_map]
    have := (List.getElem?_eq_some_iff.mp hi).1
    omega
  have s2' := (s2.kept kF).narrow nF
  refine ⟨h1, h2, h3, h4.kept kA, h5.kept kA, ?_, ?_, ?_, ⟨⟨?_, fun i x hi => ?_⟩, ?_, (s3.kept kF).narrow nF, ⟨?_, ?_⟩, ⟨(s5.kept kF).narrow nF, s5'⟩, fun i hi => ?_⟩, h10⟩
  · rw [e11]
    exact h6.kept (hH _ h7)
  · rw [e11]
    exact fx _ h7
  · rw [e11]
    exact h8
  · obtain ⟨more, hm⟩ := s1
    exact ⟨more ++ [bs], by rw [etx, hm, List.append_assoc]⟩
  · rw [e12 i (by have := h6l i x hi; omega)]
    exact s1' i x hi
  · rw [etx]
    have hN : (ch_tx g ++ [bs]).length = (ch_tx g).length + 1 := by rw [List.length_append]; rfl
    rw [hN]
    refine ⟨fun i hi => ?_, fun i j hi hj e => ?_⟩
    · by_cases c : i = (ch_tx g).length
      · subst c
        have gl : ((ch_tx g ++ [bs]).map List.length).getD (ch_tx g).length 0 = bs.length := by simp [List.getD_eq_getElem?_getD]
        have gb : (ch_tx g ++ [bs]).getD (ch_tx g).length [] = bs := by simp [List.getD_eq_getElem?_getD]
        dsimp only
        rw [gl, gb, ch_tw_x12, ch_tw_x13]
        obtain ⟨t1, t2, t3⟩ := tw_str (A := fun q => ¬ ch_fx (ch_tw g H bs b) q) f6 h1 hob (fun z => z fb)
        rw [hV1] at t2
        rw [hV0] at t3
        refine ⟨t1, t2, t3, ⟨_, hbs, (h1.2 5 _ rfl).1 _ _, (fun z => nomatch z), ?_, ?_, (fun j hj => arrV_read _ _ hj), (fun z => z fb1)⟩⟩
        · rw [arrV_size]
          exact Nat.le_refl _
        · rw [arrV_size]
      · have hi' : i < (ch_tx g).length := by omega
        have gl : ((ch_tx g ++ [bs]).map List.length).getD i 0 = ((ch_tx g).map List.length).getD i 0 := by
          rw [List.map_append, List.getD_eq_getElem?_getD, List.getD_eq_getElem?_getD, List.getElem?_append_left (by rw [List.length_map]; exact hi')]
        have gb : (ch_tx g ++ [bs]).getD i [] = (ch_tx g).getD i [] := by
          rw [List.getD_eq_getElem?_getD, List.getD_eq_getElem?_getD, List.getElem?_append_left hi']
        dsimp only
        rw [gl, gb, e12 i c, e13 i c]
        exact s2'.1 i hi'
    · have old : ∀ i, i < (ch_tx g).length → ch_xa g (12, i, 0) < b := fun i hi => by
        obtain ⟨cell, q1, -, -, q4⟩ := (s2.1 i hi).1
        have : ch_fx g (ch_xa g (12, i, 0)) := Classical.not_not.mp q4
        exact Nat.lt_of_lt_of_le this.1 hb0
      have e : ch_xa (ch_tw g H bs b) (12, i, 0) = ch_xa (ch_tw g H bs b) (12, j, 0) := e
      by_cases c : i = (ch_tx g).length
      · by_cases d : j = (ch_tx g).length
        · omega
        · rw [c, ch_tw_x12, e12 j d] at e
          have := old j (by omega)
          omega
      · by_cases d : j = (ch_tx g).length
        · rw [d, ch_tw_x12, e12 i c] at e
          have := old i (by omega)
          omega
        · rw [e12 i c, e12 j d] at e
          exact s2.2 i j (by omega) (by omega) e
  · have := (s4.kept kF).narrow nF
    rw [← e15] at this
    exact this
  · have := (s4'.kept kF).narrow nF
    rw [← e15] at this
    exact this
  · have := ((s6 i hi).kept kF).narrow nF
    rw [← e15] at this
    exact this
/-- what the new world holds, the old one held -/
theorem ch_tw_back {m : ch_M} {H1 : Heap} (hxi : ∀ x, ch_xi g x → x.1 = 14) (hsz : (ch_H0 g).size ≤ H.size) (hH : ∀ q, ch_fx g q → H[q]? = (ch_H0 g)[q]?) (h : ch_Rp (ch_tw g H bs b) m H1) : ch_Rp g m H1 := by
  refine ⟨h.1, fun q hq => (h.2.1 q (ch_tw_fx hxi hsz hq)).trans (hH q hq), fun x hx => ?_, fun x y hx hy e => ?_, fun x hx => ?_, h.2.2.2.2.2.1, h.2.2.2.2.2.2⟩
  · have hc := h.2.2.1 x hx
    exact ch_cell_tr (g := ch_tw g H bs b) rfl rfl rfl (fun y hy => (ch_tw_adr hy).symm) (ch_inx_lo hxi hx) rfl rfl hc
  · exact h.2.2.2.1 x y hx hy (by rw [ch_tw_adr (ch_inx_lo hxi hx), ch_tw_adr (ch_inx_lo hxi hy)]; exact e)
  · have := h.2.2.2.2.1 x hx
    rw [ch_tw_adr (ch_inx_lo hxi hx)] at this
    exact this
/-- without the builder -/
theorem ch_tw_Rp {m : ch_M} {a : Nat} (hxi : ∀ x, ch_xi g x → x.1 = 14) (h : ch_Rp (ch_ex g 9 a) m H) : ch_Rp (ch_tw g H bs b) m H := by
  have hin : ∀ {x}, ch_inx g x → ch_inx (ch_ex g 9 a) x := fun {x} hx => hx.elim Or.inl (fun z => Or.inr (Or.inl z))
  have ea : ∀ {x}, ch_inx g x → ch_adr (ch_ex g 9 a) x = ch_adr g x := fun {x} hx => ch_ex_adr (by have := ch_inx_lo hxi hx; omega)
  refine ⟨h.1, fun q _ => rfl, fun x hx => ?_, fun x y hx hy e => ?_, fun x hx => ?_, fun j hj => ?_, fun x hx => Or.inr (hxi x hx)⟩
  · have hx' : ch_inx g x := hx
    exact ch_cell_tr (g := ch_ex g 9 a) rfl rfl rfl (fun y hy => (ch_tw_adr hy).trans (ch_ex_adr (by omega)).symm) (ch_inx_lo hxi hx') rfl rfl (h.2.2.1 x (hin hx'))
  · have hx' : ch_inx g x := hx
    have hy' : ch_inx g y := hy
    rw [ch_tw_adr (ch_inx_lo hxi hx'), ch_tw_adr (ch_inx_lo hxi hy'), ← ea hx', ← ea hy'] at e
    exact h.2.2.2.1 x y (hin hx') (hin hy') e
  · have hx' : ch_inx g x := hx
    have := h.2.2.2.2.1 x (hin hx')
    rw [ch_tw_adr (ch_inx_lo hxi hx'), ← ea hx']
    exact this
  · exact absurd (hxi _ hj) (by show ¬ (9 : Nat) = 14; decide)
end TW9
theorem ch_ex_FRr {g : ch_G} {cc a : Nat} {f : ch_MI} {p : Program} {s : State} {m : MethodId} {args : Array Value} {meth : Method} {c : Code} (hc : cc = 9 ∨ cc = 10) (hxi : ∀ x, ch_xi g x → x.1 ≠ cc) (ha : (ch_H0 g).size ≤ a) (h : ch_FR (ch_ex g cc a) f p s m args meth c) : ch_FR g f p s m args meth c := by
  obtain ⟨f1, f2, f3, f4, f5, f6, f7, f8, f9, f10, f11, f12⟩ := h
  refine ⟨f1, f2, f3, f4, f5, f6, ?_, f8, f9, f10, f11, f12⟩
  have h8 : 8 < cc := by omega
  have fx : (fun q => ¬ ch_fx (ch_ex g cc a) q) = fun q => ¬ ch_fx g q := by
    funext q
    rw [ch_ex_fx h8 hxi ha]
  have e11 : ch_scr (ch_ex g cc a) = ch_scr g := by
    show (ch_xa (ch_ex g cc a) (11, 0, 0), _) = (ch_xa g (11, 0, 0), _)
    rw [ch_ex_xa (show (11 : Nat) ≠ cc by omega)]
    rfl
  have e12 : ∀ i, ch_xa (ch_ex g cc a) (12, i, 0) = ch_xa g (12, i, 0) := fun i => ch_ex_xa (show (12 : Nat) ≠ cc by omega)
  have e13 : ∀ i, ch_xa (ch_ex g cc a) (13, i, 0) = ch_xa g (13, i, 0) := fun i => ch_ex_xa (show (13 : Nat) ≠ cc by omega)
  have e15 : ∀ i, ch_xa (ch_ex g cc a) (15, i, 0) = ch_xa g (15, i, 0) := fun i => ch_ex_xa (show (15 : Nat) ≠ cc by omega)
  obtain ⟨h1, h2, h3, h4, h5, h6, h7, h8', h9, h10⟩ := f7
  rw [e11] at h6 h7 h8'
  refine ⟨h1, h2, h3, h4, h5, h6, (ch_ex_fx h8 hxi ha).mp h7, h8', ?_, h10⟩
  unfold ch_SW at h9 ⊢
  rw [fx] at h9
  simp only [e12, e13, e15] at h9
  exact h9
