section CB4
variable {g : ch_G} {f : ch_MI} {R : Room} {E : ch_En} {pc : Nat} {ls ls' : ch_LT} {rest : List ch_V} {D : Nat → cb_d} {n k : Nat}
/-- a field that holds an address is read -/
theorem cb_get {idx ci j kf : Nat} {b : ch_Ad} {V : Nat → ch_V} (hd : decode (ch_bc f) pc = .ok (.getfield idx, 3)) (hl : ch_FL (ch_nm f).cls idx ci kf) (hin : ch_in (ci, j, 0)) (hlt : ch_off ci j < n) (hD : D (ch_off ci j) = .inl (ci, V)) (hv : V kf = .inr b) (hb : ch_in b)
    (kk : cb_J g f R E (pc + 3) ls (.inr b :: rest) (cb_H g n D) k) : cb_J g f R E pc ls (.inr (ci, j, 0) :: rest) (cb_H g n D) k := by
  intro p e s m args below meth c H locs lm hF hN hP hS ho hs hL
  obtain ⟨C, T, N, hcl, hk, hlink⟩ := hl
  have hc := hP.2.2 _ hlt
  rw [hD] at hc
  obtain ⟨r, hr, hob⟩ := hc
  have hr' : r = (C, T, N) := Option.some.inj (hr.symm.trans hcl.1)
  subst hr'
  have ha : ch_adr g (ci, j, 0) = ch_base g + ch_off ci j := ch_adr_in hin
  have hPl : va_P (ch_dC g, ch_dI g) ch_cls [(ch_base g + ch_off ci j, .inr (ci, (List.range N).map (fun k => ch_tr g (V k))))] H := by
    intro i x hx
    have hi : i < 1 := (List.getElem?_eq_some_iff.mp hx).1
    have : i = 0 := by omega
    subst this
    cases hx
    exact ⟨_, hr, hob.to (fun i hi => by simp only [vp_V, List.getD_eq_getElem?_getD]; rw [ch_fl_pad _ _ _ hi]; rfl)⟩
  have q' := kk p e s m args below meth c H locs lm hF hN hP hS ho (ch_ok2 (fun a h => by cases h; exact Or.inl (Or.inl hb)) (ch_ok0 hs)) hL
  have st : ((.inr (ci, j, 0) :: rest : List ch_V).map (ch_tr g)) = .ref (ch_base g + ch_off ci j) :: rest.map (ch_tr g) := by
    rw [List.map_cons, ← ha]
    rfl
  rw [st]
  rw [List.map_cons, ← hv] at q'
  rcases hlink with h | ⟨host, h⟩
  · exact va_get (D := (ch_dC g, ch_dI g)) hF.1 hF.2.1 hF.2.2.2.2.2.1 hcl.2.1 hF.2.2.2.2.1 hF.2.2.2.2.2.2.1.1 hPl 0 rfl hcl.1 kf hk (hF.2.2.2.2.2.1 _ h) (fun x hx => hx) (ch_fl_pad _ _ _ hk) hd q'
  · exact va_getN (D := (ch_dC g, ch_dI g)) (host := host) hF.1 hF.2.1 hF.2.2.2.2.2.1 hcl.2.1 hF.2.2.2.2.1 hF.2.2.2.2.2.2.1.1 hPl 0 rfl hcl.1 kf hk (va_Nw.use (ch_oth_on h) (hF.2.2.2.2.2.2.1.2.1 _ h)) (fun x hx => hx) (ch_fl_pad _ _ _ hk) hd q'
theorem cb_alen {ci j c t len : Nat} {v : Int32} {F : Nat → ch_V} (hd : decode (ch_bc f) pc = .ok (.arraylength, 1)) (ht : t < 5) (hin : ch_in (ci, j, c + 1)) (hlt : ch_off ci j + (c + 1) < n) (hD : D (ch_off ci j + (c + 1)) = .inr (t, len, F)) (hv : Int32.ofNat len = v) (kk : cb_J g f R E (pc + 1) ls (.inl (.int v) :: rest) (cb_H g n D) k) : cb_J g f R E pc ls (.inr (ci, j, c + 1) :: rest) (cb_H g n D) k := by
  intro p e s m args below meth cc H locs lm hF hN hP hS ho hs hL
  have hc := hP.2.2 _ hlt
  rw [hD] at hc
  have hc : H[ch_base g + (ch_off ci j + (c + 1))]? = some (arrV (ch_cA g t) len (fun q => ch_tr g (F q))) := hc
  have ha : ch_adr g (ci, j, c + 1) = ch_base g + (ch_off ci j + (c + 1)) := ch_adr_in hin
  have st : ((.inr (ci, j, c + 1) :: rest : List ch_V).map (ch_tr g)) = .ref (ch_base g + (ch_off ci j + (c + 1))) :: rest.map (ch_tr g) := by
    rw [List.map_cons, ← ha]
    rfl
  rw [st]
  exact W.alen (n := v) hF.1 hF.2.1 hc (ch_arrK hF.2.2.2.2.2.2.1 (Nat.lt_succ_of_lt ht) _ _) (by rw [arrV_size]; exact hv) rfl rfl hd (kk p e s m args below meth cc H locs lm hF hN hP hS ho (ch_ok1 (ch_ok0 hs)) hL)
/-- the row of yards is made -/
theorem cb_anew {idx ci j c len k' : Nat} {x : Int32} (hd : decode (ch_bc f) pc = .ok (.anewarray idx, 3)) (h1 : Cond.classLink (ch_nm f).cls idx "ChalkWarrants$Yard" ∈ ch_good) (hx : x = nI len) (hl : len ≤ 600) (hoff : ch_off ci j + (c + 1) = n) (hin : ch_in (ci, j, c + 1)) (hk : k + 1 ≤ k' ∧ 6 * k + len ≤ 6 * k') (hc : k' ≤ R.cells ∧ 6 * k' ≤ R.slots)
    (kk : cb_J g f R E (pc + 3) ls (.inr (ci, j, c + 1) :: rest) (cb_H g (n + 1) (fun i => if i = n then .inr (4, len, fun _ => .inl .null) else D i)) k') : cb_J g f R E pc ls (.inl (.int x) :: rest) (cb_H g n D) k := by
  intro p e s m args below meth cc H locs lm hF hN hP hS ho hs hL
  have hts := hF.2.2.2.2.2.1
  subst hx
  have hcl := nI_clamp (n := len) (by omega)
  refine W.anew hF.1 hF.2.1 hF.2.2.2.2.1 (hts _ h1) (va_AO.use hF.2.2.2.2.2.2.1.2.2.2.2.2.2.2.2.2) rfl hd rfl (nI_pos (by omega)) (by rw [hcl]; omega) (by omega) (by rw [hcl]; omega) fun cA kA comp e1 e2 e3 e4 => ?_
  rw [hcl, arrV_new]
  have hcA : cA = ch_cA g 4 := by
    have h := (hF.2.2.2.2.2.2.1.1.2 4 _ rfl).2
    obtain ⟨kA', comp', a1, a2, a3, a4⟩ := h
    exact Option.some.inj (e1.symm.trans a4)
  have z1 : (H.push (arrV cA len fun _ => .null)).size = H.size + 1 := by simp
  have o1 : ∀ q, q < H.size → (H.push (arrV cA len fun _ => .null))[q]? = H[q]? := fun q hq => by
    rw [Array.getElem?_push, if_neg (Nat.ne_of_lt hq)]
  have hP1 : cb_H g (n + 1) (fun i => if i = n then .inr (4, len, fun _ => .inl .null) else D i) (H.push (arrV cA len fun _ => .null)) := by
    refine cb_H_push (cb_H_cong hP (fun i hi => if_neg (by omega))) z1 o1 ?_
    rw [if_pos rfl]
    show (H.push (arrV cA len fun _ => .null))[ch_base g + n]? = some (arrV (ch_cA g 4) len (fun _ => .null))
    rw [← hP.1, ← hcA]
    simp
  have ha : ch_adr g (ci, j, c + 1) = H.size := by
    rw [ch_adr_in hin, hP.1]
    show ch_base g + (ch_off ci j + (c + 1)) = _
    rw [hoff]
  have kk := kk p e s m args below meth cc _ locs lm hF hN hP1 (cb_S_push hS z1 o1) ho (ch_ok2 (fun a h => by cases h; exact Or.inl (Or.inl hin)) (ch_ok0 hs)) hL
  rw [List.map_cons, show ch_tr g (.inr (ci, j, c + 1)) = .ref H.size by rw [← ha]; rfl] at kk
  exact W.widen hk.1 hk.2 kk
/-- a yard is put into the row -/
theorem cb_aast {ci j c len cj jj : Nat} {x : Int32} {F : Nat → ch_V} {V : Nat → ch_V} (hd : decode (ch_bc f) pc = .ok (.aastore, 1)) (hin : ch_in (ci, j, c + 1)) (hlt : ch_off ci j + (c + 1) < n) (hD : D (ch_off ci j + (c + 1)) = .inr (4, len, F)) (hx : vp_in x len) (hcj : cj = 1) (hin2 : ch_in (cj, jj, 0)) (hlt2 : ch_off cj jj < n) (hD2 : D (ch_off cj jj) = .inl (cj, V))
    (kk : cb_J g f R E (pc + 1) ls rest (cb_H g n (fun i => if i = ch_off ci j + (c + 1) then .inr (4, len, fun q => if q = x.toNatClampNeg then .inr (cj, jj, 0) else F q) else D i)) k) : cb_J g f R E pc ls (.inr (cj, jj, 0) :: .inl (.int x) :: .inr (ci, j, c + 1) :: rest) (cb_H g n D) k := by
  intro p e s m args below meth cc H locs lm hF hN hP hS ho hs hL
  have hc := hP.2.2 _ hlt
  rw [hD] at hc
  have hc : H[ch_base g + (ch_off ci j + (c + 1))]? = some (arrV (ch_cA g 4) len (fun q => ch_tr g (F q))) := hc
  have hc2 := hP.2.2 _ hlt2
  rw [hD2] at hc2
  obtain ⟨r, hr, cellV, g1, g2, g3, -⟩ := hc2
  have hK := hF.2.2.2.2.2.2.1.1
  have hcls := (hK.1 cj r hr).2
  obtain ⟨kA, comp, k1, k2, k3, -⟩ := (hK.2 4 _ rfl).2
  have hrn : r.1 = "ChalkWarrants$Yard" := by
    rw [hcj] at hr
    cases hr
    rfl
  have hcomp : comp = ch_dC g cj := by
    have h1 := hcls.1
    rw [hrn] at h1
    exact Option.some.inj (k3.symm.trans h1)
  subst hcomp
  obtain ⟨kC, hkC, -⟩ := hcls.2
  have ha : ch_adr g (ci, j, c + 1) = ch_base g + (ch_off ci j + (c + 1)) := ch_adr_in hin
  have ha2 : ch_adr g (cj, jj, 0) = ch_base g + ch_off cj jj := ch_adr_in hin2
  have st : ((.inr (cj, jj, 0) :: .inl (.int x) :: .inr (ci, j, c + 1) :: rest : List ch_V).map (ch_tr g)) = .ref (ch_base g + ch_off cj jj) :: .int x :: .ref (ch_base g + (ch_off ci j + (c + 1))) :: rest.map (ch_tr g) := by
    rw [List.map_cons, List.map_cons, List.map_cons, ← ha, ← ha2]
    rfl
  rw [st]
  refine W.aast hF.1 hF.2.1 hc (fun q h => by cases h) (fun h => by cases h) k1 k2 rfl hkC ⟨fun q => hx (Or.inl q), by rw [arrV_size]; exact Nat.not_le.mp fun q => hx (Or.inr q)⟩ g1 (fun q h => by rw [g3] at h; cases h) (by rw [g2]; exact hkC) (by rw [g2]; exact va_assign hcls) rfl rfl hd (fun H' e1 e2 e3 => ?_)
  refine kk p e s m args below meth cc H' _ lm hF hN (cb_H_set hP e2 e3 hlt (fun i _ hne => if_neg hne) ?_) (hS.put e2 e3 (Nat.le_trans hN (Nat.le_add_right _ _))) ho (ch_ok0 (ch_ok0 (ch_ok0 hs))) hL
  rw [if_pos rfl]
  show H'[ch_base g + (ch_off ci j + (c + 1))]? = some (arrV (ch_cA g 4) len (fun q => ch_tr g (if q = x.toNatClampNeg then .inr (cj, jj, 0) else F q)))
  rw [e1, arrV_store]
  congr 2
  funext q
  unfold updV
  by_cases h : q = x.toNatClampNeg
  · rw [if_pos h, if_pos h, ← ha2]; rfl
  · rw [if_neg h, if_neg h]
end CB4
