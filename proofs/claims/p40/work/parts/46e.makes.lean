section SM
variable {g : ch_G} {f : ch_MI} {R : Room} {E : ch_En} {pc : Nat} {ls ls' : ch_LT} {rest : List ch_V} {D : Nat → cb_d} {K : Heap} {n k : Nat}
/-- new: the next cell -/
theorem st_new {idx ci N k' : Nat} {C : String} {T : u_T} {V : Nat → ch_V} {a : ch_Ad} (ty : Nat → FieldType) (hcl : ch_Cl ci C T N) (hty : ∀ i, i < N → parseFieldDescriptor (T i).2.2.1 = some (ty i) ∧ defaultValue (ty i) = ch_tr g (V i)) (hd : decode (ch_bc f) pc = .ok (.new idx, 3)) (h1 : Cond.classLink (ch_nm f).cls idx C ∈ ch_good) (h2 : Cond.instantiable C N ∈ ch_good) (h3 : Cond.initialized C ∈ ch_good) (hadr : ch_adr g a = K.size + n) (hok : ch_ok g (.inr a)) (hk : k + 1 ≤ k' ∧ 6 * k + N ≤ 6 * k') (hc : k' ≤ R.cells ∧ 6 * k' ≤ R.slots)
    (kk : cb_J g f R E (pc + 3) ls (.inr a :: rest) (st_H g K (n + 1) (fun i => if i = n then .inl (ci, V) else D i)) k') : cb_J g f R E pc ls rest (st_H g K n D) k := by
  intro p e s m args below meth c H locs lm hF hN hP hS ho hs hL
  have hts := hF.2.2.2.2.2.1
  have hK := hF.2.2.2.2.2.2.1.1
  have hKn := hK.1 ci _ hcl.1
  refine W.newcK hF.1 hF.2.1 hF.2.2.2.2.1 (hts _ h1) (hts _ h2) (hts _ h3) rfl hd (by omega) (by omega) hKn.2.1 rfl fun H1 kC hkC e1 z1 o1 => ?_
  have hb := u_born ty hts hcl.2.1 hKn hkC e1 (fun i hi => (hty i hi).1)
  rw [hP.1] at hb
  have hP1 : st_H g K (n + 1) (fun i => if i = n then .inl (ci, V) else D i) H1 := st_H_push hP z1 o1 ⟨_, hcl.1, hb.to (fun i hi => (hty i hi).2)⟩
  have ha : ch_adr g a = H.size := by rw [hadr, hP.1]
  have kk := kk p e s m args below meth c H1 locs lm hF hN hP1 (cb_S_push hS z1 o1) ho (ch_ok2 hok hs) hL
  rw [List.map_cons, show ch_tr g (.inr a) = .ref H.size by rw [← ha]; rfl] at kk
  exact W.widen hk.1 hk.2 kk
/-- a new row of bytes -/
theorem st_newa {len k' : Nat} {x : Int32} {a : ch_Ad} (hd : decode (ch_bc f) pc = .ok (.newarray .byte, 2)) (h1 : Cond.arrayClass .byte ∈ ch_good) (hx : x = nI len) (hl : len ≤ 600) (hadr : ch_adr g a = K.size + n) (hok : ch_ok g (.inr a)) (hk : k + 1 ≤ k' ∧ 6 * k + len ≤ 6 * k') (hc : k' ≤ R.cells ∧ 6 * k' ≤ R.slots)
    (kk : cb_J g f R E (pc + 2) ls (.inr a :: rest) (st_H g K (n + 1) (fun i => if i = n then .inr (5, len, fun _ => .inl (.int 0)) else D i)) k') : cb_J g f R E pc ls (.inl (.int x) :: rest) (st_H g K n D) k := by
  intro p e s m args below meth cc H locs lm hF hN hP hS ho hs hL
  have hts := hF.2.2.2.2.2.1
  subst hx
  have hcb : componentBytes (newarray.typeOf .byte) ≤ 8 := by decide
  have hbt : len * componentBytes (newarray.typeOf .byte) ≤ 600 * 8 := Nat.mul_le_mul hl hcb
  refine va_newaK (atype := .byte) hF.1 hF.2.1 (hts _ h1) rfl hd rfl (nI_pos (by omega)) (nI_clamp (by omega)) (by omega) (by omega) (by omega) rfl fun H1 cA e1 z1 o1 hAr hNm => ?_
  have hcA : cA = ch_cA g 5 := Option.some.inj (hNm.symm.trans (hF.2.2.2.2.2.2.1.1.2 5 _ rfl).2)
  have hP1 : st_H g K (n + 1) (fun i => if i = n then .inr (5, len, fun _ => .inl (.int 0)) else D i) H1 := by
    refine st_H_push hP z1 o1 ?_
    show H1[K.size + n]? = some (arrV (ch_cA g 5) len (fun _ => .int 0))
    rw [← hP.1, ← hcA]
    exact e1
  have ha : ch_adr g a = H.size := by rw [hadr, hP.1]
  have kk := kk p e s m args below meth cc H1 locs lm hF hN hP1 (cb_S_push hS z1 o1) ho (ch_ok2 hok (ch_ok0 hs)) hL
  rw [List.map_cons, show ch_tr g (.inr a) = .ref H.size by rw [← ha]; rfl] at kk
  exact W.widen hk.1 hk.2 kk
/-- a field of a new cell is written -/
theorem st_put {idx ci kf i0 : Nat} {v : ch_V} {a : ch_Ad} {V : Nat → ch_V} {C : String} {T : u_T} {N : Nat} {ty : FieldType} (hd : decode (ch_bc f) pc = .ok (.putfield idx, 3)) (hcl : ch_Cl ci C T N) (hk : kf < N) (hlink : Cond.fieldLink (ch_nm f).cls idx (T kf).1 (T kf).2.1 (T kf).2.2.1 ∈ ch_good) (hfin : (T kf).2.2.2 = false) (hty : parseFieldDescriptor (T kf).2.2.1 = some ty) (hn : narrow ty (ch_tr g v) = ch_tr g v) (hfit : fits ty (ch_tr g v) = true) (hadr : ch_adr g a = K.size + i0) (hlt : i0 < n) (hD : D i0 = .inl (ci, V)) (hlo : ch_lo g ≤ K.size)
    (kk : cb_J g f R E (pc + 3) ls rest (st_H g K n (fun i => if i = i0 then .inl (ci, fun q => if q = kf then v else V q) else D i)) k) : cb_J g f R E pc ls (v :: .inr a :: rest) (st_H g K n D) k := by
  intro p e s m args below meth c H locs lm hF hN hP hS ho hs hL
  have hts := hF.2.2.2.2.2.1
  have hK := hF.2.2.2.2.2.2.1.1
  obtain ⟨ty0, hty0⟩ := hcl.2.2.1
  have hap := va_apart (D := (ch_dC g, ch_dI g)) (own := (ch_nm f).cls) hts hcl.2.1 ty0 hty0 hcl.2.2.2 hK hcl.1
  have hc := hP.2.2 _ hlt
  rw [hD] at hc
  obtain ⟨r, hr, cell, q1, q2, q3, q4⟩ := hc
  have hr' : r = (C, T, N) := Option.some.inj (hr.symm.trans hcl.1)
  subst hr'
  obtain ⟨hSl, hfc, kC, hkC, hkind⟩ := hK.1 ci _ hcl.1
  obtain ⟨cf, kF, fi, fd, hi, hsl⟩ := hSl kf hk
  have hlay := hts _ (hcl.2.1 _ (u_in_lay hk))
  unfold u_lay at hlay
  rw [if_neg (by rw [hfin]; decide)] at hlay
  have hst := (u_facts hfc hkC (u_lays hts hcl.2.1 hk) hi).1
  have h6 := u_store hfc hkC hkind hlay hi hty hn hfit
  have hi' : s.fieldFound? (T kf).1 (T kf).2.1 (T kf).2.2.1 = some (cf, kF, fi, fd) := hi
  have fin : ∀ H' : Heap, H'[K.size + i0]? = some (cell.setSlot fd.slot (ch_tr g v)) → H'.size = H.size → (∀ q, q ≠ K.size + i0 → H'[q]? = H[q]?) → W p (ch_l g) e R s m args below meth c H' (locs ++ [⟨K.size + i0, fd.slot⟩]) k (6 * k) (E s args below) (F0 m (pc + 3) lm (rest.map (ch_tr g))) := by
    intro H' e1 e2 e3
    refine kk p e s m args below meth c H' _ lm hF hN (st_H_set hP e2 e3 ?_) (hS.put e2 e3 (Nat.le_trans hlo (Nat.le_add_right _ _))) ho (ch_ok0 (ch_ok0 hs)) hL
    refine ⟨_, hr, t_OB.to (V := updV (fun q => ch_tr g (V q)) kf (ch_tr g v)) ⟨_, e1, q2, q3, ?_⟩ (fun i _ => ?_)⟩
    · rw [hsl]
      exact t_set q4 hap hk _
    · by_cases e : i = kf
      · subst e
        simp only [updV, if_true]
      · simp only [updV, if_neg e]
  have st : ((v :: .inr a :: rest : List ch_V).map (ch_tr g)) = ch_tr g v :: .ref (K.size + i0) :: rest.map (ch_tr g) := by
    rw [List.map_cons, List.map_cons, ← hadr]
    rfl
  rw [st]
  exact W.putK hF.1 hF.2.1 (f := fd) ⟨hF.2.2.2.2.1, hts _ hlink, ⟨_, _, _, hi'⟩, hst⟩ (by rw [q2]; exact h6) q1 q3 (by rw [hsl]; exact k2_hasslot (q4 kf hk)) rfl rfl hd fin
/-- a final field of a new cell, in its constructor -/
theorem st_putF {idx ci kf i0 : Nat} {v : ch_V} {a : ch_Ad} {V : Nat → ch_V} {C : String} {T : u_T} {N : Nat} {ty : FieldType} (hd : decode (ch_bc f) pc = .ok (.putfield idx, 3)) (hcl : ch_Cl ci C T N) (hk : kf < N) (hC : (T kf).1 = C) (hlink : Cond.fieldLink (ch_nm f).cls idx C (T kf).2.1 (T kf).2.2.1 ∈ ch_good) (hfin : (T kf).2.2.2 = true) (hown : C = (ch_nm f).cls) (hini : (ch_nm f).name = "<init>") (hdp : parseFieldDescriptor (T kf).2.2.1 = some ty) (hn : narrow ty (ch_tr g v) = ch_tr g v) (hfit : fits ty (ch_tr g v) = true) (hadr : ch_adr g a = K.size + i0) (hlt : i0 < n) (hD : D i0 = .inl (ci, V)) (hlo : ch_lo g ≤ K.size)
    (kk : cb_J g f R E (pc + 3) ls rest (st_H g K n (fun i => if i = i0 then .inl (ci, fun q => if q = kf then v else V q) else D i)) k) : cb_J g f R E pc ls (v :: .inr a :: rest) (st_H g K n D) k := by
  intro p e s m args below meth c H locs lm hF hN hP hS ho hs hL
  have hts := hF.2.2.2.2.2.1
  have hK := hF.2.2.2.2.2.2.1.1
  obtain ⟨ty0, hty0⟩ := hcl.2.2.1
  have hap := va_apart (D := (ch_dC g, ch_dI g)) (own := (ch_nm f).cls) hts hcl.2.1 ty0 hty0 hcl.2.2.2 hK hcl.1
  have hc := hP.2.2 _ hlt
  rw [hD] at hc
  obtain ⟨r, hr, cell, q1, q2, q3, q4⟩ := hc
  have hr' : r = (C, T, N) := Option.some.inj (hr.symm.trans hcl.1)
  subst hr'
  obtain ⟨hSl, hfc, kC, hkC, hkind⟩ := hK.1 ci _ hcl.1
  obtain ⟨cf, kF, fi, fd, hi, hsl⟩ := hSl kf hk
  have hlay := hts _ (hcl.2.1 _ (u_in_lay hk))
  unfold u_lay at hlay
  rw [if_pos hfin] at hlay
  have hst := (u_facts hfc hkC (u_lays hts hcl.2.1 hk) hi).1
  have hcf : m.cls = cf := by
    obtain ⟨_, _, c', _, _, _, -, -, hf', -, -, -, hown2, -⟩ := Cond.laysFinal_spec hlay
    have e1 : c' = cf := by have := hi.symm.trans hf'; simp at this; exact this.1.symm
    rw [hC, hown] at hown2
    rw [← e1]; exact Option.some.inj (hF.2.2.2.2.1.symm.trans hown2)
  have h6 := u_fits hfc hkC hkind (Or.inr hlay) hi hdp hn hfit
  have hi' : s.fieldFound? C (T kf).2.1 (T kf).2.2.1 = some (cf, kF, fi, fd) := by rw [hC] at hi; exact hi
  have hnm : meth.name = "<init>" := hF.2.2.2.2.2.2.2.2.2.2.2.trans hini
  have fin : ∀ H' : Heap, H'[K.size + i0]? = some (cell.setSlot fd.slot (ch_tr g v)) → H'.size = H.size → (∀ q, q ≠ K.size + i0 → H'[q]? = H[q]?) → W p (ch_l g) e R s m args below meth c H' (locs ++ [⟨K.size + i0, fd.slot⟩]) k (6 * k) (E s args below) (F0 m (pc + 3) lm (rest.map (ch_tr g))) := by
    intro H' e1 e2 e3
    refine kk p e s m args below meth c H' _ lm hF hN (st_H_set hP e2 e3 ?_) (hS.put e2 e3 (Nat.le_trans hlo (Nat.le_add_right _ _))) ho (ch_ok0 (ch_ok0 hs)) hL
    refine ⟨_, hr, t_OB.to (V := updV (fun q => ch_tr g (V q)) kf (ch_tr g v)) ⟨_, e1, q2, q3, ?_⟩ (fun i _ => ?_)⟩
    · rw [hsl]
      exact t_set q4 hap hk _
    · by_cases e : i = kf
      · subst e
        simp only [updV, if_true]
      · simp only [updV, if_neg e]
  have st : ((v :: .inr a :: rest : List ch_V).map (ch_tr g)) = ch_tr g v :: .ref (K.size + i0) :: rest.map (ch_tr g) := by
    rw [List.map_cons, List.map_cons, ← hadr]
    rfl
  rw [st]
  exact W.putFinK hF.1 hF.2.1 hF.2.2.2.2.1 (hts _ hlink) hi' hst hcf hnm (by rw [q2]; exact h6) q1 q3 (by rw [hsl]; exact k2_hasslot (q4 kf hk)) rfl rfl hd fin
/-- bytes of a row that lies in K are copied into a new row -/
theorem st_copy {idx i0 n1 n2 : Nat} {F B : Nat → Int32} {a b : ch_Ad} {sp dp nn : Int32} (hd : decode (ch_bc f) pc = .ok (.invokestatic idx, 3)) (hm : ch_AC (ch_nm f).cls idx) (hB : K[ch_adr g b]? = some (vp_cell (ch_cA g 5) (n1, .inl B))) (hadr : ch_adr g a = K.size + i0) (hlt : i0 < n) (hD : D i0 = .inr (5, n2, fun q => .inl (.int (F q)))) (hlo : ch_lo g ≤ K.size) (hRR : ch_RR R 1) (hcat : (rest.map ch_cat).sum ≤ 8)
    (h1 : ¬ sp < 0) (h2 : ¬ dp < 0) (h3 : ¬ nn < 0) (h4 : sp.toNatClampNeg + nn.toNatClampNeg ≤ n1) (h5 : dp.toNatClampNeg + nn.toNatClampNeg ≤ n2) (hfit : sb_Fit B)
    (kk : cb_J g f R E (pc + 3) ls rest (st_H g K n (fun i => if i = i0 then .inr (5, n2, fun q => .inl (.int (va_cpy B F sp.toNatClampNeg dp.toNatClampNeg nn.toNatClampNeg q))) else D i)) k) : cb_J g f R E pc ls (.inl (.int nn) :: .inl (.int dp) :: .inr a :: .inl (.int sp) :: .inr b :: rest) (st_H g K n D) k := by
  intro p e s m args below meth c H locs lm hF hN hP hS ho hs hL
  have hlK : ch_adr g b < K.size := (Array.getElem?_eq_some_iff.mp hB).1
  have hc := hP.2.2 _ hlt
  rw [hD] at hc
  have hcat' : ((rest.map (ch_tr g)).map fun v => v.category).sum ≤ 8 := by rw [ch_sum]; exact hcat
  have hA := ch_arrK hF.2.2.2.2.2.2.1 (t := 5) (by decide)
  have nnl : ∀ z : Int32, ¬ z < 0 → z.toInt = (z.toNatClampNeg : Int) := by
    intro z hz
    have hz0 : (0 : Int) ≤ z.toInt := by
      have := Int32.not_lt.mp hz
      simpa using Int32.le_iff_toInt_le.mp this
    show z.toInt = ((z.toInt.toNat : Nat) : Int)
    omega
  have hts := hF.2.2.2.2.2.1
  intro T hT X
  have hc0 : H[ch_adr g b]? = some (vp_cell (ch_cA g 5) (n1, .inl B)) := (hP.2.1 _ hlK).trans hB
  have hc9 : H[ch_adr g a]? = some (vp_cell (ch_cA g 5) (n2, .inl F)) := by rw [hadr]; exact hc
  obtain ⟨-, k0, hk0, cm0, hkk0⟩ := hA n1 (fun i => .int (B i))
  obtain ⟨-, k1, hk1', cm1, hkk1⟩ := hA n2 (fun i => .int (F i))
  obtain ⟨vm', X', step⟩ := X.arraycopy hF.1 hF.2.2.2.2.1 (hts _ hm.1) (hts _ hm.2.1) (hts _ hm.2.2.1) (hts _ hm.2.2.2) (src := ch_adr g b) (dst := ch_adr g a) (cs := vp_cell (ch_cA g 5) (n1, .inl B)) (cd := vp_cell (ch_cA g 5) (n2, .inl F)) (srcPos := sp) (destPos := dp) (n := nn) (by rw [hT]; exact hc0) (by rw [hT]; exact hc9)
    (fun _ h => by cases h) (fun _ h => by cases h) (fun h => by cases h) (fun h => by cases h) hk0 hk1' hkk0 hkk1 (by simp [refKind, show ch_ty 5 = FieldType.byte from rfl]) h1 h2 h3
    (by rw [nnl sp h1, nnl nn h3]; show ¬ _ > ((arrV _ n1 _).slots.size : Int); rw [arrV_size]; omega)
    (by rw [nnl dp h2, nnl nn h3]; show ¬ _ > ((arrV _ n2 _).slots.size : Int); rw [arrV_size]; omega)
    (fun vm₁ _ q hq => by
      have e9 : (vp_cell (ch_cA g 5) (n1, .inl B)).slots.getD (sp.toNatClampNeg + q) .null = .int (B (sp.toNatClampNeg + q)) := by
        show (arrV (ch_cA g 5) n1 (fun i => .int (B i))).slots.getD _ _ = _
        rw [Array.getD_eq_getD_getElem?, arrV_read _ _ (by omega)]
        rfl
      refine ⟨?_, ?_⟩
      · rw [e9]
        exact hfit _
      · rw [e9]
        exact trivial)
    (g := F0 m pc lm ((.inl (.int nn) :: .inl (.int dp) :: .inr a :: .inl (.int sp) :: .inr b :: rest : List ch_V).map (ch_tr g))) rfl (hL.1.trans hF.2.2.2.1.symm) (rest := rest.map (ch_tr g)) rfl (by rw [hF.2.1]; exact hd) hRR.1
    (by have := hRR.2; have hw : nativeFrameWords "java/lang/System" "arraycopy" 5 ≤ 100 := by decide +kernel
        show 2 * 0 + _ + _ ≤ _; omega)
  have e1 : copied (vp_cell (ch_cA g 5) (n1, .inl B)) (vp_cell (ch_cA g 5) (n2, .inl F)) sp dp nn = vp_cell (ch_cA g 5) (n2, .inl (va_cpy B F sp.toNatClampNeg dp.toNatClampNeg nn.toNatClampNeg)) := va_copied (fun z => .int z) _ _ _ _ h4
  rw [e1] at X' step
  have hl : ch_adr g a < H.size := (Array.getElem?_eq_some_iff.mp hc9).1
  generalize hcell : vp_cell (ch_cA g 5) (n2, .inl (va_cpy B F sp.toNatClampNeg dp.toNatClampNeg nn.toNatClampNeg)) = cell at X' step
  have hheap : ((T.setVm vm').setCell (ch_adr g a) cell).heap = H.setIfInBounds (ch_adr g a) cell := by rw [← hT]; rfl
  have oq : ∀ q : Nat, q ≠ ch_adr g a → (H.setIfInBounds (ch_adr g a) cell)[q]? = H[q]? := fun q hq => by simp [Array.getElem?_setIfInBounds, Ne.symm hq]
  have hP' : st_H g K n (fun i => if i = i0 then .inr (5, n2, fun q => .inl (.int (va_cpy B F sp.toNatClampNeg dp.toNatClampNeg nn.toNatClampNeg q))) else D i) (H.setIfInBounds (ch_adr g a) cell) := by
    refine st_H_set hP (by simp) (fun q hq => oq q (by rw [hadr]; exact hq)) ?_
    show (H.setIfInBounds (ch_adr g a) cell)[K.size + i0]? = _
    rw [← hadr]
    have : (H.setIfInBounds (ch_adr g a) cell)[ch_adr g a]? = some cell := by simp [Array.getElem?_setIfInBounds, hl]
    rw [this, ← hcell]
    rfl
  have hS' : ∀ L : List Loc, (∀ z ∈ L, z.base = ch_adr g a) → va_S (ch_A g) s.heap (H.setIfInBounds (ch_adr g a) cell) (locs ++ L) := by
    intro L hLo
    have hAa : ch_A g (ch_adr g a) := by
      show ch_lo g ≤ _
      omega
    refine ⟨by simp; exact hS.1, fun q g1 g2 => ?_, fun q hq => ?_⟩
    · rw [oq q (fun e => g2 (by rw [e]; exact hAa))]
      exact hS.2.1 q g1 g2
    · rcases List.mem_append.mp hq with h | h
      · exact hS.2.2 q h
      · rw [hLo q h]
        exact hAa
  obtain ⟨t, a1, b1⟩ := kk p e s m args below meth c _ _ lm hF hN hP' (hS' _ (fun z hz => by obtain ⟨y, -, hy⟩ := List.mem_map.mp hz; rw [← hy])) ho (ch_ok0 (ch_ok0 (ch_ok0 (ch_ok0 (ch_ok0 hs))))) hL _ hheap X'
  exact ⟨t, step t a1, b1⟩
end SM
