section CB2
variable {g : ch_G} {f : ch_MI} {R : Room} {E : ch_En} {pc : Nat} {ls ls' : ch_LT} {rest : List ch_V} {D : Nat → cb_d} {n k : Nat}
theorem cb_S_push {A : Nat → Prop} {H0 H H1 : Heap} {locs : List Loc} (h : va_S A H0 H locs) (hz : H1.size = H.size + 1) (ho : ∀ q, q < H.size → H1[q]? = H[q]?) : va_S A H0 H1 locs :=
  ⟨Nat.le_trans h.1 (by omega), fun q h1 h2 => (ho q (Nat.lt_of_lt_of_le h1 h.1)).trans (h.2.1 q h1 h2), h.2.2⟩
theorem cb_objInit {idx : Nat} {a : ch_Ad} {P : Heap → Prop} (hd : decode (ch_bc f) pc = .ok (.invokespecial idx, 3)) (h1 : Cond.methodLink (ch_nm f).cls idx Lib.objectInit ∈ ch_good) (h2 : Cond.instanceMethod Lib.objectInit ∈ ch_good) (h3 : Cond.code Lib.objectInit ⟨#[0xb1]⟩ 1 none ∈ ch_good) (hR : ch_RR R 1) (hcat : (rest.map ch_cat).sum ≤ 8) (kk : cb_J g f R E (pc + 3) ls rest P k) : cb_J g f R E pc ls (.inr a :: rest) P k := by
  intro p e s m args below meth c H locs lm hF hN hP hS ho hs hL
  have hts := hF.2.2.2.2.2.1
  refine W.objInit hF.1 hF.2.1 hF.2.2.2.2.1 (hts _ h1) (hts _ h2) (hts _ h3) rfl (hL.1.trans hF.2.2.2.1.symm) rfl hd hR.1 (by have := hR.2; show 2 * 0 + _ + 12 ≤ _; rw [ch_sum]; omega) ?_
  exact kk p e s m args below meth c H locs lm hF hN hP hS ho (ch_ok0 hs) hL
theorem cb_vret {P : Heap → Prop} {Qc : Array Value → State → Outcome → State → Prop} (hd : decode (ch_bc f) pc = .ok (.return_, 1)) (hr : ch_rt f = none) (hk : k ≤ ch_mc f) (hq : ∀ (st t : State) (a : Array Value), P t.heap → va_F (ch_A g) st t → Qc a st (.returned none) t) : cb_J g f (ch_rm f) (fun s args below => MQ below Qc args s (ch_mc f) (6 * ch_mc f) (ch_A g)) pc ls [] P k :=
  fun p e s m args below meth c H locs lm hF hN hP hS ho hs hL => W.widen hk (by omega) (W.vret hF.1 hF.2.1 (hF.2.2.1.trans hr) (fun t ht hw => hq s t args (by rw [ht]; exact hP) (hS.F ht)) hS.2.2 hd hF.2.2.2.2.2.2.2.1)
/-- new: the next cell, its fields 0 or null -/
def cb_0 (ci k : Nat) : ch_V := .inl (if (ch_rf ci k 0).isSome then .null else .int 0)
theorem cb_new {idx ci j N k' : Nat} {C : String} {T : u_T} (ty : Nat → FieldType) (hcl : ch_Cl ci C T N) (hty : ∀ i, i < N → parseFieldDescriptor (T i).2.2.1 = some (ty i) ∧ defaultValue (ty i) = (if (ch_rf ci i 0).isSome then .null else .int 0)) (hd : decode (ch_bc f) pc = .ok (.new idx, 3)) (h1 : Cond.classLink (ch_nm f).cls idx C ∈ ch_good) (h2 : Cond.instantiable C N ∈ ch_good) (h3 : Cond.initialized C ∈ ch_good) (hoff : ch_off ci j = n) (hin : ch_in (ci, j, 0)) (hk : k + 1 ≤ k' ∧ 6 * k + N ≤ 6 * k') (hc : k' ≤ R.cells ∧ 6 * k' ≤ R.slots)
    (kk : cb_J g f R E (pc + 3) ls (.inr (ci, j, 0) :: rest) (cb_H g (n + 1) (fun i => if i = n then .inl (ci, cb_0 ci) else D i)) k') : cb_J g f R E pc ls rest (cb_H g n D) k := by
  intro p e s m args below meth c H locs lm hF hN hP hS ho hs hL
  have hts := hF.2.2.2.2.2.1
  have hK := hF.2.2.2.2.2.2.1.1
  have hKn := hK.1 ci _ hcl.1
  refine W.newcK hF.1 hF.2.1 hF.2.2.2.2.1 (hts _ h1) (hts _ h2) (hts _ h3) rfl hd (by omega) (by omega) hKn.2.1 rfl fun H1 kC hkC e1 z1 o1 => ?_
  have hb := u_born ty hts hcl.2.1 hKn hkC e1 (fun i hi => (hty i hi).1)
  rw [hP.1] at hb
  have hP1 : cb_H g (n + 1) (fun i => if i = n then .inl (ci, cb_0 ci) else D i) H1 := by
    refine cb_H_push (cb_H_cong hP (fun i hi => if_neg (by omega))) z1 o1 ?_
    rw [if_pos rfl]
    refine ⟨_, hcl.1, hb.to (fun i hi => ?_)⟩
    show defaultValue (ty i) = ch_tr g (cb_0 ci i)
    rw [(hty i hi).2]
    rfl
  have ha : ch_adr g (ci, j, 0) = H.size := by
    rw [ch_adr_in hin, hP.1]
    show ch_base g + (ch_off ci j + 0) = _
    rw [hoff]
    rfl
  have kk := kk p e s m args below meth c H1 locs lm hF hN hP1 (cb_S_push hS z1 o1) ho (fun v hv => by
    rcases List.mem_cons.mp hv with e | e
    · rw [e]
      intro a ha
      cases ha
      exact Or.inl (Or.inl hin)
    · exact hs v e) hL
  rw [List.map_cons, show ch_tr g (.inr (ci, j, 0)) = .ref H.size by rw [← ha]; rfl] at kk
  exact W.widen hk.1 hk.2 kk
/-- a new array of a kind that holds no addresses -/
theorem cb_newa {at_ : ArrayType} {ci j c t len k' : Nat} {x : Int32} (hd : decode (ch_bc f) pc = .ok (.newarray at_, 2)) (ht : t < 4) (hty : newarray.typeOf at_ = ch_ty t) (h1 : Cond.arrayClass (newarray.typeOf at_) ∈ ch_good) (hx : x = nI len) (hl : len ≤ 600) (hoff : ch_off ci j + (c + 1) = n) (hin : ch_in (ci, j, c + 1)) (hk : k + 1 ≤ k' ∧ 6 * k + len ≤ 6 * k') (hc : k' ≤ R.cells ∧ 6 * k' ≤ R.slots)
    (kk : cb_J g f R E (pc + 2) ls (.inr (ci, j, c + 1) :: rest) (cb_H g (n + 1) (fun i => if i = n then .inr (t, len, fun _ => .inl (defaultValue (ch_ty t))) else D i)) k') : cb_J g f R E pc ls (.inl (.int x) :: rest) (cb_H g n D) k := by
  intro p e s m args below meth cc H locs lm hF hN hP hS ho hs hL
  have hts := hF.2.2.2.2.2.1
  subst hx
  have hcb : componentBytes (newarray.typeOf at_) ≤ 8 := by
    rw [hty]
    match t, ht with
    | 0, _ => decide
    | 1, _ => decide
    | 2, _ => decide
    | 3, _ => decide
  have hbt : len * componentBytes (newarray.typeOf at_) ≤ 600 * 8 := Nat.mul_le_mul hl hcb
  refine va_newaK hF.1 hF.2.1 (hts _ h1) rfl hd rfl (nI_pos (by omega)) (nI_clamp (by omega)) (by omega) (by omega) (by omega) rfl fun H1 cA e1 z1 o1 hAr hNm => ?_
  have hcA : cA = ch_cA g t := by
    have h := hF.2.2.2.2.2.2.1.1.2
    rw [hty] at hNm
    match t, ht with
    | 0, _ => exact Option.some.inj (hNm.symm.trans (h 0 _ rfl).2)
    | 1, _ => exact Option.some.inj (hNm.symm.trans (h 1 _ rfl).2)
    | 2, _ => exact Option.some.inj (hNm.symm.trans (h 2 _ rfl).2)
    | 3, _ => exact Option.some.inj (hNm.symm.trans (h 3 _ rfl).2)
  have hP1 : cb_H g (n + 1) (fun i => if i = n then .inr (t, len, fun _ => .inl (defaultValue (ch_ty t))) else D i) H1 := by
    refine cb_H_push (cb_H_cong hP (fun i hi => if_neg (by omega))) z1 o1 ?_
    rw [if_pos rfl]
    show H1[ch_base g + n]? = some (arrV (ch_cA g t) len (fun _ => defaultValue (ch_ty t)))
    rw [← hP.1, ← hcA, ← hty]
    exact e1
  have ha : ch_adr g (ci, j, c + 1) = H.size := by
    rw [ch_adr_in hin, hP.1]
    show ch_base g + (ch_off ci j + (c + 1)) = _
    rw [hoff]
  have kk := kk p e s m args below meth cc H1 locs lm hF hN hP1 (cb_S_push hS z1 o1) ho (fun v hv => by
    rcases List.mem_cons.mp hv with e | e
    · rw [e]
      intro a ha
      cases ha
      exact Or.inl (Or.inl hin)
    · exact ch_ok0 hs v e) hL
  rw [List.map_cons, show ch_tr g (.inr (ci, j, c + 1)) = .ref H.size by rw [← ha]; rfl] at kk
  exact W.widen hk.1 hk.2 kk
/-- a final field gets its address, in the constructor -/
theorem cb_putF {idx ci j kf : Nat} {b : ch_Ad} {V : Nat → ch_V} {C : String} {T : u_T} {N : Nat} {ty : FieldType} (hd : decode (ch_bc f) pc = .ok (.putfield idx, 3)) (hcl : ch_Cl ci C T N) (hk : kf < N) (hC : (T kf).1 = C) (hlink : Cond.fieldLink (ch_nm f).cls idx C (T kf).2.1 (T kf).2.2.1 ∈ ch_good) (hfin : (T kf).2.2.2 = true) (hown : C = (ch_nm f).cls) (hini : (ch_nm f).name = "<init>") (hdp : parseFieldDescriptor (T kf).2.2.1 = some ty) (hfit : ∀ q : Nat, narrow ty (.ref q) = .ref q ∧ fits ty (.ref q) = true) (hin : ch_in (ci, j, 0)) (hlt : ch_off ci j < n) (hD : D (ch_off ci j) = .inl (ci, V))
    (kk : cb_J g f R E (pc + 3) ls rest (cb_H g n (fun i => if i = ch_off ci j then .inl (ci, fun q => if q = kf then .inr b else V q) else D i)) k) : cb_J g f R E pc ls (.inr b :: .inr (ci, j, 0) :: rest) (cb_H g n D) k := by
  intro p e s m args below meth c H locs lm hF hN hP hS ho hs hL
  have hts := hF.2.2.2.2.2.1
  have hK := hF.2.2.2.2.2.2.1.1
  obtain ⟨ty0, hty0⟩ := hcl.2.2.1
  have hap := va_apart (D := (ch_dC g, ch_dI g)) (own := (ch_nm f).cls) hts hcl.2.1 ty0 hty0 hcl.2.2.2 hK hcl.1
  have hc := hP.2.2 _ hlt
  rw [hD] at hc
  obtain ⟨r, hr, cell, q1, q2, q3, q4⟩ := hc
  have hr' : r = (C, T, N) := Option.some.inj (hr.symm.trans hcl.1)
  subst hr'
  have ha : ch_adr g (ci, j, 0) = ch_base g + ch_off ci j := ch_adr_in hin
  obtain ⟨hSl, hfc, kC, hkC, hkind⟩ := hK.1 ci _ hcl.1
  obtain ⟨cf, kF, fi, fd, hi, hsl⟩ := hSl kf hk
  have hlay := hts _ (hcl.2.1 _ (u_in_lay hk))
  unfold u_lay at hlay
  rw [if_pos hfin] at hlay
  have hst := (u_facts hfc hkC (u_lays hts hcl.2.1 hk) hi).1
  have hcf : m.cls = cf := by
    obtain ⟨_, _, c', _, _, _, -, -, hf', -, -, -, hown2, -⟩ := Cond.laysFinal_spec hlay
    have e1 : c' = cf := by have := hi.symm.trans hf'; simp at this; exact this.1.symm
    rw [hC, hown] at hown2
    rw [← e1]; exact Option.some.inj (hF.2.2.2.2.1.symm.trans hown2)
  have h6 := u_fits hfc hkC hkind (Or.inr hlay) hi hdp (hfit (ch_adr g b)).1 (hfit (ch_adr g b)).2
  have hi' : s.fieldFound? C (T kf).2.1 (T kf).2.2.1 = some (cf, kF, fi, fd) := by rw [hC] at hi; exact hi
  have hnm : meth.name = "<init>" := hF.2.2.2.2.2.2.2.2.2.2.2.trans hini
  have fin : ∀ H' : Heap, H'[ch_base g + ch_off ci j]? = some (cell.setSlot fd.slot (.ref (ch_adr g b))) → H'.size = H.size → (∀ q, q ≠ ch_base g + ch_off ci j → H'[q]? = H[q]?) → W p (ch_l g) e R s m args below meth c H' (locs ++ [⟨ch_base g + ch_off ci j, fd.slot⟩]) k (6 * k) (E s args below) (F0 m (pc + 3) lm (rest.map (ch_tr g))) := by
    intro H' e1 e2 e3
    refine kk p e s m args below meth c H' _ lm hF hN (cb_H_set hP e2 e3 hlt (fun i _ hne => if_neg hne) ?_) (hS.put e2 e3 (Nat.le_trans hN (Nat.le_add_right _ _))) ho (ch_ok0 (ch_ok0 hs)) hL
    rw [if_pos rfl]
    refine ⟨_, hr, t_OB.to (V := updV (fun q => ch_tr g (V q)) kf (.ref (ch_adr g b))) ⟨_, e1, q2, q3, ?_⟩ (fun i _ => ?_)⟩
    · rw [hsl]
      exact t_set q4 hap hk _
    · by_cases e : i = kf
      · subst e
        simp only [updV, if_true]
        rfl
      · simp only [updV, if_neg e]
  have st : ((.inr b :: .inr (ci, j, 0) :: rest : List ch_V).map (ch_tr g)) = .ref (ch_adr g b) :: .ref (ch_base g + ch_off ci j) :: rest.map (ch_tr g) := by
    rw [List.map_cons, List.map_cons, ← ha]
    rfl
  rw [st]
  exact W.putFinK hF.1 hF.2.1 hF.2.2.2.2.1 (hts _ hlink) hi' hst hcf hnm (by rw [q2]; exact h6) q1 q3 (by rw [hsl]; exact k2_hasslot (q4 kf hk)) rfl rfl hd fin
end CB2
