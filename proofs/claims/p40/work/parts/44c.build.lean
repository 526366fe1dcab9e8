section CB3
variable {g : ch_G} {f : ch_MI} {R : Room} {E : ch_En} {pc : Nat} {ls ls' : ch_LT} {rest : List ch_V} {D : Nat → cb_d} {n k : Nat}
theorem cb_putI {idx ci j kf : Nat} {x : Int32} {V : Nat → ch_V} {ty : FieldType} (hd : decode (ch_bc f) pc = .ok (.putfield idx, 3)) (hl : ch_FP (ch_nm f).cls idx ci kf ty) (hn : narrow ty (.int x) = .int x) (hfit : fits ty (.int x) = true) (hin : ch_in (ci, j, 0)) (hlt : ch_off ci j < n) (hD : D (ch_off ci j) = .inl (ci, V))
    (kk : cb_J g f R E (pc + 3) ls rest (cb_H g n (fun i => if i = ch_off ci j then .inl (ci, fun q => if q = kf then .inl (.int x) else V q) else D i)) k) : cb_J g f R E pc ls (.inl (.int x) :: .inr (ci, j, 0) :: rest) (cb_H g n D) k := by
  intro p e s m args below meth c H locs lm hF hN hP hS ho hs hL
  obtain ⟨C, T, N, hcl, hk, hlink, hfin, hty⟩ := hl
  have hts := hF.2.2.2.2.2.1
  have hK := hF.2.2.2.2.2.2.1.1
  obtain ⟨ty0, hty0⟩ := hcl.2.2.1
  have hap := va_apart (D := (ch_dC g, ch_dI g)) (own := (ch_nm f).cls) hts hcl.2.1 ty0 hty0 hcl.2.2.2 hK hcl.1
  have hc := hP.2.2 _ hlt
  rw [hD] at hc
  obtain ⟨r, hr, cell, q1, q2, q3, q4⟩ := hc
  have hr' : r = (C, T, N) := Option.some.inj (hr.symm.trans hcl.1)
  subst hr'
  have ha : ch_adr g (ci, j, 0) = ch_base g + ch_off ci j := ch_adr_in hin
  obtain ⟨hSl, hfc, kC, hkC, hkind⟩ := hK.1 ci _ hcl.1
  obtain ⟨cf, kF, fi, fd, hi, hsl⟩ := hSl kf hk
  have hlay := hts _ (hcl.2.1 _ (u_in_lay hk))
  unfold u_lay at hlay
  rw [if_neg (by rw [hfin]; decide)] at hlay
  have hst := (u_facts hfc hkC (u_lays hts hcl.2.1 hk) hi).1
  have h6 := u_store hfc hkC hkind hlay hi hty hn hfit
  have hi' : s.fieldFound? (T kf).1 (T kf).2.1 (T kf).2.2.1 = some (cf, kF, fi, fd) := hi
  have fin : ∀ H' : Heap, H'[ch_base g + ch_off ci j]? = some (cell.setSlot fd.slot (.int x)) → H'.size = H.size → (∀ q, q ≠ ch_base g + ch_off ci j → H'[q]? = H[q]?) → W p (ch_l g) e R s m args below meth c H' (locs ++ [⟨ch_base g + ch_off ci j, fd.slot⟩]) k (6 * k) (E s args below) (F0 m (pc + 3) lm (rest.map (ch_tr g))) := by
    intro H' e1 e2 e3
    refine kk p e s m args below meth c H' _ lm hF hN (cb_H_set hP e2 e3 hlt (fun i _ hne => if_neg hne) ?_) (hS.put e2 e3 (Nat.le_trans hN (Nat.le_add_right _ _))) ho (ch_ok0 (ch_ok0 hs)) hL
    rw [if_pos rfl]
    refine ⟨_, hr, t_OB.to (V := updV (fun q => ch_tr g (V q)) kf (.int x)) ⟨_, e1, q2, q3, ?_⟩ (fun i _ => ?_)⟩
    · rw [hsl]
      exact t_set q4 hap hk _
    · by_cases e : i = kf
      · subst e
        simp only [updV, if_true]
        rfl
      · simp only [updV, if_neg e]
  have st : ((.inl (.int x) :: .inr (ci, j, 0) :: rest : List ch_V).map (ch_tr g)) = .int x :: .ref (ch_base g + ch_off ci j) :: rest.map (ch_tr g) := by
    rw [List.map_cons, List.map_cons, ← ha]
    rfl
  rw [st]
  rcases hlink with h | ⟨host, h⟩
  · exact W.putK hF.1 hF.2.1 (f := fd) ⟨hF.2.2.2.2.1, hts _ h, ⟨_, _, _, hi'⟩, hst⟩ (by rw [q2]; exact h6) q1 q3 (by rw [hsl]; exact k2_hasslot (q4 kf hk)) rfl rfl hd fin
  · exact va_WputK hF.1 hF.2.1 (f := fd) hF.2.2.2.2.1 (va_Nw.use (ch_oth_on h) (hF.2.2.2.2.2.2.1.2.1 _ h)) hi' hst (by rw [q2]; exact h6) q1 q3 (by rw [hsl]; exact k2_hasslot (q4 kf hk)) rfl rfl hd fin
/-- an int is written into a row -/
theorem cb_iast {ci j c len : Nat} {x y : Int32} {F : Nat → ch_V} (hd : decode (ch_bc f) pc = .ok (.iastore, 1)) (hin : ch_in (ci, j, c + 1)) (hlt : ch_off ci j + (c + 1) < n) (hD : D (ch_off ci j + (c + 1)) = .inr (0, len, F)) (hx : vp_in x len)
    (kk : cb_J g f R E (pc + 1) ls rest (cb_H g n (fun i => if i = ch_off ci j + (c + 1) then .inr (0, len, fun q => if q = x.toNatClampNeg then .inl (.int y) else F q) else D i)) k) : cb_J g f R E pc ls (.inl (.int y) :: .inl (.int x) :: .inr (ci, j, c + 1) :: rest) (cb_H g n D) k := by
  intro p e s m args below meth cc H locs lm hF hN hP hS ho hs hL
  have hc := hP.2.2 _ hlt
  rw [hD] at hc
  have hc : H[ch_base g + (ch_off ci j + (c + 1))]? = some (arrV (ch_cA g 0) len (fun q => ch_tr g (F q))) := hc
  have hA := ch_arrK hF.2.2.2.2.2.2.1 (t := 0) (by decide)
  have ha : ch_adr g (ci, j, c + 1) = ch_base g + (ch_off ci j + (c + 1)) := ch_adr_in hin
  have st : ((.inl (.int y) :: .inl (.int x) :: .inr (ci, j, c + 1) :: rest : List ch_V).map (ch_tr g)) = .int y :: .int x :: .ref (ch_base g + (ch_off ci j + (c + 1))) :: rest.map (ch_tr g) := by
    rw [List.map_cons, List.map_cons, List.map_cons, ← ha]
    rfl
  rw [st]
  refine W.iast hF.1 hF.2.1 hc (hA _ _) (fun q => by cases q) (ch_inv hx _ _) rfl rfl hd (fun H' e1 e2 e3 => ?_)
  refine kk p e s m args below meth cc H' _ lm hF hN (cb_H_set hP e2 e3 hlt (fun i _ hne => if_neg hne) ?_) (hS.put e2 e3 (Nat.le_trans hN (Nat.le_add_right _ _))) ho (ch_ok0 (ch_ok0 (ch_ok0 hs))) hL
  rw [if_pos rfl]
  show H'[ch_base g + (ch_off ci j + (c + 1))]? = some (arrV (ch_cA g 0) len (fun q => ch_tr g (if q = x.toNatClampNeg then .inl (.int y) else F q)))
  rw [e1, arrV_store]
  congr 2
  funext q
  unfold updV
  by_cases h : q = x.toNatClampNeg
  · rw [if_pos h, if_pos h]; rfl
  · rw [if_neg h, if_neg h]
/-! contracts of constructors -/
def cb_PC (g : ch_G) (as : List ch_V) (P : Heap → Prop) : Array Value → State → Prop := fun a U => a = (as.map (ch_tr g)).toArray ∧ ch_WV g U ∧ ch_lo g ≤ ch_base g ∧ P U.heap ∧ ch_base g ≤ U.heap.size
def cb_Q (g : ch_G) (P : Heap → Prop) : Array Value → State → Outcome → State → Prop := va_Qv (fun _ : Unit => True) (fun _ t => P t.heap) (ch_A g)
def cb_C (g : ch_G) (f : ch_MI) (as : List ch_V) (P P' : Heap → Prop) : Prop := (ch_l g).stackTraces = false → (∀ v ∈ as, ch_ok g v) → Met (ch_l g) (ch_nm f) (ch_ws f) (ch_rm f) (cb_PC g as P) (cb_Q g P') (ch_mc f) (6 * ch_mc f) (ch_A g)
def cb_E (g : ch_G) (f : ch_MI) (P' : Heap → Prop) : ch_En := fun s args below => MQ below (cb_Q g P') args s (ch_mc f) (6 * ch_mc f) (ch_A g)
theorem cb_ret {P P' : Heap → Prop} (hd : decode (ch_bc f) pc = .ok (.return_, 1)) (hr : ch_rt f = none) (hk : k ≤ ch_mc f) (hq : ∀ H, P H → P' H) : cb_J g f (ch_rm f) (cb_E g f P') pc ls [] P k :=
  cb_vret hd hr hk (fun st t a h hf => ⟨⟨(), rfl, trivial, hq _ h⟩, hf⟩)
theorem cb_enter {as : List ch_V} {P P' : Heap → Prop} (hf : ch_MF f) (hhh : ch_hh f = []) (hcat : ∀ v ∈ as, ch_cat v = 1) (hlen : as.length ≤ ch_ml f)
    (h : cb_J g f (ch_rm f) (cb_E g f P') 0 (as.map some ++ List.replicate (ch_ml f - as.length) none) [] P 0) : cb_C g f as P P' := by
  intro htr hok
  have hcw : ch_cw f = Cond.code (ch_nm f) (ch_bc f) (ch_ml f) (ch_rt f) := by unfold ch_cw; rw [hhh]
  refine ch_MofW (cc := ch_bc f) (maxL := ch_ml f) (ret := ch_rt f) (ws' := ch_good) hf.2.2.2.1 (by unfold ch_ws; rw [hcw]) ?_
  intro p e s m args below meth c s₁ B hml hP
  obtain ⟨rfl, hW, hAO, hR, hb⟩ := hP
  have hts := atoms_spec (ws := ch_ws f) B.pre
  rw [lg_entry_eq]
  refine h p e s m _ below meth c s.heap [] _ ⟨B.exec, B.bytes, B.returns, hml, findClass_of_methodNamed B.named, ch_good_pre hts, hW, B.notSynchronized, ch_cw_tab (hts _ List.mem_cons_self) B.named B.method (Stand.of_body B).code, htr, Nat.le_trans hAO hb, (name_of_methodNamed B.named B.method).1⟩ hAO hR va_S.rf ?_ (fun v hv => by cases hv) (ch_entry g as (ch_ml f) hcat hlen)
  intro o ho v hv
  subst hv
  rcases List.mem_append.mp ho with h1 | h1
  · obtain ⟨w, hw, he⟩ := List.mem_map.mp h1
    rw [← Option.some.inj he]
    exact hok w hw
  · have := List.eq_of_mem_replicate h1
    cases this
theorem cb_PC_blind {as : List ch_V} {P : Heap → Prop} : FrameBlind (cb_PC g as P) := by
  intro a U fr mk h
  obtain ⟨h1, ⟨k1, k2, k3, k4, k5, k6, k7, k8, k9, k10⟩, hAO, h3, h4⟩ := h
  refine ⟨h1, ⟨va_K.moved (u := U) (U := U.calling fr mk a) (Vm.Alike.refl U.vm) k1, fun w hw => va_Nw.same (ch_oth_on hw) (u := U) (U := U.calling fr mk a) rfl (k2 w hw), k3, vx_Zq.moved (u := U) (U := U.calling fr mk a) (Vm.Alike.refl U.vm) k4, vx_Zq.moved (u := U) (U := U.calling fr mk a) (Vm.Alike.refl U.vm) k5, ch_X_moved (s := U) (U := U.calling fr mk a) (Vm.Alike.refl U.vm) k6, k7, k8, k9.same rfl, k10⟩, hAO, h3, h4⟩
/-- a constructor is called -/
theorem cb_call {f' : ch_MI} {idx : Nat} {a : ch_Ad} {P P' : Heap → Prop} (hd : decode (ch_bc f) pc = .ok (.invokespecial idx, 3)) (hsv : ch_SV f' (ch_nm f).cls idx 0) (hi : Cond.instanceMethod (ch_nm f') ∈ ch_good) (hnm : (ch_nm f').name = "<init>") (hhh : ch_hh f' = []) (hrt : ch_rt f' = none) (hRR : ch_RR R (ch_fr f' + 1)) (hcat : (rest.map ch_cat).sum ≤ 8) (hcs : k + ch_mc f' ≤ R.cells ∧ 6 * k + 6 * ch_mc f' ≤ R.slots) (hb : ∀ H, P H → ch_base g ≤ H.size)
    (h : cb_C g f' [.inr a] P P') (kk : cb_J g f R E (pc + 3) ls rest P' (k + ch_mc f')) : cb_J g f R E pc ls (.inr a :: rest) P k := by
  intro p e s m args below meth c H locs lm hF hN hP hS ho hs hL
  obtain ⟨hrc, hrs, hfr, hlo, hws⟩ := ch_hb hsv hF.2.2.2.2.2.1 hRR
  have hts := hF.2.2.2.2.2.1
  have hM := h hF.2.2.2.2.2.2.2.2.2.1 (fun v hv => by
    rcases List.mem_cons.mp hv with e | e
    · rw [e]; exact ch_okh hs
    · cases e)
  have hcw : ch_cw f' = Cond.code (ch_nm f') (ch_bc f') (ch_ml f') (ch_rt f') := by unfold ch_cw; rw [hhh]
  have hcode := hsv.1.1
  rw [hcw] at hcode
  rw [hrt] at hcw hcode
  refine va_callv (va_runI (As := []) (b := ch_adr g a) (rest := rest.map (ch_tr g)) (n := 0) (bytes := ch_bc f') (maxL := ch_ml f') ⟨hF.1, hF.2.1, hF.2.2.2.1, hF.2.2.2.2.1, hts⟩ hM ⟨⟨hrc, hrs, hfr, hlo, hws, by unfold ch_ws; rw [hcw]; exact List.mem_cons_self, hts _ hcode, hts _ hsv.1.2.1, hsv.1.2.2.1, ch_len hsv.2.2, hts _ hsv.2.1⟩, hnm, hts _ hi⟩
    ⟨cb_PC_blind, fun U hU hW => ⟨rfl, hF.2.2.2.2.2.2.1.warm hW, hN, by rw [hU]; exact hP, by rw [hU]; exact hb _ hP⟩⟩ rfl rfl hL.1 rfl (by show 2 * 0 + _ ≤ 8; rw [ch_sum]; omega) hd hcs) hS (fun q _ h => h) (fun q h => h) (fun u t H1 locs1 ht hvm _ hB hz hk hS1 => ?_)
  have := kk p e s m args below meth c H1 locs1 lm hF hN (by rw [← ht]; exact hB) hS1 ho (ch_ok0 hs) hL
  rw [Nat.mul_add] at this
  exact this
end CB3
