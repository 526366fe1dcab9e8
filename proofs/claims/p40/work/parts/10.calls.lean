def ch_RR (R : Room) (d : Nat) : Prop := d ≤ R.frames ∧ 128 * d + 64 ≤ R.locals
theorem ch_ws_good {f : ch_MI} (hf : ch_MF f) : GoodIn ch_good (ch_ws f) := by
  intro w hw
  rcases List.mem_cons.mp hw with h | h
  · rw [h]
    exact ⟨hf.1, good_of_word (List.mem_filter.mp hf.1).2⟩
  · exact ⟨h, good_of_word (List.mem_filter.mp h).2⟩
theorem ch_PC_blind {g : ch_G} {as : List ch_V} {mem : ch_M} : FrameBlind (ch_PC g as mem) := by
  intro a U fr mk h
  obtain ⟨h1, ⟨k1, k2, k3, k4, k5, k6, k7, k8, k9, k10⟩, h3, h4⟩ := h
  refine ⟨h1, ⟨va_K.moved (u := U) (U := U.calling fr mk a) (Vm.Alike.refl U.vm) k1, fun w hw => va_Nw.same (ch_oth_on hw) (u := U) (U := U.calling fr mk a) rfl (k2 w hw), k3, vx_Zq.moved (u := U) (U := U.calling fr mk a) (Vm.Alike.refl U.vm) k4, vx_Zq.moved (u := U) (U := U.calling fr mk a) (Vm.Alike.refl U.vm) k5, ch_X_moved (s := U) (U := U.calling fr mk a) (Vm.Alike.refl U.vm) k6, k7, k8, k9.same rfl, k10⟩, h3, h4⟩
/-- a static method, or one without handlers that is called on an object: by the kind of its word -/
def ch_SV (f : ch_MI) (own : String) (idx n : Nat) : Prop := ch_MF f ∧ ch_LK own idx f n
section CHC
variable {g : ch_G} {f : ch_MI} {R : Room} {E : ch_En} {pc : Nat} {ls : ch_LT} {rest : List ch_V} {mem : ch_M} {k : Nat}
/-- how it goes on behind a call -/
def ch_K (g : ch_G) (f : ch_MI) (R : Room) (E : ch_En) (pc : Nat) (ls : ch_LT) (rest : List ch_V) (k : Nat) : ch_O → ch_M → Prop := fun o mem =>
  (∀ v, o = .inl (some v) → ch_ok g v ∧ ch_J g f R E (pc + 3) ls (v :: rest) mem k) ∧ (o = .inl none → ch_J g f R E (pc + 3) ls rest mem k) ∧ ∀ n, o = .inr n → ch_X g f R E pc ls rest n mem k
theorem ch_run {p : Program} {e : Env} {s : State} {m : MethodId} {args a' : Array Value} {below : List Frame} {meth : Method} {c : Code} {H : Heap} {locs : List Loc} {lm : Array Slot} {st0 : List Value} {mc : Nat}
    (hr : vx_Run p (ch_l g) e R s m args below meth c H locs k (6 * k) mc (6 * mc) (F0 m pc lm st0) (rest.map (ch_tr g)) (ch_Qc g (ch_K g f R E pc ls rest (k + mc)) a') (ch_XC g (ch_K g f R E pc ls rest (k + mc))) (ch_A g))
    (hF : ch_FR g f p s m args meth c) (hS : va_S (ch_A g) s.heap H locs) (ho : ∀ o ∈ ls, ∀ v, o = some v → ch_ok g v) (hs : ∀ v ∈ rest, ch_ok g v) (hL : ch_LR g (ch_ml f) ls lm) :
    W p (ch_l g) e R s m args below meth c H locs k (6 * k) (E s args below) (F0 m pc lm st0) := by
  intro T hT X
  have e6 : 6 * (k + mc) = 6 * k + 6 * mc := by omega
  have key : ∀ (st₀ t T' : State) (L : List Loc), st₀.heap = H → (∀ q ∈ L, ch_A g q.base) → T'.heap = t.heap → va_F (ch_A g) st₀ t → va_S (ch_A g) s.heap T'.heap (locs ++ L) := by
    intro st₀ t T' L h0 hL e1 hq
    exact (vx_keep h0 e1 hS (fun q _ h => h) (fun q h => h) hL hq).2.2
  rcases hr T hT X with ⟨v, st₀, t, T', L, h0, X', hLc, e1, e2, ⟨v', mem', hv, hQ, hRp, hFr⟩, st⟩ | ⟨q, st₀, t, T', L, Ex, ce, h0, X', hLc, e1, e2, ⟨n, mem', hE, hn, hQ, hRp, hFr⟩, hce, hcv, hcl, st⟩
  · have hS' := key st₀ t T' L h0 hLc e1 hFr
    have hRp' : ch_Rp g mem' T'.heap := by rw [e1]; exact hRp
    cases hv
    rw [← e6] at X'
    cases v' with
    | none =>
      obtain ⟨t2, a1, b1⟩ := hQ.2.1 rfl p e s m args below meth c T'.heap (locs ++ L) lm hF hRp' hS' ho hs hL T' rfl X'
      exact ⟨t2, st t2 a1, b1⟩
    | some w =>
      obtain ⟨hz, hJ⟩ := hQ.1 w rfl
      obtain ⟨t2, a1, b1⟩ := hJ p e s m args below meth c T'.heap (locs ++ L) lm hF hRp' hS' ho (ch_ok2 hz hs) hL T' rfl X'
      exact ⟨t2, st t2 a1, b1⟩
  · have hS' := key st₀ t T' L h0 hLc e1 hFr
    have hRp' : ch_Rp g mem' T'.heap := by rw [e1]; exact hRp
    rw [← e6] at X'
    obtain ⟨t2, a1, b1⟩ := hQ.2.2 n rfl p e s m args below meth c T'.heap (locs ++ L) lm q ce hF hRp' hS' ho hL hn (by rw [e1]; exact hce) hcv (by rw [← hE]; exact hcl) T' rfl X'
    exact ⟨t2, st.trans a1, b1⟩
theorem ch_sum {g : ch_G} : ∀ (l : List ch_V), ((l.map (ch_tr g)).map fun v => v.category).sum = (l.map ch_cat).sum
  | [] => rfl
  | v :: l => by simp only [List.map_cons, List.sum_cons]; rw [ch_cat_tr, ch_sum l]
theorem ch_len {y : MethodName} {n : Nat} (h : (parseMethodDescriptor y.desc).map (fun d => d.parameters.length) = some n) : ∀ sig, parseMethodDescriptor y.desc = some sig → n = sig.parameters.length := by
  intro sig hs
  rw [hs] at h
  exact (Option.some.inj h).symm
theorem ch_ini (s : State) (y : String) (args a' : Array Value) (U : State) (h : (Cond.initialized y).before args s = true) (hW : s.WarmedH U.vm) : (Cond.initialized y).before a' U = true := word_at hW (Or.inl rfl) h
theorem ch_hb {f' : ch_MI} {own : String} {idx n : Nat} {s : State} {args : Array Value} (h : ch_SV f' own idx n) (hts : ∀ w ∈ ch_good, w.before args s = true) (hR : ch_RR R (ch_fr f' + 1)) :
    (ch_rm f').cells = ch_mc f' ∧ (ch_rm f').slots = 6 * ch_mc f' ∧ (ch_rm f').frames + 1 ≤ R.frames ∧ 8 + (ch_ml f' + 11) + (ch_rm f').locals ≤ R.locals ∧ (∀ w ∈ ch_ws f', ∀ (a' : Array Value) (U : State), s.WarmedH U.vm → w.before a' U = true) := by
  have h5 := h.1.2.2.2.2
  refine ⟨rfl, rfl, hR.1, ?_, pay_in hts (ch_ws_good h.1)⟩
  have := hR.2
  show 8 + (ch_ml f' + 11) + (128 * ch_fr f' + 64) ≤ R.locals
  omega
theorem ch_pre {f' : ch_MI} {as : List ch_V} {s : State} {H : Heap} {m : MethodId} {args : Array Value} {p : Program} {meth : Method} {c : Code} (hF : ch_FR g f p s m args meth c) (hR : ch_Rp g mem H) : ∀ U : State, U.heap = H → s.WarmedH U.vm → ch_PC g as mem (as.map (ch_tr g)).toArray U :=
  fun U hU hW => ⟨rfl, hF.2.2.2.2.2.2.1.warm hW, by rw [hU]; exact hR, by rw [hU]; exact hR.1⟩
/-- a method of an object of the world is called -/
theorem ch_callV {f' : ch_MI} {idx n ci j : Nat} {as : List ch_V} (hd : decode (ch_bc f) pc = .ok (.invokevirtual idx, 3)) (hsv : ch_SV f' (ch_nm f).cls idx n) (hi : Cond.instanceMethod (ch_nm f') ∈ ch_good) (hse : Cond.selects (ch_nm f').cls (ch_nm f') (ch_nm f') ∈ ch_good) (hhh : ch_hh f' = []) (hcl : (ch_cls[ci]?).map (fun r => r.1) = some (ch_nm f').cls)
    (hn : as.length = n) (hRR : ch_RR R (ch_fr f' + 1)) (hcat : (rest.map ch_cat).sum ≤ 8) (hcs : k + ch_mc f' ≤ R.cells ∧ 6 * k + 6 * ch_mc f' ≤ R.slots)
    (h : ch_C g f' (.inr (ci, j, 0) :: as) mem (ch_K g f R E pc ls rest (k + ch_mc f'))) : ch_J g f R E pc ls (as.reverse ++ .inr (ci, j, 0) :: rest) mem k := by
  intro p e s m args below meth c H locs lm hF hR hS ho hs hL
  obtain ⟨hrc, hrs, hfr, hlo, hws⟩ := ch_hb hsv hF.2.2.2.2.2.1 hRR
  have hts := hF.2.2.2.2.2.1
  have hci : ci < 11 := by
    cases hx : ch_cls[ci]? with
    | none => rw [hx] at hcl; cases hcl
    | some r => exact (List.getElem?_eq_some_iff.mp hx).1
  have hso : ∀ v ∈ (.inr (ci, j, 0) :: as : List ch_V), ch_ok g v := by
    intro v hv
    refine hs v ?_
    rcases List.mem_cons.mp hv with e | e
    · rw [e]; exact List.mem_append_right _ List.mem_cons_self
    · exact List.mem_append_left _ (List.mem_reverse.mpr e)
  have hs' : ∀ v ∈ rest, ch_ok g v := fun v hv => hs v (List.mem_append_right _ (List.mem_cons_of_mem _ hv))
  have hin : ch_inx g (ci, j, 0) := ch_ok_in (hso _ List.mem_cons_self) (Or.inl (by show ci ≤ 10; omega))
  obtain ⟨r, hr, cell, c1, c2, c3, -⟩ := hR.2.2.1 _ hin
  have hrn : r.1 = (ch_nm f').cls := by rw [hr] at hcl; exact Option.some.inj hcl
  have hM := h hF.2.2.2.2.2.2.2.2.2.1 hso
  have hcw : ch_cw f' = Cond.code (ch_nm f') (ch_bc f') (ch_ml f') (ch_rt f') := by unfold ch_cw; rw [hhh]
  have hcode := hsv.1.1
  rw [hcw] at hcode
  refine ch_run (vx_runV (As := as.map (ch_tr g)) (C := (ch_nm f').cls) (rm := ch_rm f') (n := n) (bytes := ch_bc f') (maxL := ch_ml f') (ret := ch_rt f') ⟨hF.1, hF.2.1, hF.2.2.2.1, hF.2.2.2.2.1, hts⟩ hM ⟨⟨hrc, hrs, hfr, hlo, hws, by unfold ch_ws; rw [hcw]; exact List.mem_cons_self, hts _ hcode, hts _ hsv.1.2.1, hsv.1.2.2.1, ch_len hsv.2.2, hts _ hsv.2.1⟩, hts _ hi, hts _ hse⟩
    ⟨ch_PC_blind, ⟨cell, c1, by rw [c3]; rfl, by rw [c2, ← hrn]; exact (hF.2.2.2.2.2.2.1.1.1 ci r hr).2.1⟩, ch_pre (f' := f') hF hR⟩ rfl (by rw [List.length_map]; exact hn) hL.1 ?_ (by show 2 * 0 + _ ≤ 8; rw [ch_sum]; omega) hd hcs) hF hS ho hs' hL
  show (as.reverse ++ .inr (ci, j, 0) :: rest).map (ch_tr g) = _
  rw [List.map_append, List.map_reverse, List.map_cons]
  rfl
/-- a static method without handlers is called -/
theorem ch_callS {f' : ch_MI} {idx n : Nat} {as : List ch_V} (hd : decode (ch_bc f) pc = .ok (.invokestatic idx, 3)) (hsv : ch_SV f' (ch_nm f).cls idx n) (hi : Cond.static (ch_nm f') ∈ ch_good) (hhh : ch_hh f' = [])
    (hn : as.length = n) (hRR : ch_RR R (ch_fr f' + 1)) (hcat : (rest.map ch_cat).sum ≤ 8) (hcs : k + ch_mc f' ≤ R.cells ∧ 6 * k + 6 * ch_mc f' ≤ R.slots)
    (h : ch_C g f' as mem (ch_K g f R E pc ls rest (k + ch_mc f'))) : ch_J g f R E pc ls (as.reverse ++ rest) mem k := by
  intro p e s m args below meth c H locs lm hF hR hS ho hs hL
  obtain ⟨hrc, hrs, hfr, hlo, hws⟩ := ch_hb hsv hF.2.2.2.2.2.1 hRR
  have hts := hF.2.2.2.2.2.1
  have hso : ∀ v ∈ as, ch_ok g v := fun v hv => hs v (List.mem_append_left _ (List.mem_reverse.mpr hv))
  have hs' : ∀ v ∈ rest, ch_ok g v := fun v hv => hs v (List.mem_append_right _ hv)
  have hM := h hF.2.2.2.2.2.2.2.2.2.1 hso
  have hcw : ch_cw f' = Cond.code (ch_nm f') (ch_bc f') (ch_ml f') (ch_rt f') := by unfold ch_cw; rw [hhh]
  have hcode := hsv.1.1
  rw [hcw] at hcode
  refine ch_run (vx_runS (As := as.map (ch_tr g)) (rm := ch_rm f') (n := n) (bytes := ch_bc f') (maxL := ch_ml f') (ret := ch_rt f') ⟨hF.1, hF.2.1, hF.2.2.2.1, hF.2.2.2.2.1, hts⟩ hM ⟨⟨hrc, hrs, hfr, hlo, hws, by unfold ch_ws; rw [hcw]; exact List.mem_cons_self, hts _ hcode, hts _ hsv.1.2.1, hsv.1.2.2.1, ch_len hsv.2.2, hts _ hsv.2.1⟩, hts _ hi⟩
    ⟨ch_PC_blind, ch_pre (f' := f') hF hR⟩ rfl (by rw [List.length_map]; exact hn) hL.1 ?_ (by show 2 * 0 + _ ≤ 8; rw [ch_sum]; omega) hd hcs) hF hS ho hs' hL
  show (as.reverse ++ rest).map (ch_tr g) = _
  rw [List.map_append, List.map_reverse]
/-- a static method with handlers is called -/
theorem ch_callSX {f' : ch_MI} {idx n : Nat} {as : List ch_V} {hx : Nat × Nat × Nat × Nat} {hl : List (Nat × Nat × Nat × Nat)} (hd : decode (ch_bc f) pc = .ok (.invokestatic idx, 3)) (hsv : ch_SV f' (ch_nm f).cls idx n) (hi : Cond.static (ch_nm f') ∈ ch_good) (hhh : ch_hh f' = hx :: hl)
    (hn : as.length = n) (hRR : ch_RR R (ch_fr f' + 1)) (hcat : (rest.map ch_cat).sum ≤ 8) (hcs : k + ch_mc f' ≤ R.cells ∧ 6 * k + 6 * ch_mc f' ≤ R.slots)
    (h : ch_C g f' as mem (ch_K g f R E pc ls rest (k + ch_mc f'))) : ch_J g f R E pc ls (as.reverse ++ rest) mem k := by
  intro p e s m args below meth c H locs lm hF hR hS ho hs hL
  obtain ⟨hrc, hrs, hfr, hlo, hws⟩ := ch_hb hsv hF.2.2.2.2.2.1 hRR
  have hts := hF.2.2.2.2.2.1
  have hso : ∀ v ∈ as, ch_ok g v := fun v hv => hs v (List.mem_append_left _ (List.mem_reverse.mpr hv))
  have hs' : ∀ v ∈ rest, ch_ok g v := fun v hv => hs v (List.mem_append_right _ hv)
  have hM := h hF.2.2.2.2.2.2.2.2.2.1 hso
  have hcw : ch_cw f' = Cond.codeWith (ch_nm f') (ch_bc f') (ch_ml f') (ch_rt f') (ch_hh f') := by unfold ch_cw; rw [hhh]
  have hcode := hsv.1.1
  rw [hcw] at hcode
  refine ch_run (vx_runSX (As := as.map (ch_tr g)) (rm := ch_rm f') (n := n) (bytes := ch_bc f') (maxL := ch_ml f') (ret := ch_rt f') (hh := ch_hh f') ⟨hF.1, hF.2.1, hF.2.2.2.1, hF.2.2.2.2.1, hts⟩ hM ⟨⟨hrc, hrs, hfr, hlo, hws, by unfold ch_ws; rw [hcw]; exact List.mem_cons_self⟩, hts _ hcode, hts _ hsv.1.2.1, hsv.1.2.2.1, ch_len hsv.2.2, hts _ hsv.2.1, hts _ hi⟩
    ⟨ch_PC_blind, ch_pre (f' := f') hF hR⟩ rfl (by rw [List.length_map]; exact hn) hL.1 ?_ (by show 2 * 0 + _ ≤ 8; rw [ch_sum]; omega) hd hcs) hF hS ho hs' hL
  show (as.reverse ++ rest).map (ch_tr g) = _
  rw [List.map_append, List.map_reverse]
end CHC
