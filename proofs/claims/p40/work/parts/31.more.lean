/-! more of entries, ends and room -/
theorem ch_ol_iff {q : Int64 → ch_M → Prop} {r : Int64} {m : ch_M} : ch_ol q (.inl (some (.inl (.long r)))) m ↔ q r m :=
  ⟨fun ⟨_, e, h⟩ => by cases e; exact h, fun h => ⟨r, rfl, h⟩⟩
theorem ch_oa_iff {q : ch_Ad → ch_M → Prop} {r : ch_Ad} {m : ch_M} : ch_oa q (.inl (some (.inr r))) m ↔ q r m :=
  ⟨fun ⟨_, e, h⟩ => by cases e; exact h, fun h => ⟨r, rfl, h⟩⟩
theorem ch_rk {k B M a b : Nat} (h : k + B ≤ M) (hb : a + b ≤ B) (_hb2 : b ≤ B) : k + a + b ≤ M ∧ 6 * (k + a) + 6 * b ≤ 6 * M := by omega
theorem ch_rk0 {k B M b : Nat} (h : k + B ≤ M) (hb : b ≤ B) (_hb2 : b ≤ B) : k + b ≤ M ∧ 6 * k + 6 * b ≤ 6 * M := by omega
/-- an entry with the formatter among the arguments -/
theorem ch_enterF {g : ch_G} {f : ch_MI} {as : List ch_V} {mem : ch_M} {Q : ch_O → ch_M → Prop} (hf : ch_MF f) (hcat : (ch_sv g).category = 1 → ∀ v ∈ as, ch_cat v = 1) (hlen : as.length ≤ ch_ml f)
    (h : ch_J g f (ch_rm f) (ch_E g f Q) 0 (as.map some ++ List.replicate (ch_ml f - as.length) none) [] mem 0) : ch_C g f as mem Q := by
  by_cases hc : (ch_sv g).category = 1
  · exact ch_enter hf (hcat hc) hlen h
  · intro htr hok p e ha hfr hk s m args below hfr2 happ hP hK
    exact absurd hP.2.1.2.2.2.2.2.2.2.2.1.2.2.2.2.1.2 hc
/-- an entry with one double -/
theorem ch_entryD (g : ch_G) (d : UInt64) (n : Nat) (hn : 2 ≤ n) :
    ch_LR g n (some (.inl (.double d)) :: none :: List.replicate (n - 2) none) ((lg_sl [Value.double d] ++ List.replicate (n - (lg_sl [Value.double d]).length) Slot.unset).toArray) := by
  have hl : (lg_sl [Value.double d]).length ≤ n := by show 2 ≤ n; exact hn
  obtain ⟨h1, h2, h3⟩ := lv_entry [Value.double d] hl
  refine ⟨h1, h2, fun i v hv => ?_⟩
  match i with
  | 0 =>
    cases hv
    exact h3 (0, .double d) List.mem_cons_self
  | 1 => cases hv
  | i + 2 =>
    rw [List.getElem?_cons_succ, List.getElem?_cons_succ] at hv
    have := List.eq_of_mem_replicate (List.mem_of_getElem? hv)
    cases this
theorem ch_enterD {g : ch_G} {f : ch_MI} {d : UInt64} {mem : ch_M} {Q : ch_O → ch_M → Prop} (hf : ch_MF f) (hlen : 2 ≤ ch_ml f) (hhh : ch_hh f = [])
    (h : ch_J g f (ch_rm f) (ch_E g f Q) 0 (some (.inl (.double d)) :: none :: List.replicate (ch_ml f - 2) none) [] mem 0) : ch_C g f [.inl (.double d)] mem Q := by
  intro htr hok
  refine ch_ofW (cc := ch_bc f) (maxL := ch_ml f) (ret := ch_rt f) (ws' := ch_good) hf.2.2.2.1 (by unfold ch_ws ch_cw; rw [hhh]) (fun p e s m args below meth c s₁ B hml _ hP => ?_)
  obtain ⟨rfl, hW, hR, hb⟩ := hP
  have hts := atoms_spec (ws := ch_ws f) B.pre
  rw [lg_entry_eq]
  refine h p e s m _ below meth c s.heap [] _ ⟨B.exec, B.bytes, B.returns, hml, findClass_of_methodNamed B.named, ch_good_pre hts, hW, B.notSynchronized, ch_cw_tab (hts _ List.mem_cons_self) B.named B.method (Stand.of_body B).code, htr, hb, (name_of_methodNamed B.named B.method).1⟩ hR va_S.rf ?_ (fun v hv => by cases hv) (ch_entryD g d (ch_ml f) hlen)
  intro o ho v hv
  subst hv
  rcases List.mem_cons.mp ho with h1 | h1
  · rw [Option.some.inj h1]; exact ch_okl
  · rcases List.mem_cons.mp h1 with h1 | h1
    · cases h1
    · have := List.eq_of_mem_replicate h1
      cases this
/-! a call with more below it on the stack -/
section CHW1
variable {p : Program} {l : Launch} {e : Env} {R : Room} {s : State} {m : MethodId} {args : Array Value} {below : List Frame} {meth : Method} {c : Code} {T : State} {H : Heap} {locs : List Loc} {cells slots : Nat}
variable {y : MethodName} {bytes cc : ByteArray} {maxL nL mc ms n index : Nat} {ret : Option FieldType} {ws : List Cond} {rm : Room} {Pc : Array Value → State → Prop} {Qc : Array Value → State → Outcome → State → Prop} {XC : String → State → State → Prop} {free : Addr → Prop} {Ts : List Cond} {own C : String} {b : Addr} {As rest : List Value} {g : JFrame}
theorem ch_runSXw {hh : List (Nat × Nat × Nat × Nat)} (S : CallFix p m c cc nL s args Ts own) (hM : vx_Met l y ws rm Pc Qc XC mc ms free) (cw : (rm.cells = mc ∧ rm.slots = ms ∧ rm.frames + 1 ≤ R.frames ∧ 20 + (maxL + 11) + rm.locals ≤ R.locals ∧ (∀ w ∈ ws, ∀ (a' : Array Value) (U : State), s.WarmedH U.vm → w.before a' U = true) ∧ Cond.codeWith y bytes maxL ret hh ∈ ws) ∧ (Cond.codeWith y bytes maxL ret hh).before args s = true ∧ (Cond.initialized y.cls).before args s = true ∧ (y.cls ≠ "java/lang/invoke/MethodHandle" ∧ y.cls ≠ "java/lang/invoke/VarHandle") ∧ (∀ sig, parseMethodDescriptor y.desc = some sig → n = sig.parameters.length) ∧ (Cond.methodLink own index y).before args s = true ∧ (Cond.static y).before args s = true) (hp : PreS s H Pc As)
    (hg : g.method = m) (hn : As.length = n) (hsize : g.locals.size = nL) (hstack : g.stack = As.reverse ++ rest) (hW : 2 * g.monitorRoom + (rest.map fun v => v.category).sum ≤ 20) (hdg : decode cc g.pc = .ok (.invokestatic index, 3)) (hf : cells + mc ≤ R.cells ∧ slots + ms ≤ R.slots) :
    vx_Run p l e R s m args below meth c H locs cells slots mc ms g rest (Qc As.toArray) XC free := by
  obtain ⟨⟨hrc, hrs, hfr, hlo, hws, hcw⟩, hcode, hini, hy, hlen, hl, hstt⟩ := cw
  have hK : vx_Back l R p e below s args y 3 20 (PreOf R mc ms Pc) (PostOf Qc mc ms free) (vx_Post XC mc ms free) := vx_backW (hh := hh) (bytes := bytes) (maxL := maxL) (ret := ret) hM hp.1 hrc hrs hfr hlo hws hcw (fun a' U hW => word_at hW (Or.inl (by first | rfl | simp [Cond.onTables, Cond.keeps, Cond.steady])) hini)
  obtain ⟨hx, hb, hml, ho, -⟩ := S
  intro T hT X
  rcases vx_callSX X hx (hh := hh) (bytes := bytes) (maxL := maxL) (ret := ret) ho hl hstt hini hcode hy hK hg (hsize.trans hml.symm) (argsL := As) (rest := rest) (fun sig h => hn.trans (hlen sig h)) hstack hW (by rw [hb]; exact hdg)
    (fun vm₁ hW₁ => ⟨hf.1, hf.2, hp.2 (T.setVm vm₁) hT hW₁⟩) with ⟨v, vm₁, ⟨U', l2, c2, s2⟩, hW₁, X', ⟨g', mk, t, L, e1, e2, hq, h1, hL, h2, h3⟩, st⟩ | ⟨q, vm₁, ⟨U', l2, c2, s2⟩, hW₁, X', ⟨g', mk, t, L, E, ce, e1, e2, hq, hce, hcv, hcl, h1, hL, h2, h3⟩, st⟩
  · dsimp only [Pt.U, Pt.locs, Pt.cells, Pt.slots] at X' e1 e2 h1 h2 h3 st
    subst h1; subst h2; subst h3
    exact Or.inl ⟨v, (T.setVm vm₁).calling g' mk As.toArray, t, U', L, hT, X', hL, e1, e2, hq, st⟩
  · dsimp only [Pt.U, Pt.locs, Pt.cells, Pt.slots] at X' e1 e2 h1 h2 h3 st hcl
    subst h1; subst h2; subst h3
    exact Or.inr ⟨q, (T.setVm vm₁).calling g' mk As.toArray, t, U', L, E, ce, hT, X', hL, e1, e2, hq, hce, hcv, vx_cls hW₁ hcl, st⟩
end CHW1
section CHW2
variable {g : ch_G} {f : ch_MI} {R : Room} {E : ch_En} {pc : Nat} {ls : ch_LT} {rest : List ch_V} {mem : ch_M} {k : Nat}
theorem ch_callSXw {f' : ch_MI} {idx n : Nat} {as : List ch_V} {hx : Nat × Nat × Nat × Nat} {hl : List (Nat × Nat × Nat × Nat)} (hd : decode (ch_bc f) pc = .ok (.invokestatic idx, 3)) (hsv : ch_SV f' (ch_nm f).cls idx n) (hi : Cond.static (ch_nm f') ∈ ch_good) (hhh : ch_hh f' = hx :: hl)
    (hn : as.length = n) (hRR : ch_RR R (ch_fr f' + 1)) (hcat : (rest.map ch_cat).sum ≤ 20) (hcs : k + ch_mc f' ≤ R.cells ∧ 6 * k + 6 * ch_mc f' ≤ R.slots)
    (h : ch_C g f' as mem (ch_K g f R E pc ls rest (k + ch_mc f'))) : ch_J g f R E pc ls (as.reverse ++ rest) mem k := by
  intro p e s m args below meth c H locs lm hF hR hS ho hs hL
  obtain ⟨hrc, hrs, hfr, -, hws⟩ := ch_hb hsv hF.2.2.2.2.2.1 hRR
  have hlo : 20 + (ch_ml f' + 11) + (ch_rm f').locals ≤ R.locals := by
    have h5 := hsv.1.2.2.2.2
    have := hRR.2
    show 20 + (ch_ml f' + 11) + (128 * ch_fr f' + 64) ≤ R.locals
    omega
  have hts := hF.2.2.2.2.2.1
  have hso : ∀ v ∈ as, ch_ok g v := fun v hv => hs v (List.mem_append_left _ (List.mem_reverse.mpr hv))
  have hs' : ∀ v ∈ rest, ch_ok g v := fun v hv => hs v (List.mem_append_right _ hv)
  have hM := h hF.2.2.2.2.2.2.2.2.2.1 hso
  have hcw : ch_cw f' = Cond.codeWith (ch_nm f') (ch_bc f') (ch_ml f') (ch_rt f') (ch_hh f') := by unfold ch_cw; rw [hhh]
  have hcode := hsv.1.1
  rw [hcw] at hcode
  refine ch_run (ch_runSXw (As := as.map (ch_tr g)) (rm := ch_rm f') (n := n) (bytes := ch_bc f') (maxL := ch_ml f') (ret := ch_rt f') (hh := ch_hh f') ⟨hF.1, hF.2.1, hF.2.2.2.1, hF.2.2.2.2.1, hts⟩ hM ⟨⟨hrc, hrs, hfr, hlo, hws, by unfold ch_ws; rw [hcw]; exact List.mem_cons_self⟩, hts _ hcode, hts _ hsv.1.2.1, hsv.1.2.2.1, ch_len hsv.2.2, hts _ hsv.2.1, hts _ hi⟩
    ⟨ch_PC_blind, ch_pre (f' := f') hF hR⟩ rfl (by rw [List.length_map]; exact hn) hL.1 ?_ (by show 2 * 0 + _ ≤ 20; rw [ch_sum]; omega) hd hcs) hF hS ho hs' hL
  show (as.reverse ++ rest).map (ch_tr g) = _
  rw [List.map_append, List.map_reverse]
end CHW2
