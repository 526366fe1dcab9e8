/-- a method: its name, bytes, locals, type, frames and new cells, handlers -/
abbrev ch_MI : Type := MethodName × ByteArray × Nat × Option FieldType × Nat × Nat × List (Nat × Nat × Nat × Nat)
abbrev ch_nm (f : ch_MI) : MethodName := f.1
abbrev ch_bc (f : ch_MI) : ByteArray := f.2.1
abbrev ch_ml (f : ch_MI) : Nat := f.2.2.1
abbrev ch_rt (f : ch_MI) : Option FieldType := f.2.2.2.1
abbrev ch_fr (f : ch_MI) : Nat := f.2.2.2.2.1
abbrev ch_mc (f : ch_MI) : Nat := f.2.2.2.2.2.1
abbrev ch_hh (f : ch_MI) : List (Nat × Nat × Nat × Nat) := f.2.2.2.2.2.2
def ch_rm (f : ch_MI) : Room := { frames := ch_fr f, cells := ch_mc f, slots := 6 * ch_mc f, locals := 128 * ch_fr f + 64 }
def ch_cw (f : ch_MI) : Cond := match ch_hh f with
  | [] => Cond.code (ch_nm f) (ch_bc f) (ch_ml f) (ch_rt f)
  | _ :: _ => Cond.codeWith (ch_nm f) (ch_bc f) (ch_ml f) (ch_rt f) (ch_hh f)
def ch_ws (f : ch_MI) : List Cond := ch_cw f :: ch_good
abbrev ch_LT : Type := List (Option ch_V)
def ch_LR (g : ch_G) (n : Nat) (ls : ch_LT) (lm : Array Slot) : Prop := lm.size = n ∧ lv_wf lm ∧ ∀ (i : Nat) (v : ch_V), ls[i]? = some (some v) → lm[i]? = some (.val (ch_tr g v))
/-- what stands in a frame of the method f -/
def ch_FR (g : ch_G) (f : ch_MI) (p : Program) (s : State) (m : MethodId) (args : Array Value) (meth : Method) (c : Code) : Prop :=
  p.tables.exec = Jvm.exec ∧ c.code = ch_bc f ∧ meth.sig.returnType = ch_rt f ∧ c.maxLocals = ch_ml f ∧ s.vm.findClass (ch_nm f).cls = some m.cls ∧ (∀ w ∈ ch_good, w.before args s = true) ∧ ch_WV g s ∧ meth.locks = false ∧ c.exceptionTable.toList = tableOf (ch_hh f) ∧ (ch_l g).stackTraces = false ∧ ch_lo g ≤ s.heap.size ∧ meth.name = (ch_nm f).name
abbrev ch_En : Type := State → Array Value → List Frame → State → Prop
/-- from here the frame comes to E -/
def ch_J (g : ch_G) (f : ch_MI) (R : Room) (E : ch_En) (pc : Nat) (ls : ch_LT) (st : List ch_V) (mem : ch_M) (k : Nat) : Prop :=
  ∀ (p : Program) (e : Env) (s : State) (m : MethodId) (args : Array Value) (below : List Frame) (meth : Method) (c : Code) (H : Heap) (locs : List Loc) (lm : Array Slot),
    ch_FR g f p s m args meth c → ch_Rp g mem H → va_S (ch_A g) s.heap H locs → (∀ o ∈ ls, ∀ v, o = some v → ch_ok g v) → (∀ v ∈ st, ch_ok g v) → ch_LR g (ch_ml f) ls lm →
    W p (ch_l g) e R s m args below meth c H locs k (6 * k) (E s args below) (F0 m pc lm (st.map (ch_tr g)))
/-- .. and with the exception n thrown here -/
def ch_X (g : ch_G) (f : ch_MI) (R : Room) (E : ch_En) (pc : Nat) (ls : ch_LT) (st : List ch_V) (n : Nat) (mem : ch_M) (k : Nat) : Prop :=
  ∀ (p : Program) (e : Env) (s : State) (m : MethodId) (args : Array Value) (below : List Frame) (meth : Method) (c : Code) (H : Heap) (locs : List Loc) (lm : Array Slot) (q : Addr) (ce : Cell),
    ch_FR g f p s m args meth c → ch_Rp g mem H → va_S (ch_A g) s.heap H locs → (∀ o ∈ ls, ∀ v, o = some v → ch_ok g v) → ch_LR g (ch_ml f) ls lm → n < 6 → H[q]? = some ce → ce.vm = .none → s.vm.findClass (ch_xn n) = some ce.cls →
    vx_W p (ch_l g) e R s m args below meth c H locs k (6 * k) (E s args below) (F0 m pc lm (st.map (ch_tr g))) q
def ch_Qc (g : ch_G) (Q : ch_O → ch_M → Prop) : Array Value → State → Outcome → State → Prop := fun _ st o t => ∃ (v : Option ch_V) (mem : ch_M), o = .returned (v.map (ch_tr g)) ∧ Q (.inl v) mem ∧ ch_Rp g mem t.heap ∧ va_F (ch_A g) st t
def ch_XC (g : ch_G) (Q : ch_O → ch_M → Prop) : String → State → State → Prop := fun E st t => ∃ (n : Nat) (mem : ch_M), E = ch_xn n ∧ n < 6 ∧ Q (.inr n) mem ∧ ch_Rp g mem t.heap ∧ va_F (ch_A g) st t
def ch_E (g : ch_G) (f : ch_MI) (Q : ch_O → ch_M → Prop) : ch_En := fun s args below => vx_MQ below (ch_Qc g Q) (ch_XC g Q) args s (ch_mc f) (6 * ch_mc f) (ch_A g)
def ch_PC (g : ch_G) (as : List ch_V) (mem : ch_M) : Array Value → State → Prop := fun a U => a = (as.map (ch_tr g)).toArray ∧ ch_WV g U ∧ ch_Rp g mem U.heap ∧ ch_lo g ≤ U.heap.size
/-- the method f, called with these: it ends so -/
def ch_C (g : ch_G) (f : ch_MI) (as : List ch_V) (mem : ch_M) (Q : ch_O → ch_M → Prop) : Prop :=
  (ch_l g).stackTraces = false → (∀ v ∈ as, ch_ok g v) → vx_Met (ch_l g) (ch_nm f) (ch_ws f) (ch_rm f) (ch_PC g as mem) (ch_Qc g Q) (ch_XC g Q) (ch_mc f) (6 * ch_mc f) (ch_A g)
/-- ways in which a call ends -/
def ch_oi (q : Int32 → ch_M → Prop) : ch_O → ch_M → Prop := fun o m => ∃ r, o = .inl (some (.inl (.int r))) ∧ q r m
def ch_ov (q : ch_M → Prop) : ch_O → ch_M → Prop := fun o m => o = .inl none ∧ q m
def ch_ol (q : Int64 → ch_M → Prop) : ch_O → ch_M → Prop := fun o m => ∃ r, o = .inl (some (.inl (.long r))) ∧ q r m
def ch_oa (q : ch_Ad → ch_M → Prop) : ch_O → ch_M → Prop := fun o m => ∃ r, o = .inl (some (.inr r)) ∧ q r m
def ch_of (q : UInt32 → ch_M → Prop) : ch_O → ch_M → Prop := fun o m => ∃ r, o = .inl (some (.inl (.float r))) ∧ q r m
def ch_od (q : UInt64 → ch_M → Prop) : ch_O → ch_M → Prop := fun o m => ∃ r, o = .inl (some (.inl (.double r))) ∧ q r m
def ch_ox (q : ch_O → ch_M → Prop) (x : Nat → ch_M → Prop) : ch_O → ch_M → Prop := fun o m => q o m ∨ ∃ n, o = .inr n ∧ n < 6 ∧ x n m
/-- static facts of a method that is called -/
def ch_MF (f : ch_MI) : Prop := ch_cw f ∈ ch_good ∧ Cond.initialized (ch_nm f).cls ∈ ch_good ∧ ((ch_nm f).cls ≠ "java/lang/invoke/MethodHandle" ∧ (ch_nm f).cls ≠ "java/lang/invoke/VarHandle") ∧ plainFor (ch_nm f) = true ∧ ch_ml f ≤ 40
/-- this method calls f by this entry of its class's pool, with n arguments -/
def ch_LK (own : String) (idx : Nat) (f : ch_MI) (n : Nat) : Prop := Cond.methodLink own idx (ch_nm f) ∈ ch_good ∧ (parseMethodDescriptor (ch_nm f).desc).map (fun d => d.parameters.length) = some n
theorem ch_cw_tab {f : ch_MI} {args : Array Value} {s : State} {m : MethodId} {meth : Method} {c : Code} (h : (ch_cw f).before args s = true) (hn : s.methodNamed? (ch_nm f) = some m) (hm : s.vm.method? m = some meth) (hc : meth.code = some c) : c.exceptionTable.toList = tableOf (ch_hh f) := by
  unfold ch_cw at h
  cases hh : ch_hh f with
  | nil =>
    rw [hh] at h
    obtain ⟨meth9, c9, h1, h2, -, -, -, -, h7, -⟩ := Cond.code_spec hn h
    cases Option.some.inj (h1.symm.trans hm)
    cases Option.some.inj (h2.symm.trans hc)
    rw [Array.isEmpty_iff.mp h7]
    rfl
  | cons a l =>
    rw [hh] at h
    obtain ⟨m9, meth9, c9, hn9, h1, h2, -, -, h6, -⟩ := Cond.codeWith_spec h
    cases Option.some.inj (hn9.symm.trans hn)
    cases Option.some.inj (h1.symm.trans hm)
    cases Option.some.inj (h2.symm.trans hc)
    rw [← h6, table_eq]
def ch_cat : ch_V → Nat
  | .inl v => v.category
  | .inr _ => 1
theorem ch_cat_tr (g : ch_G) (v : ch_V) : (ch_tr g v).category = ch_cat v := by cases v <;> rfl
theorem ch_args : ∀ (vs : List Value) (k i : Nat) (v : Value), (∀ v ∈ vs, v.category = 1) → vs[i]? = some v → (k + i, v) ∈ lv_args k vs
  | [], _, _, _, _, h => by simp at h
  | w :: vs, k, 0, v, hc, h => by
    simp at h
    subst h
    exact List.mem_cons_self
  | w :: vs, k, i + 1, v, hc, h => by
    have h1 : w.category = 1 := hc w List.mem_cons_self
    have h2 := ch_args vs (k + 1) i v (fun x hx => hc x (List.mem_cons_of_mem _ hx)) (by simpa using h)
    have h3 : lv_args k (w :: vs) = (k, w) :: lv_args (k + 1) vs := by
      show (k, w) :: lv_args (if w.category = 2 then k + 2 else k + 1) vs = _
      rw [if_neg (by omega)]
    rw [h3]
    refine List.mem_cons_of_mem _ ?_
    have e : k + 1 + i = k + (i + 1) := by omega
    rw [← e]
    exact h2
theorem ch_sl : ∀ (vs : List Value), (∀ v ∈ vs, v.category = 1) → (lg_sl vs).length = vs.length
  | [], _ => rfl
  | w :: vs, hc => by
    have h1 : w.category = 1 := hc w List.mem_cons_self
    have h2 := ch_sl vs (fun x hx => hc x (List.mem_cons_of_mem _ hx))
    show (List.flatMap _ (w :: vs)).length = _
    rw [List.flatMap_cons, if_neg (by omega), List.length_append]
    show 1 + (lg_sl vs).length = _
    rw [h2, List.length_cons]
    omega
theorem ch_entry (g : ch_G) (as : List ch_V) (n : Nat) (hcat : ∀ v ∈ as, ch_cat v = 1) (hlen : as.length ≤ n) :
    ch_LR g n (as.map some ++ List.replicate (n - as.length) none) ((lg_sl (as.map (ch_tr g)) ++ List.replicate (n - (lg_sl (as.map (ch_tr g))).length) Slot.unset).toArray) := by
  have hc : ∀ v ∈ as.map (ch_tr g), v.category = 1 := by
    intro v hv
    obtain ⟨w, hw, rfl⟩ := List.mem_map.mp hv
    rw [ch_cat_tr]
    exact hcat w hw
  have hl : (lg_sl (as.map (ch_tr g))).length ≤ n := by rw [ch_sl _ hc, List.length_map]; exact hlen
  obtain ⟨h1, h2, h3⟩ := lv_entry (as.map (ch_tr g)) hl
  refine ⟨h1, h2, fun i v hv => ?_⟩
  have hi : i < as.length := by
    by_cases hi : i < as.length
    · exact hi
    · rw [List.getElem?_append_right (by simpa using hi)] at hv
      have := List.eq_of_mem_replicate (List.mem_of_getElem? hv)
      cases this
  rw [List.getElem?_append_left (by simpa using hi), List.getElem?_map] at hv
  have hv2 : as[i]? = some v := by
    cases hx : as[i]? with
    | none => rw [hx] at hv; cases hv
    | some x => rw [hx] at hv; simp at hv; rw [hv]
  have h4 := h3 _ (ch_args (as.map (ch_tr g)) 0 i (ch_tr g v) hc (by rw [List.getElem?_map, hv2]; rfl))
  simpa using h4
theorem ch_good_pre {f : ch_MI} {args : Array Value} {s : State} (h : ∀ w ∈ ch_ws f, w.before args s = true) : ∀ w ∈ ch_good, w.before args s = true := fun w hw => h w (List.mem_cons_of_mem _ hw)
/-! bodies of methods that no row of natives replaces -/
theorem ch_ofW {l : Launch} {y : MethodName} {ws ws' : List Cond} {rm : Room} {Pc : Array Value → State → Prop} {Qc : Array Value → State → Outcome → State → Prop} {XC : String → State → State → Prop} {mc ms : Nat} {free : Addr → Prop} {cc : ByteArray} {maxL : Nat} {ret : Option FieldType}
    (hy : plainFor y = true) (hw : ws = Cond.code y cc maxL ret :: ws')
    (body : ∀ p e s m args below meth c s₁, BodyLoose p l y (headSpec ws rm) cc maxL ret e s m args below meth c s₁ → c.maxLocals = maxL → (∀ x ∈ c.exceptionTable.toList, False) → Pc args s →
      W p l e (headSpec ws rm).room s m args below meth c s.heap [] 0 0 (vx_MQ below Qc XC args s mc ms free) (entryFrame m args maxL)) : vx_Met l y ws rm Pc Qc XC mc ms free := by
  refine MetFree.of_bodySF (code := cc) (maxLocals := maxL) (ret := ret) hy ?_ ?_
  · intro args s m h hn
    obtain ⟨meth, c, h1, h2, h3, h4, h5, h6, -, -⟩ := Cond.code_spec hn (atoms_spec (ws := ws) h _ (by rw [hw]; exact List.mem_cons_self))
    exact ⟨meth, c, h1, h2, h3, h4, h5, h6⟩
  · intro p e s m args below meth c s₁ B hml hP _
    have hh0 : s₁.heap = s.heap := by rw [B.state]; rfl
    have ht : ∀ x ∈ c.exceptionTable.toList, False := by
      obtain ⟨meth9, c9, h1, h2, -, -, -, -, h7, -⟩ := Cond.code_spec B.named (atoms_spec (ws := ws) B.pre _ (by rw [hw]; exact List.mem_cons_self))
      cases Option.some.inj (h1.symm.trans B.method)
      cases Option.some.inj (h2.symm.trans (Stand.of_body B).code)
      intro x hx
      rw [Array.isEmpty_iff.mp h7] at hx
      cases hx
    obtain ⟨t, a1, o, b1, b2, b3⟩ := body p e s m args below meth c s₁ B hml ht hP s₁ hh0 (Stand.of_body B)
    exact ⟨t, o, a1, b1, b2, b3⟩
theorem ch_ofWH {l : Launch} {y : MethodName} {ws ws' : List Cond} {rm : Room} {Pc : Array Value → State → Prop} {Qc : Array Value → State → Outcome → State → Prop} {XC : String → State → State → Prop} {mc ms : Nat} {free : Addr → Prop} {cc : ByteArray} {maxL : Nat} {ret : Option FieldType} {hh : List (Nat × Nat × Nat × Nat)}
    (hy : plainFor y = true) (hw : ws = Cond.codeWith y cc maxL ret hh :: ws')
    (body : ∀ p e s m args below meth c s₁, BodyLoose p l y (headSpec ws rm) cc maxL ret e s m args below meth c s₁ → c.maxLocals = maxL → Pc args s →
      W p l e (headSpec ws rm).room s m args below meth c s.heap [] 0 0 (vx_MQ below Qc XC args s mc ms free) (entryFrame m args maxL)) : vx_Met l y ws rm Pc Qc XC mc ms free := by
  refine MetFree.of_bodySF (code := cc) (maxLocals := maxL) (ret := ret) hy ?_ ?_
  · intro args s m h hn
    obtain ⟨m9, meth, c, hn9, h1, h2, h3, h4, -, h5, h6, -⟩ := Cond.codeWith_spec (atoms_spec (ws := ws) h _ (by rw [hw]; exact List.mem_cons_self))
    cases hn.symm.trans hn9
    exact ⟨meth, c, h1, h2, h3, h4, h5, h6⟩
  · intro p e s m args below meth c s₁ B hml hP _
    have hh0 : s₁.heap = s.heap := by rw [B.state]; rfl
    obtain ⟨t, a1, o, b1, b2, b3⟩ := body p e s m args below meth c s₁ B hml hP s₁ hh0 (Stand.of_body B)
    exact ⟨t, o, a1, b1, b2, b3⟩
theorem ch_MofW {l : Launch} {y : MethodName} {ws ws' : List Cond} {rm : Room} {Pc : Array Value → State → Prop} {Qc : Array Value → State → Outcome → State → Prop} {mc ms : Nat} {free : Addr → Prop} {cc : ByteArray} {maxL : Nat} {ret : Option FieldType}
    (hy : plainFor y = true) (hw : ws = Cond.code y cc maxL ret :: ws')
    (body : ∀ p e s m args below meth c s₁, BodyLoose p l y (headSpec ws rm) cc maxL ret e s m args below meth c s₁ → c.maxLocals = maxL → Pc args s →
      W p l e (headSpec ws rm).room s m args below meth c s.heap [] 0 0 (MQ below Qc args s mc ms free) (entryFrame m args maxL)) : Met l y ws rm Pc Qc mc ms free := by
  refine MetFree.of_bodySF (code := cc) (maxLocals := maxL) (ret := ret) hy ?_ ?_
  · intro args s m h hn
    obtain ⟨meth, c, h1, h2, h3, h4, h5, h6, -, -⟩ := Cond.code_spec hn (atoms_spec (ws := ws) h _ (by rw [hw]; exact List.mem_cons_self))
    exact ⟨meth, c, h1, h2, h3, h4, h5, h6⟩
  · intro p e s m args below meth c s₁ B hml hP _
    have hh0 : s₁.heap = s.heap := by rw [B.state]; rfl
    obtain ⟨t, a1, o, b1, b2, b3⟩ := body p e s m args below meth c s₁ B hml hP s₁ hh0 (Stand.of_body B)
    exact ⟨t, o, a1, b1, b2, ⟨b3.1, b3.2⟩⟩
/-- a contract out of a walk from the entry -/
theorem ch_enter {g : ch_G} {f : ch_MI} {as : List ch_V} {mem : ch_M} {Q : ch_O → ch_M → Prop} (hf : ch_MF f) (hcat : ∀ v ∈ as, ch_cat v = 1) (hlen : as.length ≤ ch_ml f)
    (h : ch_J g f (ch_rm f) (ch_E g f Q) 0 (as.map some ++ List.replicate (ch_ml f - as.length) none) [] mem 0) : ch_C g f as mem Q := by
  intro htr hok
  have key : ∀ (p : Program) (e : Env) (s : State) (m : MethodId) (args : Array Value) (below : List Frame) (meth : Method) (c : Code) (s₁ : State), BodyLoose p (ch_l g) (ch_nm f) (headSpec (ch_ws f) (ch_rm f)) (ch_bc f) (ch_ml f) (ch_rt f) e s m args below meth c s₁ → c.maxLocals = ch_ml f → ch_PC g as mem args s →
      W p (ch_l g) e (headSpec (ch_ws f) (ch_rm f)).room s m args below meth c s.heap [] 0 0 (vx_MQ below (ch_Qc g Q) (ch_XC g Q) args s (ch_mc f) (6 * ch_mc f) (ch_A g)) (entryFrame m args (ch_ml f)) := by
    intro p e s m args below meth c s₁ B hml hP
    obtain ⟨rfl, hW, hR, hb⟩ := hP
    have hts := atoms_spec (ws := ch_ws f) B.pre
    rw [lg_entry_eq]
    refine h p e s m _ below meth c s.heap [] _ ⟨B.exec, B.bytes, B.returns, hml, findClass_of_methodNamed B.named, ch_good_pre hts, hW, B.notSynchronized, ch_cw_tab (hts _ List.mem_cons_self) B.named B.method (Stand.of_body B).code, htr, hb, (name_of_methodNamed B.named B.method).1⟩ hR va_S.rf ?_ (fun v hv => by cases hv) (ch_entry g as (ch_ml f) hcat hlen)
    intro o ho v hv
    subst hv
    rcases List.mem_append.mp ho with h1 | h1
    · obtain ⟨w, hw, he⟩ := List.mem_map.mp h1
      rw [← Option.some.inj he]
      exact hok w hw
    · have := List.eq_of_mem_replicate h1
      cases this
  cases hh : ch_hh f with
  | nil =>
    refine ch_ofW (cc := ch_bc f) (maxL := ch_ml f) (ret := ch_rt f) (ws' := ch_good) hf.2.2.2.1 ?_ (fun p e s m args below meth c s₁ B hml _ hP => key p e s m args below meth c s₁ B hml hP)
    unfold ch_ws ch_cw
    rw [hh]
  | cons a l =>
    refine ch_ofWH (cc := ch_bc f) (maxL := ch_ml f) (ret := ch_rt f) (hh := ch_hh f) (ws' := ch_good) hf.2.2.2.1 ?_ key
    unfold ch_ws ch_cw
    rw [hh]
