/-! STRINGBUILDER: calls of a method of a superclass, private and super; bytes of a text copied -/
theorem ch_MetOf {g : ch_G} {f : ch_MI} {as : List ch_V} {mem : ch_M} {Q : ch_O → ch_M → Prop} (h : ch_C g f as mem Q) (hQ : ∀ n m, ¬ Q (.inr n) m) (htr : (ch_l g).stackTraces = false) (hok : ∀ v ∈ as, ch_ok g v) : Met (ch_l g) (ch_nm f) (ch_ws f) (ch_rm f) (ch_PC g as mem) (ch_Qc g Q) (ch_mc f) (6 * ch_mc f) (ch_A g) := by
  intro p e ha hf hk s m args below hfr happ hP hK
  obtain ⟨n, o, h1, h2, h3, h4⟩ := h htr hok p e ha hf hk s m args below hfr happ hP hK
  refine ⟨n, o, h1, h2, h3, ?_⟩
  rcases h4 with h4 | ⟨q, a0, E, ce, L, ⟨n', mem', b1, b2, b3, b4, b5⟩, rest⟩
  · exact h4
  · exact absurd b3 (hQ _ _)
abbrev bu_sel (g : ch_G) (f : ch_MI) (C : String) (y : MethodName) : Prop := ∀ (p : Program) (s : State) (m : MethodId) (args : Array Value) (meth : Method) (c : Code), ch_FR g f p s m args meth c → (Cond.selects C y y).before args s = true
theorem bu_selW {g : ch_G} {f : ch_MI} {C : String} {y : MethodName} (h : Cond.selects C y y ∈ ch_good) : bu_sel g f C y := fun _ _ _ _ _ _ hF => hF.2.2.2.2.2.1 _ h
abbrev bu_lat : MethodName := ⟨"java/lang/AbstractStringBuilder", "isLatin1", "()Z"⟩
theorem bu_latW : Cond.selects "java/lang/StringBuilder" bu_lat bu_lat ∈ ch_good := ch_wg 1120 (by decide +kernel) (by decide +kernel)
theorem bu_latI : Cond.instanceMethod bu_lat ∈ ch_good := ch_wg 1118 (by decide +kernel) (by decide +kernel)
/-- a private method of the builder's superclass is the one that is taken -/
theorem bu_selP {g : ch_G} {f : ch_MI} {nm ds : String} (hp : Cond.privateMethod ⟨"java/lang/AbstractStringBuilder", nm, ds⟩ ∈ ch_oth) (hi : Cond.instanceMethod ⟨"java/lang/AbstractStringBuilder", nm, ds⟩ ∈ ch_good) : bu_sel g f "java/lang/StringBuilder" ⟨"java/lang/AbstractStringBuilder", nm, ds⟩ := by
  intro p s m args meth c hF
  have hts := hF.2.2.2.2.2.1
  have hpriv : (Cond.privateMethod ⟨"java/lang/AbstractStringBuilder", nm, ds⟩).before args s = true := va_Nw.use rfl (hF.2.2.2.2.2.2.1.2.1 _ hp)
  obtain ⟨hfc, kC, hkC, -⟩ := (hF.2.2.2.2.2.2.1.1.1 9 _ rfl).2
  have hfc : s.vm.findClass "java/lang/StringBuilder" = some (ch_dC g 9) := hfc
  obtain ⟨mk, methM, hnamed, hmethM, -, -⟩ := Cond.instanceMethod_spec (hts _ hi)
  have hfound : s.methodFound? "java/lang/AbstractStringBuilder" nm ds = some mk := State.methodFound?_of_named hnamed ⟨show "java/lang/AbstractStringBuilder" ≠ "java/lang/invoke/MethodHandle" by decide, show "java/lang/AbstractStringBuilder" ≠ "java/lang/invoke/VarHandle" by decide⟩
  obtain ⟨c2, r2, m2, -, -, q3, -, kp, hkp, hni⟩ := Cond.selects_spec (hts _ bu_latW)
  have y1 : s.vm.findClass "java/lang/AbstractStringBuilder" = some mk.cls := findClass_of_methodNamed hnamed
  have y2 : s.vm.findClass "java/lang/AbstractStringBuilder" = some m2.cls := findClass_of_methodNamed q3
  have hcls : mk.cls = m2.cls := Option.some.inj (y1.symm.trans y2)
  have hsel : selectMethod {} s.vm (ch_dC g 9) mk = .method mk := selectMethod_private hmethM (Cond.privateMethod_at hpriv mk methM hnamed hmethM)
  simp only [Cond.before, Cond.holds, Cond.value, hfc, hfound, hnamed, hsel, hcls, hkp]
  simp [hni]
section SBC
variable {g : ch_G} {f : ch_MI} {R : Room} {E : ch_En} {pc : Nat} {ls : ch_LT} {rest : List ch_V} {mem : ch_M} {k : Nat}
/-- a method of an object of the world, declared above its class -/
theorem ch_callC {f' : ch_MI} {idx n ci j : Nat} {as : List ch_V} {C : String} (hd : decode (ch_bc f) pc = .ok (.invokevirtual idx, 3)) (hsv : ch_SV f' (ch_nm f).cls idx n) (hi : Cond.instanceMethod (ch_nm f') ∈ ch_good) (hse : bu_sel g f C (ch_nm f')) (hhh : ch_hh f' = []) (hcl : (ch_cls[ci]?).map (fun r => r.1) = some C)
    (hn : as.length = n) (hRR : ch_RR R (ch_fr f' + 1)) (hcat : (rest.map ch_cat).sum ≤ 8) (hcs : k + ch_mc f' ≤ R.cells ∧ 6 * k + 6 * ch_mc f' ≤ R.slots)
    (h : ch_C g f' (.inr (ci, j, 0) :: as) mem (ch_K g f R E pc ls rest (k + ch_mc f'))) : ch_J g f R E pc ls (as.reverse ++ .inr (ci, j, 0) :: rest) mem k := by
  intro p e s m args below meth c H locs lm hF hR hS ho hs hL
  obtain ⟨hrc, hrs, hfr, hlo, hws⟩ := ch_hb hsv hF.2.2.2.2.2.1 hRR
  have hts := hF.2.2.2.2.2.1
  have hci : ci < 11 := by
    cases hx : ch_cls[ci]? with
    | none => rw [hx] at hcl; cases hcl
    | some r => exact (List.getElem?_eq_some_iff.mp hx).1
  have hso : ∀ v ∈ (.inr (ci, j, 0) :: as : List ch_V), ch_ok g v := by
    intro v hv
    refine hs v ?_
    rcases List.mem_cons.mp hv with e | e
    · rw [e]; exact List.mem_append_right _ List.mem_cons_self
    · exact List.mem_append_left _ (List.mem_reverse.mpr e)
  have hs' : ∀ v ∈ rest, ch_ok g v := fun v hv => hs v (List.mem_append_right _ (List.mem_cons_of_mem _ hv))
  have hin : ch_inx g (ci, j, 0) := ch_ok_in (hso _ List.mem_cons_self) (Or.inl (by show ci ≤ 10; omega))
  obtain ⟨r, hr, cell, c1, c2, c3, -⟩ := hR.2.2.1 _ hin
  have hrn : r.1 = C := by rw [hr] at hcl; exact Option.some.inj hcl
  have hM := h hF.2.2.2.2.2.2.2.2.2.1 hso
  have hcw : ch_cw f' = Cond.code (ch_nm f') (ch_bc f') (ch_ml f') (ch_rt f') := by unfold ch_cw; rw [hhh]
  have hcode := hsv.1.1
  rw [hcw] at hcode
  refine ch_run (vx_runV (As := as.map (ch_tr g)) (C := C) (rm := ch_rm f') (n := n) (bytes := ch_bc f') (maxL := ch_ml f') (ret := ch_rt f') ⟨hF.1, hF.2.1, hF.2.2.2.1, hF.2.2.2.2.1, hts⟩ hM ⟨⟨hrc, hrs, hfr, hlo, hws, by unfold ch_ws; rw [hcw]; exact List.mem_cons_self, hts _ hcode, hts _ hsv.1.2.1, hsv.1.2.2.1, ch_len hsv.2.2, hts _ hsv.2.1⟩, hts _ hi, hse p s m args meth c hF⟩
    ⟨ch_PC_blind, ⟨cell, c1, by rw [c3]; rfl, by rw [c2, ← hrn]; exact (hF.2.2.2.2.2.2.1.1.1 ci r hr).2.1⟩, ch_pre (f' := f') hF hR⟩ rfl (by rw [List.length_map]; exact hn) hL.1 ?_ (by show 2 * 0 + _ ≤ 8; rw [ch_sum]; omega) hd hcs) hF hS ho hs' hL
  show (as.reverse ++ .inr (ci, j, 0) :: rest).map (ch_tr g) = _
  rw [List.map_append, List.map_reverse, List.map_cons]
  rfl
/-- the superclass's method, by super -/
theorem ch_callSU {f' : ch_MI} {idx n ci j : Nat} {as : List ch_V} {C : String} {Q0 : ch_O → ch_M → Prop} (hd : decode (ch_bc f) pc = .ok (.invokespecial idx, 3)) (hsv : ch_SV f' (ch_nm f).cls idx n) (hi : Cond.instanceMethod (ch_nm f') ∈ ch_good) (hsm : Cond.sameMethod (ch_nm f').cls (ch_nm f').cls (ch_nm f').name (ch_nm f').desc ∈ ch_good) (hsp : Cond.superclass (ch_nm f).cls (ch_nm f').cls ∈ ch_good) (hno : (ch_nm f').name ≠ "<init>") (hhh : ch_hh f' = []) (hcl : (ch_cls[ci]?).map (fun r => r.1) = some C)
    (hn : as.length = n) (hRR : ch_RR R (ch_fr f' + 1)) (hcat : (rest.map ch_cat).sum ≤ 8) (hcs : k + ch_mc f' ≤ R.cells ∧ 6 * k + 6 * ch_mc f' ≤ R.slots)
    (h : ch_C g f' (.inr (ci, j, 0) :: as) mem Q0) (hQ0 : ∀ n m, ¬ Q0 (.inr n) m) (hK : ∀ o m, Q0 o m → ch_K g f R E pc ls rest (k + ch_mc f') o m) : ch_J g f R E pc ls (as.reverse ++ .inr (ci, j, 0) :: rest) mem k := by
  intro p e s m args below meth c H locs lm hF hR hS ho hs hL
  obtain ⟨hrc, hrs, hfr, hlo, hws⟩ := ch_hb hsv hF.2.2.2.2.2.1 hRR
  have hts := hF.2.2.2.2.2.1
  have hci : ci < 11 := by
    cases hx : ch_cls[ci]? with
    | none => rw [hx] at hcl; cases hcl
    | some r => exact (List.getElem?_eq_some_iff.mp hx).1
  have hso : ∀ v ∈ (.inr (ci, j, 0) :: as : List ch_V), ch_ok g v := by
    intro v hv
    refine hs v ?_
    rcases List.mem_cons.mp hv with e | e
    · rw [e]; exact List.mem_append_right _ List.mem_cons_self
    · exact List.mem_append_left _ (List.mem_reverse.mpr e)
  have hs' : ∀ v ∈ rest, ch_ok g v := fun v hv => hs v (List.mem_append_right _ (List.mem_cons_of_mem _ hv))
  have hin : ch_inx g (ci, j, 0) := ch_ok_in (hso _ List.mem_cons_self) (Or.inl (by show ci ≤ 10; omega))
  obtain ⟨r, hr, cell, c1, c2, c3, -⟩ := hR.2.2.1 _ hin
  have hrn : r.1 = C := by rw [hr] at hcl; exact Option.some.inj hcl
  have hM := ch_MetOf h hQ0 hF.2.2.2.2.2.2.2.2.2.1 hso
  have hcw : ch_cw f' = Cond.code (ch_nm f') (ch_bc f') (ch_ml f') (ch_rt f') := by unfold ch_cw; rw [hhh]
  have hcode := hsv.1.1
  rw [hcw] at hcode
  have hat := (hF.2.2.2.2.2.2.1.1.1 ci r hr).2
  rw [hrn] at hat
  have st : ((as.reverse ++ .inr (ci, j, 0) :: rest).map (ch_tr g)) = (as.map (ch_tr g)).reverse ++ .ref (ch_adr g (ci, j, 0)) :: rest.map (ch_tr g) := by
    rw [List.map_append, List.map_reverse, List.map_cons]
    rfl
  have hr : va_Run p (ch_l g) e R s m args below meth c H locs k (6 * k) (ch_mc f') (6 * ch_mc f') (F0 m pc lm ((as.reverse ++ .inr (ci, j, 0) :: rest).map (ch_tr g))) (rest.map (ch_tr g)) (ch_Qc g Q0 (.ref (ch_adr g (ci, j, 0)) :: as.map (ch_tr g)).toArray) (ch_A g) := va_runSU (As := as.map (ch_tr g)) (rm := ch_rm f') (n := n) (bytes := ch_bc f') (maxL := ch_ml f') (ret := ch_rt f') hat ⟨hF.1, hF.2.1, hF.2.2.2.1, hF.2.2.2.2.1, hts⟩ hM ⟨⟨hrc, hrs, hfr, hlo, hws, by unfold ch_ws; rw [hcw]; exact List.mem_cons_self⟩, hts _ hsv.2.1, hts _ hsm, hts _ hsp, hts _ hi, hts _ hsv.1.2.1, hts _ hcode, hno, ch_len hsv.2.2⟩
    ⟨ch_PC_blind, ⟨cell, c1, by rw [c3]; rfl, by rw [c2]; exact hat.1⟩, ch_pre (f' := f') hF hR⟩ rfl (by rw [List.length_map]; exact hn) hL.1 st (by show 2 * 0 + _ ≤ 8; rw [ch_sum]; omega) hd hcs
  have hr2 : vx_Run p (ch_l g) e R s m args below meth c H locs k (6 * k) (ch_mc f') (6 * ch_mc f') (F0 m pc lm ((as.reverse ++ .inr (ci, j, 0) :: rest).map (ch_tr g))) (rest.map (ch_tr g)) (ch_Qc g (ch_K g f R E pc ls rest (k + ch_mc f')) (.ref (ch_adr g (ci, j, 0)) :: as.map (ch_tr g)).toArray) (ch_XC g (ch_K g f R E pc ls rest (k + ch_mc f'))) (ch_A g) := by
    intro T hT X
    obtain ⟨v, st₀, t, T', L, z1, z2, z3, z4, z5, ⟨v', mem', y1, y2, y3, y4⟩, z7⟩ := hr T hT X
    exact Or.inl ⟨v, st₀, t, T', L, z1, z2, z3, z4, z5, ⟨v', mem', y1, hK _ _ y2, y3, y4⟩, z7⟩
  exact ch_run hr2 hF hS ho hs' hL
/-- bytes of a text, copied -/
def ch_cpt (g : ch_G) (mem : ch_M) (i : Nat) (dst : ch_Ad) (sp dp n : Nat) : ch_M := fun b q => if b = dst then va_cpy (ch_tb g i) (mem dst) sp dp n q else mem b q
theorem ch_copyT {idx i c2 j2 p2 n2 : Nat} {sp dp n : Int32} (hd : decode (ch_bc f) pc = .ok (.invokestatic idx, 3)) (hm : ch_AC (ch_nm f).cls idx) (hc2 : c2 ≤ 10 ∨ c2 = 14) (hk2 : ch_ak c2 (p2 + 1) = (5, n2)) (hRR : ch_RR R 1) (hcat : (rest.map ch_cat).sum ≤ 8)
    (h1 : ¬ sp < 0) (h2 : ¬ dp < 0) (h3 : ¬ n < 0) (h4 : sp.toNatClampNeg + n.toNatClampNeg ≤ ch_tn g i) (h5 : dp.toNatClampNeg + n.toNatClampNeg ≤ n2) (hfit : ∀ q, fits .byte (.int (ch_tb g i q)) = true)
    (kk : ch_J g f R E (pc + 3) ls rest (ch_cpt g mem i (c2, j2, p2 + 1) sp.toNatClampNeg dp.toNatClampNeg n.toNatClampNeg) k) : ch_J g f R E pc ls (.inl (.int n) :: .inl (.int dp) :: .inr (c2, j2, p2 + 1) :: .inl (.int sp) :: .inr (13, i, 0) :: rest) mem k := by
  intro p e s m args below meth c H locs lm hF hR hS ho hs hL
  have hi := ch_okT2 (ch_okh (ch_ok0 (ch_ok0 (ch_ok0 (ch_ok0 hs))))) hR.2.2.2
  obtain ⟨hin2, hcb⟩ := ch_arr hR (ch_okh (ch_ok0 (ch_ok0 hs))) hc2
  rw [hk2] at hcb
  obtain ⟨scr, hs1, hs2, hs3, hs4, -, hs5, -⟩ := (((ch_SWF hF).2.1.kept (ch_fixed hR)).1 i hi).2.2.2
  rw [ch_tlen hi] at hs4 hs5
  have hs5 : ∀ j, j < ch_tn g i → scr.slots[j]? = some (.int (ch_tb g i j)) := hs5
  have hcat' : ((rest.map (ch_tr g)).map fun v => v.category).sum ≤ 8 := by rw [ch_sum]; exact hcat
  have hA := ch_arrK hF.2.2.2.2.2.2.1 (t := 5) (by decide)
  have nn : ∀ z : Int32, ¬ z < 0 → z.toInt = (z.toNatClampNeg : Int) := by
    intro z hz
    have hz0 : (0 : Int) ≤ z.toInt := by
      have := Int32.not_lt.mp hz
      simpa using Int32.le_iff_toInt_le.mp this
    show z.toInt = ((z.toInt.toNat : Nat) : Int)
    omega
  have hts := hF.2.2.2.2.2.1
  intro T hT X
  have hc0 : H[ch_xa g (13, i, 0)]? = some scr := hs1
  have hc9 : H[ch_adr g (c2, j2, p2 + 1)]? = some (vp_cell (ch_cA g 5) (n2, .inl (mem (c2, j2, p2 + 1)))) := hcb
  obtain ⟨hs6, k0, hk0, cm0, hkk0⟩ := hs2
  obtain ⟨-, k1, hk1', cm1, hkk1⟩ := hA n2 (fun i => .int (mem (c2, j2, p2 + 1) i))
  obtain ⟨vm', X', step⟩ := X.arraycopy hF.1 hF.2.2.2.2.1 (hts _ hm.1) (hts _ hm.2.1) (hts _ hm.2.2.1) (hts _ hm.2.2.2) (src := ch_xa g (13, i, 0)) (dst := ch_adr g (c2, j2, p2 + 1)) (cs := scr) (cd := vp_cell (ch_cA g 5) (n2, .inl (mem (c2, j2, p2 + 1)))) (srcPos := sp) (destPos := dp) (n := n) (by rw [hT]; exact hc0) (by rw [hT]; exact hc9)
    hs6 (fun _ h => by cases h) hs3 (fun h => by cases h) hk0 hk1' hkk0 hkk1 (by simp [refKind, show ch_ty 5 = FieldType.byte from rfl]) h1 h2 h3
    (by rw [nn sp h1, nn n h3]; omega)
    (by rw [nn dp h2, nn n h3]; show ¬ _ > ((arrV _ n2 _).slots.size : Int); rw [arrV_size]; omega)
    (fun vm₁ _ q hq => by
      have e9 : scr.slots.getD (sp.toNatClampNeg + q) .null = .int (ch_tb g i (sp.toNatClampNeg + q)) := by
        rw [Array.getD_eq_getD_getElem?, hs5 _ (by omega)]
        rfl
      refine ⟨?_, ?_⟩
      · rw [e9]
        exact hfit _
      · rw [e9]
        exact trivial)
    (g := F0 m pc lm ((.inl (.int n) :: .inl (.int dp) :: .inr (c2, j2, p2 + 1) :: .inl (.int sp) :: .inr (13, i, 0) :: rest : List ch_V).map (ch_tr g))) rfl (hL.1.trans hF.2.2.2.1.symm) (rest := rest.map (ch_tr g)) rfl (by rw [hF.2.1]; exact hd) hRR.1
    (by have := hRR.2; have hw : nativeFrameWords "java/lang/System" "arraycopy" 5 ≤ 100 := by decide +kernel
        show 2 * 0 + _ + _ ≤ _; omega)
  have e1 : copied scr (vp_cell (ch_cA g 5) (n2, .inl (mem (c2, j2, p2 + 1)))) sp dp n = vp_cell (ch_cA g 5) (n2, .inl (va_cpy (ch_tb g i) (mem (c2, j2, p2 + 1)) sp.toNatClampNeg dp.toNatClampNeg n.toNatClampNeg)) := va_copiedX (fun z => .int z) scr _ _ _ hs5 h4
  rw [e1] at X' step
  have hl : ch_adr g (c2, j2, p2 + 1) < H.size := (Array.getElem?_eq_some_iff.mp hc9).1
  generalize hcell : vp_cell (ch_cA g 5) (n2, .inl (va_cpy (ch_tb g i) (mem (c2, j2, p2 + 1)) sp.toNatClampNeg dp.toNatClampNeg n.toNatClampNeg)) = cell at X' step
  have hheap : ((T.setVm vm').setCell (ch_adr g (c2, j2, p2 + 1)) cell).heap = H.setIfInBounds (ch_adr g (c2, j2, p2 + 1)) cell := by rw [← hT]; rfl
  have oq : ∀ q : Nat, q ≠ ch_adr g (c2, j2, p2 + 1) → (H.setIfInBounds (ch_adr g (c2, j2, p2 + 1)) cell)[q]? = H[q]? := fun q hq => by simp [Array.getElem?_setIfInBounds, Ne.symm hq]
  have hRp' : ch_Rp g (ch_cpt g mem i (c2, j2, p2 + 1) sp.toNatClampNeg dp.toNatClampNeg n.toNatClampNeg) (H.setIfInBounds (ch_adr g (c2, j2, p2 + 1)) cell) := by
    refine ch_Rp_upd hR hin2 (by simp) oq ?_ (fun b hb => ?_)
    · show (H.setIfInBounds _ cell)[ch_adr g (c2, j2, p2 + 1)]? = _
      rw [hk2]
      have : (H.setIfInBounds (ch_adr g (c2, j2, p2 + 1)) cell)[ch_adr g (c2, j2, p2 + 1)]? = some cell := by simp [Array.getElem?_setIfInBounds, hl]
      rw [this, ← hcell]
      show some (vp_cell _ _) = some (arrV (ch_cA g 5) n2 (fun q => ch_ev g (ch_cpt g mem i (c2, j2, p2 + 1) sp.toNatClampNeg dp.toNatClampNeg n.toNatClampNeg) (c2, j2, p2 + 1) 5 q))
      rw [vp_cell_i]
      congr 2
      funext q
      show Value.int _ = Value.int (ch_cpt _ _ _ _ _ _ _ _ q)
      unfold ch_cpt
      rw [if_pos rfl]
    · funext q
      unfold ch_cpt
      rw [if_neg hb]
  have hS' : ∀ L : List Loc, (∀ z ∈ L, z.base = ch_adr g (c2, j2, p2 + 1)) → va_S (ch_A g) s.heap (H.setIfInBounds (ch_adr g (c2, j2, p2 + 1)) cell) (locs ++ L) := by
    intro L hLo
    refine ⟨by simp; exact hS.1, fun q g1 g2 => ?_, fun q hq => ?_⟩
    · rw [oq q (fun e => g2 (by rw [e]; exact ch_adr_A hR hin2))]
      exact hS.2.1 q g1 g2
    · rcases List.mem_append.mp hq with h | h
      · exact hS.2.2 q h
      · rw [hLo q h]
        exact ch_adr_A hR hin2
  obtain ⟨t, a1, b1⟩ := kk p e s m args below meth c _ _ lm hF hRp' (hS' _ (fun z hz => by obtain ⟨y, -, hy⟩ := List.mem_map.mp hz; rw [← hy])) ho (ch_ok0 (ch_ok0 (ch_ok0 (ch_ok0 (ch_ok0 hs))))) hL _ hheap X'
  exact ⟨t, step t a1, b1⟩
end SBC
/-! what the builder's methods ask and do -/
def bu_le (x : Int32) : Prop := x - 16 ≤ 0
def bu_pt (g : ch_G) (j : Nat) (x : Int32) : Prop := ∃ n : Nat, x = nI n ∧ n + ch_tn g j ≤ 16
def bu_tf (g : ch_G) (j : Nat) : Prop := sb_Fit (ch_tb g j)
def bu_by (m M : ch_M) : Prop := (∀ a : ch_Ad, a ≠ (9, 0, 1) → M a = m a) ∧ sb_Fit (M (9, 0, 1))
def bu_ok (m : ch_M) (n : Nat) : Prop := m (9, 0, 0) 1 = 0 ∧ m (9, 0, 0) 3 = nI n ∧ n ≤ 16 ∧ sb_Fit (m (9, 0, 1))
def bu_fr (m M : ch_M) : Prop := ∀ a : ch_Ad, a.1 ≠ 9 → M a = m a
def bu_gc (x y : Int32) : Prop := ¬ x < 0 ∧ ∃ e : Nat, y = nI e ∧ 1 ≤ e ∧ e ≤ 16 ∧ x.toNatClampNeg < 10 ^ e
theorem bu_wr {m M : ch_M} {i : Nat} {y : Int32} (h : bu_by m M) : bu_by m (ch_wr M (9, 0, 1) i (vp_nar .byte y)) :=
  ⟨fun a ha => (ch_wr_ne ha).trans (h.1 a ha), fun j => by
    rw [ch_wr_at]
    split
    · rw [vp_nar_byte]
      exact pk_fb _
    · exact h.2 j⟩
theorem bu_by_refl {m : ch_M} (h : sb_Fit (m (9, 0, 1))) : bu_by m m := ⟨fun _ _ => rfl, h⟩
theorem bu_le_of {n : Nat} (h : n ≤ 16) : bu_le (nI n) := by
  unfold bu_le
  have e : (nI n - 16 : Int32) = nI n - nI 16 := rfl
  rw [e, Int32.le_iff_toInt_le, pk_sub_toInt (by omega) (by omega), Int32.toInt_zero]
  omega
theorem pm_a_ensureCapacityInternal : Cond.privateMethod ⟨"java/lang/AbstractStringBuilder", "ensureCapacityInternal", "(I)V"⟩ ∈ ch_oth := ch_ow 1089 (by decide +kernel) (by decide +kernel)
theorem pm_a_inflateIfNeededFor : Cond.privateMethod ⟨"java/lang/AbstractStringBuilder", "inflateIfNeededFor", "(Ljava/lang/String;)V"⟩ ∈ ch_oth := ch_ow 1162 (by decide +kernel) (by decide +kernel)
theorem pm_a_putStringAt : Cond.privateMethod ⟨"java/lang/AbstractStringBuilder", "putStringAt", "(ILjava/lang/String;)V"⟩ ∈ ch_oth := ch_ow 1158 (by decide +kernel) (by decide +kernel)
theorem ch_J_weak {g : ch_G} {f : ch_MI} {R : Room} {E : ch_En} {pc : Nat} {ls ls' : ch_LT} {st : List ch_V} {mem : ch_M} {k : Nat} (h : ∀ (i : Nat) (v : ch_V), ls'[i]? = some (some v) → ls[i]? = some (some v)) (kk : ch_J g f R E pc ls' st mem k) : ch_J g f R E pc ls st mem k :=
  fun p e s m args below meth c H locs lm hF hR hS ho hs hL => kk p e s m args below meth c H locs lm hF hR hS (fun o ho' v hv => by
    subst hv
    obtain ⟨i, hi⟩ := List.getElem?_of_mem ho'
    exact ho _ (List.mem_of_getElem? (h i v hi)) v rfl) hs ⟨hL.1, hL.2.1, fun i v hv => hL.2.2 i v (h i v hv)⟩
