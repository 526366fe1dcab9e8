theorem ch_ldcWS {p : Program} {l : Launch} {e : Env} {R : Room} {s : State} {m : MethodId} {args : Array Value} {below : List Frame} {meth : Method} {c : Code} {T : State} {locs : List Loc} {cells slots : Nat}
    (X : Stand p l e R s m args below meth c T locs cells slots) (hexec : p.tables.exec = Jvm.exec) {own text : String} {index : Nat} {a : Addr} (hown : s.vm.findClass own = some m.cls)
    (hconst : (Cond.stringRef own index text).before args s = true) (hev : (Term.string own index).eval args s none [] s = some (.ref a)) {g : JFrame} (hg : g.method = m) (hdg : decode c.code g.pc = .ok (.ldc_w index, 3)) :
    ∀ target, Steps p.tables e below (T.setTop { g with pc := g.pc + 3, stack := .ref a :: g.stack }) target → Steps p.tables e below (T.setTop g) target := by
  obtain ⟨k, cf, i, a', hk, hcf, hcp, -, hr, hev'⟩ := Cond.stringRef_spec hown hconst
  cases hev.symm.trans hev'
  obtain ⟨k', hk', he⟩ := X.warmed.alike.2.2 _ _ hk
  have hr' : k'.resolved[index]? = some (some (.string a)) := by
    rcases X.warmed.entry hk hk' index with h | ⟨h, -⟩
    · rw [h]; exact hr
    · rw [hr] at h; cases h
  intro target hrest
  subst hg
  jvm_step X.here [hexec, hdg, ldc_w.wp_string (e := e) (s := T) (f := g) X.here.top hk' (by rw [he]; exact hcf) hcp hr']
  exact hrest
section CHT
variable {g : ch_G} {f : ch_MI} {R : Room} {E : ch_En} {pc : Nat} {ls : ch_LT} {rest : List ch_V} {mem : ch_M} {k : Nat}
theorem ch_okS {i : Nat} (h : i < (ch_tx g).length) : ch_ok g (.inr (12, i, 0)) := fun a e => by cases e; exact Or.inr (Or.inr (Or.inl ⟨i, h, Or.inl rfl⟩))
theorem ch_okB {i : Nat} (h : i < (ch_tx g).length) : ch_ok g (.inr (13, i, 0)) := fun a e => by cases e; exact Or.inr (Or.inr (Or.inl ⟨i, h, Or.inr rfl⟩))
theorem ch_okD {i : Nat} (h : i < 2) : ch_ok g (.inr (15, i, 0)) := fun a e => by cases e; exact Or.inr (Or.inr (Or.inr ⟨i, h, rfl⟩))
theorem ch_okT {i : Nat} (h : ch_ok g (.inr (12, i, 0))) (hw : ch_gw g) : i < (ch_tx g).length := by
  rcases h _ rfl with (h | h) | h | ⟨j, hj, h | h⟩ | ⟨j, hj, h⟩
  · exact absurd (show 12 ≤ 8 from h.1) (by decide)
  · rcases hw.2.2.2 _ h with e | e
    · exact absurd (show 12 = 9 from e) (by decide)
    · exact absurd (show 12 = 14 from e) (by decide)
  · cases h
  · cases h; exact hj
  · cases h
  · cases h
theorem ch_okT2 {i : Nat} (h : ch_ok g (.inr (13, i, 0))) (hw : ch_gw g) : i < (ch_tx g).length := by
  rcases h _ rfl with (h | h) | h | ⟨j, hj, h | h⟩ | ⟨j, hj, h⟩
  · exact absurd (show 13 ≤ 8 from h.1) (by decide)
  · rcases hw.2.2.2 _ h with e | e
    · exact absurd (show 13 = 9 from e) (by decide)
    · exact absurd (show 13 = 14 from e) (by decide)
  · cases h
  · cases h
  · cases h; exact hj
  · cases h
theorem ch_okT3 {i : Nat} (h : ch_ok g (.inr (15, i, 0))) (hw : ch_gw g) : i < 2 := by
  rcases h _ rfl with (h | h) | h | ⟨j, hj, h | h⟩ | ⟨j, hj, h⟩
  · exact absurd (show 15 ≤ 8 from h.1) (by decide)
  · rcases hw.2.2.2 _ h with e | e
    · exact absurd (show 15 = 9 from e) (by decide)
    · exact absurd (show 15 = 14 from e) (by decide)
  · cases h
  · cases h
  · cases h
  · cases h; exact hj
theorem ch_fixed {H : Heap} (hR : ch_Rp g mem H) : ∀ a : Nat, a < (ch_H0 g).size → ¬ (fun q => ¬ ch_fx g q) a → H[a]? = (ch_H0 g)[a]? := fun a _ h => hR.2.1 a (Classical.not_not.mp h)
theorem ch_SWF {s : State} {p : Program} {m : MethodId} {args : Array Value} {meth : Method} {c : Code} (hF : ch_FR g f p s m args meth c) : ch_SW g s := hF.2.2.2.2.2.2.1.2.2.2.2.2.2.2.2.1
theorem ch_tlen {i : Nat} (h : i < (ch_tx g).length) : ((ch_tx g).map List.length).getD i 0 = ch_tn g i := by
  unfold ch_tn
  simp [List.getD_eq_getElem?_getD, List.getElem?_map, List.getElem?_eq_getElem h]
theorem ch_zgets {H : Heap} {C n d own ref : String} {v : Value} {index : Nat} {p : Program} {e : Env} {s : State} {m : MethodId} {args : Array Value} {below : List Frame} {meth : Method} {c : Code} {locs : List Loc} {lm : Array Slot} {cells slots : Nat} {Q : State → Prop} {st : List Value} {A : Nat → Prop}
    (hexec : p.tables.exec = Jvm.exec) (hb : c.code = ch_bc f) (hZ : va_Z C n d v A s H) (hown : s.vm.findClass own = some m.cls) (hlink : (Cond.fieldLink own index ref n d).before args s = true) (hsame : ∀ x, s.fieldFound? C n d = some x → s.fieldFound? ref n d = some x) (hd : decode (ch_bc f) pc = .ok (.getstatic index, 3))
    (kk : W p (ch_l g) e R s m args below meth c H locs cells slots Q (F0 m (pc + 3) lm (v :: st))) : W p (ch_l g) e R s m args below meth c H locs cells slots Q (F0 m pc lm st) := by
  obtain ⟨cf, kf, fi, f, a, cell, h1, h2, h3, h4, h5, h6, h7, h8⟩ := hZ
  exact W.gets hexec hb hown hlink (hsame _ h1) h2 h3 h4 h5 (fun e => by rw [e] at h6; cases h6) h7 rfl hd kk
theorem ch_ldcS {idx i : Nat} {t : String} {bs : List Int32} (hd : decode (ch_bc f) pc = .ok (.ldc idx, 2)) (ho : (ch_nm f).cls = "ChalkWarrantsLaw") (hi : ch_lit6[i]? = some (t, bs, idx)) (kk : ch_J g f R E (pc + 2) ls (.inr (12, i, 0) :: rest) mem k) : ch_J g f R E pc ls rest mem k := by
  refine ch_go (fun p e s m args below meth c H locs lm Q hF hR hS ho' hs hL q => ?_) kk
  have hsw := ch_SWF hF
  have hlt : i < (ch_tx g).length := by
    obtain ⟨more, hm⟩ := hsw.1.1
    rw [hm, List.length_append, List.length_map]
    have := (List.getElem?_eq_some_iff.mp hi).1
    omega
  exact va_ldcS hF.1 hF.2.1 (by rw [← ho]; exact hF.2.2.2.2.1) (hsw.1.2 i _ hi) hd (q (ch_ok2 (ch_okS hlt) hs))
theorem ch_ldcS_w {idx i : Nat} {t : String} {bs : List Int32} (hd : decode (ch_bc f) pc = .ok (.ldc_w idx, 3)) (ho : (ch_nm f).cls = "ChalkWarrantsLaw") (hi : ch_lit6[i]? = some (t, bs, idx)) (kk : ch_J g f R E (pc + 3) ls (.inr (12, i, 0) :: rest) mem k) : ch_J g f R E pc ls rest mem k := by
  refine ch_go (fun p e s m args below meth c H locs lm Q hF hR hS ho' hs hL q => ?_) kk
  have hsw := ch_SWF hF
  have hlt : i < (ch_tx g).length := by
    obtain ⟨more, hm⟩ := hsw.1.1
    rw [hm, List.length_append, List.length_map]
    have := (List.getElem?_eq_some_iff.mp hi).1
    omega
  have hZ := hsw.1.2 i _ hi
  have hown : s.vm.findClass "ChalkWarrantsLaw" = some m.cls := by rw [← ho]; exact hF.2.2.2.2.1
  have kk' := q (ch_ok2 (ch_okS hlt) hs)
  intro T hT X
  obtain ⟨t1, a1, b1⟩ := kk' T hT X
  exact ⟨t1, ch_ldcWS X hF.1 hown (text := t) (a := ch_xa g (12, i, 0)) hZ.1 hZ.2 (g := F0 m pc lm (rest.map (ch_tr g))) rfl (by rw [hF.2.1]; exact hd) t1 a1, b1⟩
theorem ch_getsC {idx : Nat} (hd : decode (ch_bc f) pc = .ok (.getstatic idx, 3)) (hw : Cond.fieldLink (ch_nm f).cls idx "java/lang/String" "COMPACT_STRINGS" "Z" ∈ ch_good) (kk : ch_J g f R E (pc + 3) ls (.inl (.int 1) :: rest) mem k) : ch_J g f R E pc ls rest mem k :=
  ch_go (fun _ _ _ _ _ _ _ _ _ _ _ _ hF hR hS _ hs hL q => ch_zgets hF.1 hF.2.1 ((ch_SWF hF).2.2.1.kept (ch_fixed hR)) hF.2.2.2.2.1 (hF.2.2.2.2.2.1 _ hw) (fun _ h => h) hd (q (ch_ok1 hs))) kk
theorem ch_getsF {idx : Nat} (hd : decode (ch_bc f) pc = .ok (.getstatic idx, 3)) (hw : Cond.fieldLink (ch_nm f).cls idx "jdk/internal/util/Preconditions" "SIOOBE_FORMATTER" "Ljava/util/function/BiFunction;" ∈ ch_good) (kk : ch_J g f R E (pc + 3) ls (.inl (ch_sv g) :: rest) mem k) : ch_J g f R E pc ls rest mem k :=
  ch_go (fun _ _ _ _ _ _ _ _ _ _ _ _ hF hR hS _ hs hL q => ch_zgets hF.1 hF.2.1 ((ch_SWF hF).2.2.2.2.1.1.kept (ch_fixed hR)) hF.2.2.2.2.1 (hF.2.2.2.2.2.1 _ hw) (fun _ h => h) hd (q (ch_ok1 hs))) kk
theorem ch_gets1 {idx : Nat} (hd : decode (ch_bc f) pc = .ok (.getstatic idx, 3)) (hw : Cond.fieldLink (ch_nm f).cls idx "java/lang/Integer" "DigitOnes" "[B" ∈ ch_good) (kk : ch_J g f R E (pc + 3) ls (.inr (15, 0, 0) :: rest) mem k) : ch_J g f R E pc ls rest mem k :=
  ch_go (fun _ _ _ _ _ _ _ _ _ _ _ _ hF hR hS _ hs hL q => ch_zgets hF.1 hF.2.1 ((ch_SWF hF).2.2.2.1.1.kept (ch_fixed hR)) hF.2.2.2.2.1 (hF.2.2.2.2.2.1 _ hw) (fun _ h => h) hd (q (ch_ok2 (ch_okD (by decide)) hs))) kk
theorem ch_gets10 {idx : Nat} (hd : decode (ch_bc f) pc = .ok (.getstatic idx, 3)) (hw : Cond.fieldLink (ch_nm f).cls idx "java/lang/Integer" "DigitTens" "[B" ∈ ch_good) (kk : ch_J g f R E (pc + 3) ls (.inr (15, 1, 0) :: rest) mem k) : ch_J g f R E pc ls rest mem k :=
  ch_go (fun _ _ _ _ _ _ _ _ _ _ _ _ hF hR hS _ hs hL q => ch_zgets hF.1 hF.2.1 ((ch_SWF hF).2.2.2.1.2.kept (ch_fixed hR)) hF.2.2.2.2.1 (hF.2.2.2.2.2.1 _ hw) (fun _ h => h) hd (q (ch_ok2 (ch_okD (by decide)) hs))) kk
theorem ch_getCo {idx i : Nat} (hd : decode (ch_bc f) pc = .ok (.getfield idx, 3)) (hw : Cond.fieldLink (ch_nm f).cls idx "java/lang/String" "coder" "B" ∈ ch_good) (kk : ch_J g f R E (pc + 3) ls (.inl (.int 0) :: rest) mem k) : ch_J g f R E pc ls (.inr (12, i, 0) :: rest) mem k := by
  refine ch_go (fun p e s m args below meth c H locs lm Q hF hR hS ho hs hL q => ?_) kk
  have hi := ch_okT (ch_okh hs) hR.2.2.2
  obtain ⟨cf, kf, fi, fd, cell, h1, h2, h3, h4, h5, h6⟩ := (((ch_SWF hF).2.1.kept (ch_fixed hR)).1 i hi).2.1
  exact W.getf hF.1 hF.2.1 hF.2.2.2.2.1 (hF.2.2.2.2.2.1 _ hw) h1 h2 h3 h4 (v := .int 0) h5 rfl rfl hd (q (ch_ok1 (ch_ok0 hs)))
theorem ch_getVa {idx i : Nat} (hd : decode (ch_bc f) pc = .ok (.getfield idx, 3)) (hw : Cond.fieldLink (ch_nm f).cls idx "java/lang/String" "value" "[B" ∈ ch_good) (kk : ch_J g f R E (pc + 3) ls (.inr (13, i, 0) :: rest) mem k) : ch_J g f R E pc ls (.inr (12, i, 0) :: rest) mem k := by
  refine ch_go (fun p e s m args below meth c H locs lm Q hF hR hS ho hs hL q => ?_) kk
  have hi := ch_okT (ch_okh hs) hR.2.2.2
  obtain ⟨cf, kf, fi, fd, cell, h1, h2, h3, h4, h5, h6⟩ := (((ch_SWF hF).2.1.kept (ch_fixed hR)).1 i hi).2.2.1
  exact W.getf hF.1 hF.2.1 hF.2.2.2.2.1 (hF.2.2.2.2.2.1 _ hw) h1 h2 h3 h4 (v := .ref (ch_xa g (13, i, 0))) h5 rfl rfl hd (q (ch_ok2 (ch_okB hi) (ch_ok0 hs)))
theorem ch_blen {i : Nat} (hd : decode (ch_bc f) pc = .ok (.arraylength, 1)) (kk : ch_J g f R E (pc + 1) ls (.inl (.int (nI (ch_tn g i))) :: rest) mem k) : ch_J g f R E pc ls (.inr (13, i, 0) :: rest) mem k := by
  refine ch_go (fun p e s m args below meth c H locs lm Q hF hR hS ho hs hL q => ?_) kk
  have hi := ch_okT2 (ch_okh hs) hR.2.2.2
  obtain ⟨cell, h1, h2, h3, h4, h5, h6, h7⟩ := (((ch_SWF hF).2.1.kept (ch_fixed hR)).1 i hi).2.2.2
  rw [ch_tlen hi] at h4 h5 h6
  exact W.alen (n := nI (ch_tn g i)) hF.1 hF.2.1 h1 h2 h5 rfl rfl hd (q (ch_ok1 (ch_ok0 hs)))
theorem ch_bald {i : Nat} {x : Int32} (hd : decode (ch_bc f) pc = .ok (.baload, 1)) (hx : vp_in x (ch_tn g i)) (kk : ch_J g f R E (pc + 1) ls (.inl (.int (ch_tb g i x.toNatClampNeg)) :: rest) mem k) : ch_J g f R E pc ls (.inl (.int x) :: .inr (13, i, 0) :: rest) mem k := by
  refine ch_go (fun p e s m args below meth c H locs lm Q hF hR hS ho hs hL q => ?_) kk
  have hi := ch_okT2 (ch_okh (ch_ok0 hs)) hR.2.2.2
  obtain ⟨cell, h1, h2, h3, h4, h5, h6, h7⟩ := (((ch_SWF hF).2.1.kept (ch_fixed hR)).1 i hi).2.2.2
  rw [ch_tlen hi] at h4 h5 h6
  have hlt : x.toNatClampNeg < ch_tn g i := Nat.not_le.mp fun q => hx (Or.inr q)
  exact W.bald (v := .int (ch_tb g i x.toNatClampNeg)) hF.1 hF.2.1 h1 h2 h3 (fun q => q.elim (fun q => hx (Or.inl q)) (fun q => by omega)) (h6 _ hlt) rfl rfl hd (q (ch_ok1 (ch_ok0 (ch_ok0 hs))))
theorem ch_bdig {i : Nat} {x : Int32} (hd : decode (ch_bc f) pc = .ok (.baload, 1)) (hx : vp_in x 100) (kk : ch_J g f R E (pc + 1) ls (.inl (.int (ch_dig i x.toNatClampNeg)) :: rest) mem k) : ch_J g f R E pc ls (.inl (.int x) :: .inr (15, i, 0) :: rest) mem k := by
  refine ch_go (fun p e s m args below meth c H locs lm Q hF hR hS ho hs hL q => ?_) kk
  have hi := ch_okT3 (ch_okh (ch_ok0 hs)) hR.2.2.2
  obtain ⟨cell, h1, h2, h3, h4, h5, h6, h7⟩ := ((ch_SWF hF).2.2.2.2.2 i hi).kept (ch_fixed hR)
  have hlt : x.toNatClampNeg < 100 := Nat.not_le.mp fun q => hx (Or.inr q)
  exact W.bald (v := .int (ch_dig i x.toNatClampNeg)) hF.1 hF.2.1 h1 h2 h3 (fun q => q.elim (fun q => hx (Or.inl q)) (fun q => by omega)) (h6 _ hlt) rfl rfl hd (q (ch_ok1 (ch_ok0 (ch_ok0 hs))))
/-- a method of a text is called -/
theorem ch_callT {f' : ch_MI} {idx n i : Nat} {as : List ch_V} (hd : decode (ch_bc f) pc = .ok (.invokevirtual idx, 3)) (hsv : ch_SV f' (ch_nm f).cls idx n) (hi : Cond.instanceMethod (ch_nm f') ∈ ch_good) (hse : Cond.selects (ch_nm f').cls (ch_nm f') (ch_nm f') ∈ ch_good) (hhh : ch_hh f' = []) (hcl : (ch_nm f').cls = "java/lang/String")
    (hn : as.length = n) (hRR : ch_RR R (ch_fr f' + 1)) (hcat : (rest.map ch_cat).sum ≤ 8) (hcs : k + ch_mc f' ≤ R.cells ∧ 6 * k + 6 * ch_mc f' ≤ R.slots)
    (h : ch_C g f' (.inr (12, i, 0) :: as) mem (ch_K g f R E pc ls rest (k + ch_mc f'))) : ch_J g f R E pc ls (as.reverse ++ .inr (12, i, 0) :: rest) mem k := by
  intro p e s m args below meth c H locs lm hF hR hS ho hs hL
  obtain ⟨hrc, hrs, hfr, hlo, hws⟩ := ch_hb hsv hF.2.2.2.2.2.1 hRR
  have hts := hF.2.2.2.2.2.1
  have hso : ∀ v ∈ (.inr (12, i, 0) :: as : List ch_V), ch_ok g v := by
    intro v hv
    refine hs v ?_
    rcases List.mem_cons.mp hv with e | e
    · rw [e]; exact List.mem_append_right _ List.mem_cons_self
    · exact List.mem_append_left _ (List.mem_reverse.mpr e)
  have hs' : ∀ v ∈ rest, ch_ok g v := fun v hv => hs v (List.mem_append_right _ (List.mem_cons_of_mem _ hv))
  have hlt := ch_okT (hso _ List.mem_cons_self) hR.2.2.2
  obtain ⟨cell, c1, c2, c3, -⟩ := (((ch_SWF hF).2.1.kept (ch_fixed hR)).1 i hlt).1
  have hM := h hF.2.2.2.2.2.2.2.2.2.1 hso
  have hcw : ch_cw f' = Cond.code (ch_nm f') (ch_bc f') (ch_ml f') (ch_rt f') := by unfold ch_cw; rw [hhh]
  have hcode := hsv.1.1
  rw [hcw] at hcode
  refine ch_run (vx_runV (As := as.map (ch_tr g)) (C := (ch_nm f').cls) (rm := ch_rm f') (n := n) (bytes := ch_bc f') (maxL := ch_ml f') (ret := ch_rt f') ⟨hF.1, hF.2.1, hF.2.2.2.1, hF.2.2.2.2.1, hts⟩ hM ⟨⟨hrc, hrs, hfr, hlo, hws, by unfold ch_ws; rw [hcw]; exact List.mem_cons_self, hts _ hcode, hts _ hsv.1.2.1, hsv.1.2.2.1, ch_len hsv.2.2, hts _ hsv.2.1⟩, hts _ hi, hts _ hse⟩
    ⟨ch_PC_blind, ⟨cell, c1, c2, by rw [hcl]; exact c3⟩, ch_pre (f' := f') hF hR⟩ rfl (by rw [List.length_map]; exact hn) hL.1 ?_ (by show 2 * 0 + _ ≤ 8; rw [ch_sum]; omega) hd hcs) hF hS ho hs' hL
  show (as.reverse ++ .inr (12, i, 0) :: rest).map (ch_tr g) = _
  rw [List.map_append, List.map_reverse, List.map_cons]
  rfl
end CHT
