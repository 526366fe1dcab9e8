abbrev ch_let : List Int32 := [110, 99, 104, 119, 115, 114, 116, 103]
section CHT
variable {g : ch_G} {f : ch_MI} {R : Room} {E : ch_En} {pc : Nat} {ls : ch_LT} {rest : List ch_V} {mem : ch_M} {k : Nat}
theorem ch_okS : ch_ok (.inr (12, 0, 0)) := fun a h => by cases h; exact Or.inr (Or.inr (Or.inl rfl))
theorem ch_okB : ch_ok (.inr (13, 0, 0)) := fun a h => by cases h; exact Or.inr (Or.inr (Or.inr rfl))
theorem ch_S_old {s : State} {H : Heap} {locs : List Loc} {p : Program} {m : MethodId} {args : Array Value} {meth : Method} {c : Code} (hF : ch_FR g f p s m args meth c) (hR : ch_Rp g mem H) (hS : va_S (ch_A g) s.heap H locs) :
    vk_S 1 [8] [ch_let] (fun _ => (ch_str g).1) (fun _ => (ch_str g).2) (ch_A g) s s.heap ∧ va_Z "java/lang/String" "COMPACT_STRINGS" "Z" (.int 1) (ch_A g) s s.heap := by
  have h := hF.2.2.2.2.2.2.1.2.2.2.2.2.2.2.2
  exact ⟨h.2.1.kept (ch_Rp_old hF hR hS), h.2.2.kept (ch_Rp_old hF hR hS)⟩
theorem ch_ldcS (hd : decode (ch_bc f) pc = .ok (.ldc 212, 2)) (ho : (ch_nm f).cls = "ChalkWarrantsModel") (kk : ch_J g f R E (pc + 2) ls (.inr (12, 0, 0) :: rest) mem k) : ch_J g f R E pc ls rest mem k :=
  ch_go (fun _ _ _ _ _ _ _ _ _ _ _ _ hF _ _ _ hs hL q => va_ldcS hF.1 hF.2.1 (by rw [← ho]; exact hF.2.2.2.2.1) hF.2.2.2.2.2.2.1.2.2.2.2.2.2.2.2.1 hd (q (ch_ok2 ch_okS hs))) kk
theorem ch_getsC {idx : Nat} (hd : decode (ch_bc f) pc = .ok (.getstatic idx, 3)) (hw : Cond.fieldLink (ch_nm f).cls idx "java/lang/String" "COMPACT_STRINGS" "Z" ∈ ch_good) (kk : ch_J g f R E (pc + 3) ls (.inl (.int 1) :: rest) mem k) : ch_J g f R E pc ls rest mem k :=
  ch_go (fun _ _ _ _ _ _ _ _ _ _ _ _ hF hR hS _ hs hL q => va_gets hF.1 hF.2.1 (ch_S_old hF hR hS).2 hS hF.2.2.2.2.1 (hF.2.2.2.2.2.1 _ hw) (fun _ h => h) hd (q (ch_ok1 hs))) kk
theorem ch_getCo {idx : Nat} (hd : decode (ch_bc f) pc = .ok (.getfield idx, 3)) (hw : Cond.fieldLink (ch_nm f).cls idx "java/lang/String" "coder" "B" ∈ ch_good) (kk : ch_J g f R E (pc + 3) ls (.inl (.int 0) :: rest) mem k) : ch_J g f R E pc ls (.inr (12, 0, 0) :: rest) mem k :=
  ch_go (fun _ _ _ _ _ _ _ _ _ _ _ _ hF hR hS _ hs hL q => vk_getf hF.1 hF.2.1 ((ch_S_old hF hR hS).1.1 0 (by decide)).2.1 hS hF.2.2.2.2.1 (hF.2.2.2.2.2.1 _ hw) (fun _ h => h) hd (q (ch_ok1 (ch_ok0 hs)))) kk
theorem ch_getVa {idx : Nat} (hd : decode (ch_bc f) pc = .ok (.getfield idx, 3)) (hw : Cond.fieldLink (ch_nm f).cls idx "java/lang/String" "value" "[B" ∈ ch_good) (kk : ch_J g f R E (pc + 3) ls (.inr (13, 0, 0) :: rest) mem k) : ch_J g f R E pc ls (.inr (12, 0, 0) :: rest) mem k :=
  ch_go (fun _ _ _ _ _ _ _ _ _ _ _ _ hF hR hS _ hs hL q => vk_getf hF.1 hF.2.1 ((ch_S_old hF hR hS).1.1 0 (by decide)).2.2.1 hS hF.2.2.2.2.1 (hF.2.2.2.2.2.1 _ hw) (fun _ h => h) hd (q (ch_ok2 ch_okB (ch_ok0 hs)))) kk
theorem ch_blen (hd : decode (ch_bc f) pc = .ok (.arraylength, 1)) (kk : ch_J g f R E (pc + 1) ls (.inl (.int 8) :: rest) mem k) : ch_J g f R E pc ls (.inr (13, 0, 0) :: rest) mem k := by
  refine ch_go (fun _ _ s _ _ _ _ _ H _ _ _ hF hR hS _ hs hL q => ?_) kk
  obtain ⟨cell, h1, h2, h3, h4, h5, h6, h7⟩ := ((ch_S_old hF hR hS).1.1 0 (by decide)).2.2.2
  have h8 : H[(ch_str g).2]? = some cell := by rw [hS.2.1 _ (Array.getElem?_eq_some_iff.mp h1).1 h7]; exact h1
  exact W.alen (n := 8) hF.1 hF.2.1 h8 h2 h5 rfl rfl hd (q (ch_ok1 (ch_ok0 hs)))
theorem ch_bald {x : Int32} (hd : decode (ch_bc f) pc = .ok (.baload, 1)) (hx : vp_in x 8) (kk : ch_J g f R E (pc + 1) ls (.inl (.int (ch_let.getD x.toNatClampNeg 0)) :: rest) mem k) : ch_J g f R E pc ls (.inl (.int x) :: .inr (13, 0, 0) :: rest) mem k :=
  ch_go (fun _ _ _ _ _ _ _ _ _ _ _ _ hF hR hS _ hs hL q => va_tb hF.1 hF.2.1 ((ch_S_old hF hR hS).1.1 0 (by decide)).2.2.2 hS (i := x) hx rfl hd (q (ch_ok1 (ch_ok0 (ch_ok0 hs))))) kk
theorem ch_ishr {x y : Int32} (hd : decode (ch_bc f) pc = .ok (.ishr, 1)) (kk : ch_J g f R E (pc + 1) ls (.inl (.int (x >>> (y &&& 31))) :: rest) mem k) : ch_J g f R E pc ls (.inl (.int y) :: .inl (.int x) :: rest) mem k :=
  ch_go (fun _ _ _ _ _ _ _ _ _ _ _ _ hF _ _ _ hs hL q => lv_ishr hF.1 hF.2.1 hd (q (ch_ok1 (ch_ok0 (ch_ok0 hs))))) kk
theorem ch_i2b {x : Int32} (hd : decode (ch_bc f) pc = .ok (.i2b, 1)) (kk : ch_J g f R E (pc + 1) ls (.inl (.int x.toInt8.toInt32) :: rest) mem k) : ch_J g f R E pc ls (.inl (.int x) :: rest) mem k :=
  ch_go (fun _ _ _ _ _ _ _ _ _ _ _ _ hF _ _ _ hs hL q => lv_i2b hF.1 hF.2.1 hd rfl (q (ch_ok1 (ch_ok0 hs)))) kk
theorem ch_ldc_w {i : Nat} {v : Int32} (hd : decode (ch_bc f) pc = .ok (.ldc_w i, 3)) (hw : Cond.constant (ch_nm f).cls i v ∈ ch_good) (kk : ch_J g f R E (pc + 3) ls (.inl (.int v) :: rest) mem k) : ch_J g f R E pc ls (rest) mem k :=
  ch_go (fun _ _ _ _ _ _ _ _ _ _ _ _ hF _ _ ho hs hL q => lv_ldcw hF.1 hF.2.1 hF.2.2.2.2.1 (hF.2.2.2.2.2.1 _ hw) hd (q (ch_ok1 hs))) kk
/-- a method of the string is called -/
theorem ch_callT {f' : ch_MI} {idx n : Nat} {as : List ch_V} (hd : decode (ch_bc f) pc = .ok (.invokevirtual idx, 3)) (hsv : ch_SV f' (ch_nm f).cls idx n) (hi : Cond.instanceMethod (ch_nm f') ∈ ch_good) (hse : Cond.selects (ch_nm f').cls (ch_nm f') (ch_nm f') ∈ ch_good) (hhh : ch_hh f' = []) (hcl : (ch_nm f').cls = "java/lang/String")
    (hn : as.length = n) (hRR : ch_RR R (ch_fr f' + 1)) (hcat : (rest.map ch_cat).sum ≤ 8) (hcs : k + ch_mc f' ≤ R.cells ∧ 6 * k + 6 * ch_mc f' ≤ R.slots)
    (h : ch_C g f' (.inr (12, 0, 0) :: as) mem (ch_K g f R E pc ls rest (k + ch_mc f'))) : ch_J g f R E pc ls (as.reverse ++ .inr (12, 0, 0) :: rest) mem k := by
  intro p e s m args below meth c H locs lm hF hR hS ho hs hL
  obtain ⟨hrc, hrs, hfr, hlo, hws⟩ := ch_hb hsv hF.2.2.2.2.2.1 hRR
  have hts := hF.2.2.2.2.2.1
  have hso : ∀ v ∈ (.inr (12, 0, 0) :: as : List ch_V), ch_ok v := by
    intro v hv
    refine hs v ?_
    rcases List.mem_cons.mp hv with e | e
    · rw [e]; exact List.mem_append_right _ List.mem_cons_self
    · exact List.mem_append_left _ (List.mem_reverse.mpr e)
  have hs' : ∀ v ∈ rest, ch_ok v := fun v hv => hs v (List.mem_append_right _ (List.mem_cons_of_mem _ hv))
  obtain ⟨cell, c1, c2, c3⟩ := vk_recv (ch_S_old hF hR hS).1 (i := 0) (by decide) hS
  have hM := h hF.2.2.2.2.2.2.2.2.2.1 hso
  have hcw : ch_cw f' = Cond.code (ch_nm f') (ch_bc f') (ch_ml f') (ch_rt f') := by unfold ch_cw; rw [hhh]
  have hcode := hsv.1.1
  rw [hcw] at hcode
  refine ch_run (vx_runV (As := as.map (ch_tr g)) (C := (ch_nm f').cls) (rm := ch_rm f') (n := n) (bytes := ch_bc f') (maxL := ch_ml f') (ret := ch_rt f') ⟨hF.1, hF.2.1, hF.2.2.2.1, hF.2.2.2.2.1, hts⟩ hM ⟨⟨hrc, hrs, hfr, hlo, hws, by unfold ch_ws; rw [hcw]; exact List.mem_cons_self, hts _ hcode, hts _ hsv.1.2.1, hsv.1.2.2.1, ch_len hsv.2.2, hts _ hsv.2.1⟩, hts _ hi, hts _ hse⟩
    ⟨ch_PC_blind, ⟨cell, c1, c2, by rw [hcl]; exact c3⟩, ch_pre (f' := f') hF hR⟩ rfl (by rw [List.length_map]; exact hn) hL.1 ?_ (by show 2 * 0 + _ ≤ 8; rw [ch_sum]; omega) hd hcs) hF hS ho hs' hL
  show (as.reverse ++ .inr (12, 0, 0) :: rest).map (ch_tr g) = _
  rw [List.map_append, List.map_reverse, List.map_cons]
  rfl
end CHT
