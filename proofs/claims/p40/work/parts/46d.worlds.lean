/-! two cells more beside the world: a builder (9) or a text that is made (10) -/
def ch_ex (g : ch_G) (c a : Nat) : ch_G := (g.1, g.2.1, g.2.2.1, g.2.2.2.1, (fun x => if x = (c, 0, 0) then a else if x = (c, 0, 1) then a + 1 else ch_xa g x), (fun x => ch_xi g x ∨ x = (c, 0, 0) ∨ x = (c, 0, 1)), g.2.2.2.2.2.2)
theorem ch_ex_xa {g : ch_G} {c a : Nat} {x : ch_Ad} (h : x.1 ≠ c) : ch_xa (ch_ex g c a) x = ch_xa g x := by
  show (if x = (c, 0, 0) then a else if x = (c, 0, 1) then a + 1 else ch_xa g x) = _
  rw [if_neg (fun z => h (by rw [z])), if_neg (fun z => h (by rw [z]))]
theorem ch_ex_adr {g : ch_G} {c a : Nat} {x : ch_Ad} (h : x.1 ≠ c) : ch_adr (ch_ex g c a) x = ch_adr g x := by
  unfold ch_adr
  by_cases h8 : x.1 ≤ 8
  · rw [if_pos h8, if_pos h8]
    rfl
  · rw [if_neg h8, if_neg h8]
    exact ch_ex_xa h
theorem ch_ex_0 {g : ch_G} {c a : Nat} (hc : 8 < c) : ch_adr (ch_ex g c a) (c, 0, 0) = a := by
  unfold ch_adr
  rw [if_neg (by show ¬ c ≤ 8; omega)]
  show (if ((c, 0, 0) : ch_Ad) = (c, 0, 0) then a else _) = a
  rw [if_pos rfl]
theorem ch_ex_1 {g : ch_G} {c a : Nat} (hc : 8 < c) : ch_adr (ch_ex g c a) (c, 0, 1) = a + 1 := by
  unfold ch_adr
  rw [if_neg (by show ¬ c ≤ 8; omega)]
  show (if ((c, 0, 1) : ch_Ad) = (c, 0, 0) then a else if ((c, 0, 1) : ch_Ad) = (c, 0, 1) then a + 1 else _) = a + 1
  rw [if_neg (by simp), if_pos rfl]
theorem ch_ex_in {g : ch_G} {c a : Nat} (hc : 8 < c) (hxi : ∀ x, ch_xi g x → x.1 ≠ c) {x : ch_Ad} (h : ch_inx (ch_ex g c a) x) : (ch_inx g x ∧ x.1 ≠ c) ∨ x = (c, 0, 0) ∨ x = (c, 0, 1) := by
  rcases h with h | h | h
  · refine Or.inl ⟨Or.inl h, fun z => ?_⟩
    have := h.1
    omega
  · exact Or.inl ⟨Or.inr h, hxi x h⟩
  · exact Or.inr h
theorem ch_ex_fx {g : ch_G} {c a q : Nat} (hc : 8 < c) (hxi : ∀ x, ch_xi g x → x.1 ≠ c) (ha : (ch_H0 g).size ≤ a) : ch_fx (ch_ex g c a) q ↔ ch_fx g q := by
  constructor
  · rintro ⟨h1, h2⟩
    refine ⟨h1, fun x hx => ?_⟩
    have hn : x.1 ≠ c := by
      rcases hx with h | h
      · have := h.1
        omega
      · exact hxi x h
    rw [← ch_ex_adr (a := a) hn]
    exact h2 x (hx.elim Or.inl (fun h => Or.inr (Or.inl h)))
  · rintro ⟨h1, h2⟩
    refine ⟨h1, fun x hx => ?_⟩
    have h1 : q < (ch_H0 g).size := h1
    rcases ch_ex_in hc hxi hx with ⟨hx, hn⟩ | hx | hx
    · rw [ch_ex_adr hn]
      exact h2 x hx
    · rw [hx, ch_ex_0 hc]
      omega
    · rw [hx, ch_ex_1 hc]
      omega
theorem ch_ex_WV {g : ch_G} {c a : Nat} {U : State} (hc : c = 9 ∨ c = 10) (hxi : ∀ x, ch_xi g x → x.1 ≠ c) (ha : (ch_H0 g).size ≤ a) (h : ch_WV g U) : ch_WV (ch_ex g c a) U := by
  have h8 : 8 < c := by omega
  have fx : (fun q => ¬ ch_fx (ch_ex g c a) q) = fun q => ¬ ch_fx g q := by
    funext q
    rw [ch_ex_fx h8 hxi ha]
  have e11 : ch_scr (ch_ex g c a) = ch_scr g := by
    show (ch_xa (ch_ex g c a) (11, 0, 0), _) = (ch_xa g (11, 0, 0), _)
    rw [ch_ex_xa (show (11 : Nat) ≠ c by omega)]
    rfl
  have e12 : ∀ i, ch_xa (ch_ex g c a) (12, i, 0) = ch_xa g (12, i, 0) := fun i => ch_ex_xa (show (12 : Nat) ≠ c by omega)
  have e13 : ∀ i, ch_xa (ch_ex g c a) (13, i, 0) = ch_xa g (13, i, 0) := fun i => ch_ex_xa (show (13 : Nat) ≠ c by omega)
  have e15 : ∀ i, ch_xa (ch_ex g c a) (15, i, 0) = ch_xa g (15, i, 0) := fun i => ch_ex_xa (show (15 : Nat) ≠ c by omega)
  obtain ⟨h1, h2, h3, h4, h5, h6, h7, h8', h9, h10⟩ := h
  refine ⟨h1, h2, h3, h4, h5, by rw [e11]; exact h6, by rw [e11]; exact (ch_ex_fx h8 hxi ha).mpr h7, by rw [e11]; exact h8', ?_, h10⟩
  unfold ch_SW at h9 ⊢
  rw [fx]
  simp only [e12, e13, e15]
  exact h9
theorem ch_ex_FR {g : ch_G} {cc a : Nat} {f : ch_MI} {p : Program} {s : State} {m : MethodId} {args : Array Value} {meth : Method} {c : Code} (hc : cc = 9 ∨ cc = 10) (hxi : ∀ x, ch_xi g x → x.1 ≠ cc) (ha : (ch_H0 g).size ≤ a) (h : ch_FR g f p s m args meth c) : ch_FR (ch_ex g cc a) f p s m args meth c := by
  obtain ⟨h1, h2, h3, h4, h5, h6, h7, h8, h9, h10, h11, h12⟩ := h
  exact ⟨h1, h2, h3, h4, h5, h6, ch_ex_WV hc hxi ha h7, h8, h9, h10, h11, h12⟩
theorem ch_ex_ok {g : ch_G} {c a : Nat} {v : ch_V} (hc : c = 9 ∨ c = 10) (hxi : ∀ x, ch_xi g x → x.1 ≠ c) (h : ch_ok g v) : ch_ok (ch_ex g c a) v ∧ ch_tr (ch_ex g c a) v = ch_tr g v := by
  cases v with
  | inl v => exact ⟨ch_okl, rfl⟩
  | inr b =>
    have hb := h b rfl
    have hn : b.1 ≠ c := by
      rcases hb with (hb | hb) | hb | ⟨i, hi, hb | hb⟩ | ⟨i, hi, hb⟩
      · have := hb.1
        omega
      · exact hxi _ hb
      all_goals
        rw [hb]
        show (_ : Nat) ≠ c
        omega
    refine ⟨fun b' hb' => ?_, ?_⟩
    · cases hb'
      rcases hb with (hb | hb) | hb
      · exact Or.inl (Or.inl hb)
      · exact Or.inl (Or.inr (Or.inl hb))
      · exact Or.inr hb
    · show Value.ref _ = Value.ref _
      rw [ch_ex_adr hn]
theorem ch_ex_ok0 {g : ch_G} {c a : Nat} : ch_ok (ch_ex g c a) (.inr (c, 0, 0)) := fun b h => by
  cases h
  exact Or.inl (Or.inr (Or.inr (Or.inl rfl)))
theorem ch_ex_ok1 {g : ch_G} {c a : Nat} : ch_ok (ch_ex g c a) (.inr (c, 0, 1)) := fun b h => by
  cases h
  exact Or.inl (Or.inr (Or.inr (Or.inr rfl)))
/-- what stood fixed at the world's making is there still -/
theorem ch_Rp_sz {g : ch_G} {m : ch_M} {H : Heap} (h : ch_Rp g m H) : (ch_H0 g).size ≤ H.size := by
  refine Nat.le_of_not_lt (fun hlt => ?_)
  by_cases hf : ∀ a, ch_inx g a → ch_adr g a ≠ H.size
  · have h1 := h.2.1 H.size ⟨hlt, hf⟩
    rw [Array.getElem?_eq_getElem hlt] at h1
    have := (Array.getElem?_eq_some_iff.mp h1).1
    omega
  · simp only [Classical.not_forall, Classical.not_not] at hf
    obtain ⟨a, ha, e⟩ := hf
    have := ch_cell_lt (h.2.2.1 a ha)
    omega
/-! cells that are made behind a heap K -/
def st_H (g : ch_G) (K : Heap) (n : Nat) (D : Nat → cb_d) (H : Heap) : Prop := H.size = K.size + n ∧ (∀ q, q < K.size → H[q]? = K[q]?) ∧ ∀ i, i < n → cb_c g (D i) (K.size + i) H
theorem st_H_push {g : ch_G} {K : Heap} {n : Nat} {D : Nat → cb_d} {d : cb_d} {H H1 : Heap} (h : st_H g K n D H) (hz : H1.size = H.size + 1) (ho : ∀ q, q < H.size → H1[q]? = H[q]?) (hc : cb_c g d (K.size + n) H1) : st_H g K (n + 1) (fun i => if i = n then d else D i) H1 := by
  obtain ⟨h1, h2, h3⟩ := h
  refine ⟨by omega, fun q hq => (ho q (by omega)).trans (h2 q hq), fun i hi => ?_⟩
  show cb_c g (if i = n then d else D i) _ _
  by_cases e : i = n
  · rw [if_pos e, e]; exact hc
  · rw [if_neg e]
    exact cb_c_kept (h3 i (by omega)) (ho _ (by omega))
theorem st_H_set {g : ch_G} {K : Heap} {n i0 : Nat} {D : Nat → cb_d} {d : cb_d} {H H1 : Heap} (h : st_H g K n D H) (hz : H1.size = H.size) (ho : ∀ q, q ≠ K.size + i0 → H1[q]? = H[q]?) (hc : cb_c g d (K.size + i0) H1) : st_H g K n (fun i => if i = i0 then d else D i) H1 := by
  obtain ⟨h1, h2, h3⟩ := h
  refine ⟨by omega, fun q hq => (ho q (by omega)).trans (h2 q hq), fun i hi => ?_⟩
  show cb_c g (if i = i0 then d else D i) _ _
  by_cases e : i = i0
  · rw [if_pos e, e]; exact hc
  · rw [if_neg e]
    exact cb_c_kept (h3 i hi) (ho _ (by omega))
/-! contracts over heaps told by a predicate, with an answer -/
def gx_Q (g : ch_G) (v : Option ch_V) (P : Heap → Prop) : Array Value → State → Outcome → State → Prop := fun _ st o t => o = .returned (v.map (ch_tr g)) ∧ P t.heap ∧ va_F (ch_A g) st t
def gx_C (g : ch_G) (f : ch_MI) (as : List ch_V) (P : Heap → Prop) (v : Option ch_V) (P' : Heap → Prop) : Prop := (ch_l g).stackTraces = false → (∀ v ∈ as, ch_ok g v) → Met (ch_l g) (ch_nm f) (ch_ws f) (ch_rm f) (cb_PC g as P) (gx_Q g v P') (ch_mc f) (6 * ch_mc f) (ch_A g)
def gx_E (g : ch_G) (f : ch_MI) (v : Option ch_V) (P' : Heap → Prop) : ch_En := fun s args below => MQ below (gx_Q g v P') args s (ch_mc f) (6 * ch_mc f) (ch_A g)
theorem gx_enter {g : ch_G} {f : ch_MI} {as : List ch_V} {P P' : Heap → Prop} {v : Option ch_V} (hf : ch_MF f) (hhh : ch_hh f = []) (hcat : ∀ v ∈ as, ch_cat v = 1) (hlen : as.length ≤ ch_ml f)
    (h : cb_J g f (ch_rm f) (gx_E g f v P') 0 (as.map some ++ List.replicate (ch_ml f - as.length) none) [] P 0) : gx_C g f as P v P' := by
  intro htr hok
  have hcw : ch_cw f = Cond.code (ch_nm f) (ch_bc f) (ch_ml f) (ch_rt f) := by unfold ch_cw; rw [hhh]
  refine ch_MofW (cc := ch_bc f) (maxL := ch_ml f) (ret := ch_rt f) (ws' := ch_good) hf.2.2.2.1 (by unfold ch_ws; rw [hcw]) ?_
  intro p e s m args below meth c s₁ B hml hP
  obtain ⟨rfl, hW, hAO, hR, hb⟩ := hP
  have hts := atoms_spec (ws := ch_ws f) B.pre
  rw [lg_entry_eq]
  refine h p e s m _ below meth c s.heap [] _ ⟨B.exec, B.bytes, B.returns, hml, findClass_of_methodNamed B.named, ch_good_pre hts, hW, B.notSynchronized, ch_cw_tab (hts _ List.mem_cons_self) B.named B.method (Stand.of_body B).code, htr, Nat.le_trans hAO hb, (name_of_methodNamed B.named B.method).1⟩ hAO hR va_S.rf ?_ (fun v hv => by cases hv) (ch_entry g as (ch_ml f) hcat hlen)
  intro o ho v hv
  subst hv
  rcases List.mem_append.mp ho with h1 | h1
  · obtain ⟨w, hw, he⟩ := List.mem_map.mp h1
    rw [← Option.some.inj he]
    exact hok w hw
  · have := List.eq_of_mem_replicate h1
    cases this
section GX
variable {g : ch_G} {f : ch_MI} {R : Room} {E : ch_En} {pc : Nat} {ls ls' : ch_LT} {rest : List ch_V} {P P' : Heap → Prop} {k : Nat}
theorem gx_vret (hd : decode (ch_bc f) pc = .ok (.return_, 1)) (hr : ch_rt f = none) (hk : k ≤ ch_mc f) (hq : ∀ H, P H → P' H) : cb_J g f (ch_rm f) (gx_E g f none P') pc ls [] P k :=
  fun p e s m args below meth c H locs lm hF hN hP hS ho hs hL => W.widen hk (by omega) (W.vret hF.1 hF.2.1 (hF.2.2.1.trans hr) (fun t ht hw => ⟨rfl, by rw [ht]; exact hq _ hP, hS.F ht⟩) hS.2.2 hd hF.2.2.2.2.2.2.2.1)
theorem gx_iret {x : Int32} {ty : FieldType} (hd : decode (ch_bc f) pc = .ok (.ireturn, 1)) (hr : ch_rt f = some ty) (hn : narrow ty (.int x) = .int x) (hk : k ≤ ch_mc f) (hq : ∀ H, P H → P' H) : cb_J g f (ch_rm f) (gx_E g f (some (.inl (.int x))) P') pc ls [.inl (.int x)] P k :=
  fun p e s m args below meth c H locs lm hF hN hP hS ho hs hL => W.widen hk (by omega) (W.zret hF.1 hF.2.1 (hF.2.2.1.trans hr) hn (fun t ht hw => ⟨rfl, by rw [ht]; exact hq _ hP, hS.F ht⟩) hS.2.2 hd hF.2.2.2.2.2.2.2.1)
theorem gx_aret {a : ch_Ad} {rt : FieldType} (hd : decode (ch_bc f) pc = .ok (.areturn, 1)) (hr : ch_rt f = some rt) (hrt : (∃ n, rt = .object n) ∨ ∃ t, rt = .array t) (hk : k ≤ ch_mc f) (hq : ∀ H, P H → P' H) : cb_J g f (ch_rm f) (gx_E g f (some (.inr a)) P') pc ls [.inr a] P k :=
  fun p e s m args below meth c H locs lm hF hN hP hS ho hs hL => W.widen hk (by omega) (W.aret hF.1 hF.2.1 (hF.2.2.1.trans hr) hrt (Or.inr ⟨_, rfl⟩) (fun t ht hw => ⟨rfl, by rw [ht]; exact hq _ hP, hS.F ht⟩) hS.2.2 hd hF.2.2.2.2.2.2.2.1)
theorem gx_isub {x y : Int32} (hd : decode (ch_bc f) pc = .ok (.isub, 1)) (kk : cb_J g f R E (pc + 1) ls (.inl (.int (x - y)) :: rest) P k) : cb_J g f R E pc ls (.inl (.int y) :: .inl (.int x) :: rest) P k :=
  cb_go (fun _ _ _ _ _ _ _ _ _ _ _ _ hF ho hs hL q => lv_isub hF.1 hF.2.1 hd (q (ch_ok1 (ch_ok0 (ch_ok0 hs))))) kk
theorem gx_iload {i : Nat} {x : Int32} (hd : decode (ch_bc f) pc = .ok (.iload i, 2)) (hl : ls[i]? = some (some (.inl (.int x)))) (kk : cb_J g f R E (pc + 2) ls (.inl (.int x) :: rest) P k) : cb_J g f R E pc ls rest P k :=
  cb_go (fun _ _ _ _ _ _ _ _ _ _ _ _ hF ho hs hL q => lv_iload hF.1 hF.2.1 hd (hL.2.2 _ _ hl) (q (ch_ok1 hs))) kk
theorem gx_aload {i : Nat} {a : ch_Ad} (hd : decode (ch_bc f) pc = .ok (.aload i, 2)) (hl : ls[i]? = some (some (.inr a))) (kk : cb_J g f R E (pc + 2) ls (.inr a :: rest) P k) : cb_J g f R E pc ls rest P k :=
  cb_go (fun _ _ _ _ _ _ _ _ _ _ _ _ hF ho hs hL q => lv_aload hF.1 hF.2.1 hd (hL.2.2 _ _ hl) (q (ch_ok2 (ho _ (List.mem_of_getElem? hl) _ rfl) hs))) kk
theorem gx_null (hd : decode (ch_bc f) pc = .ok (.aconst_null, 1)) (kk : cb_J g f R E (pc + 1) ls (.inl .null :: rest) P k) : cb_J g f R E pc ls rest P k :=
  cb_go (fun _ _ _ _ _ _ _ _ _ _ _ _ hF ho hs hL q => lv_null hF.1 hF.2.1 hd (q (ch_ok1 hs))) kk
theorem gx_if_eq {off : Int} {tgt : Nat} {x : Int32} (hd : decode (ch_bc f) pc = .ok (.ifCond .eq off, 3)) (ht : (pc : Int) + off = (tgt : Int)) (kt : x = 0 → cb_J g f R E tgt ls rest P k) (kf : ¬ x = 0 → cb_J g f R E (pc + 3) ls rest P k) : cb_J g f R E pc ls (.inl (.int x) :: rest) P k :=
  fun p e s m args below meth c H locs lm hF hN hR hS ho hs hL => lv_if_eq hF.1 hF.2.1 hd ht (fun z => kt z p e s m args below meth c H locs lm hF hN hR hS ho (ch_ok0 hs) hL) (fun z => kf z p e s m args below meth c H locs lm hF hN hR hS ho (ch_ok0 hs) hL)
theorem gx_if_ne {off : Int} {tgt : Nat} {x : Int32} (hd : decode (ch_bc f) pc = .ok (.ifCond .ne off, 3)) (ht : (pc : Int) + off = (tgt : Int)) (kt : ¬ x = 0 → cb_J g f R E tgt ls rest P k) (kf : x = 0 → cb_J g f R E (pc + 3) ls rest P k) : cb_J g f R E pc ls (.inl (.int x) :: rest) P k :=
  fun p e s m args below meth c H locs lm hF hN hR hS ho hs hL => lv_if_ne hF.1 hF.2.1 hd ht (fun z => kt z p e s m args below meth c H locs lm hF hN hR hS ho (ch_ok0 hs) hL) (fun z => kf z p e s m args below meth c H locs lm hF hN hR hS ho (ch_ok0 hs) hL)
theorem gx_icmp_eq {off : Int} {tgt : Nat} {x y : Int32} (hd : decode (ch_bc f) pc = .ok (.if_icmp .eq off, 3)) (ht : (pc : Int) + off = (tgt : Int)) (kt : x = y → cb_J g f R E tgt ls rest P k) (kf : ¬ x = y → cb_J g f R E (pc + 3) ls rest P k) : cb_J g f R E pc ls (.inl (.int y) :: .inl (.int x) :: rest) P k :=
  fun p e s m args below meth c H locs lm hF hN hR hS ho hs hL => lv_icmp_eq hF.1 hF.2.1 hd ht (fun z => kt z p e s m args below meth c H locs lm hF hN hR hS ho (ch_ok0 (ch_ok0 hs)) hL) (fun z => kf z p e s m args below meth c H locs lm hF hN hR hS ho (ch_ok0 (ch_ok0 hs)) hL)
theorem gx_min {x y : Int32} {idx : Nat} (hd : decode (ch_bc f) pc = .ok (.invokestatic idx, 3)) (hm : ch_MM (ch_nm f).cls idx Lib.Math.min.name Lib.Math.min.code) (hRR : ch_RR R 1) (hcs : k ≤ R.cells ∧ 6 * k ≤ R.slots) (hcat : (rest.map ch_cat).sum ≤ 8) (kk : cb_J g f R E (pc + 3) ls (.inl (.int (if y < x then y else x)) :: rest) P k) : cb_J g f R E pc ls (.inl (.int y) :: .inl (.int x) :: rest) P k :=
  cb_go (fun _ _ _ _ _ _ _ _ _ _ _ _ hF ho hs hL q => va_mmin hF.1 hF.2.1 (hF.2.2.2.1.trans hL.1.symm) hF.2.2.2.2.1 (hF.2.2.2.2.2.1 _ hm.1) (hF.2.2.2.2.2.1 _ hm.2.1) (hF.2.2.2.2.2.1 _ hm.2.2.1) (hF.2.2.2.2.2.1 _ hm.2.2.2) hRR.1 (by have := hRR.2; rw [ch_sum]; omega) hcs.1 hcs.2 hd (q (ch_ok1 (ch_ok0 (ch_ok0 hs))))) kk
theorem gx_getsC {idx : Nat} (hd : decode (ch_bc f) pc = .ok (.getstatic idx, 3)) (hw : Cond.fieldLink (ch_nm f).cls idx "java/lang/String" "COMPACT_STRINGS" "Z" ∈ ch_good) (hfx : ∀ H, P H → ∀ q, ch_fx g q → H[q]? = (ch_H0 g)[q]?) (kk : cb_J g f R E (pc + 3) ls (.inl (.int 1) :: rest) P k) : cb_J g f R E pc ls rest P k := by
  intro p e s m args below meth c H locs lm hF hN hP hS ho hs hL
  exact ch_zgets hF.1 hF.2.1 ((ch_SWF hF).2.2.1.kept (fun a _ h => hfx H hP a (Classical.not_not.mp h))) hF.2.2.2.2.1 (hF.2.2.2.2.2.1 _ hw) (fun _ h => h) hd (kk p e s m args below meth c H locs lm hF hN hP hS ho (ch_ok1 hs) hL)
/-- a field of a cell that is told -/
theorem gx_get {idx ci kf : Nat} {a : ch_Ad} {V : Nat → ch_V} {v : ch_V} (hd : decode (ch_bc f) pc = .ok (.getfield idx, 3)) (hl : ch_FL (ch_nm f).cls idx ci kf) (hB : ∀ H, P H → cb_c g (.inl (ci, V)) (ch_adr g a) H) (hv : V kf = v) (hok : ch_ok g v)
    (kk : cb_J g f R E (pc + 3) ls (v :: rest) P k) : cb_J g f R E pc ls (.inr a :: rest) P k := by
  intro p e s m args below meth c H locs lm hF hN hP hS ho hs hL
  obtain ⟨C, T, N, hcl, hk, hlink⟩ := hl
  obtain ⟨r, hr, hob⟩ := hB H hP
  have hr' : r = (C, T, N) := Option.some.inj (hr.symm.trans hcl.1)
  subst hr'
  have hPl : va_P (ch_dC g, ch_dI g) ch_cls [(ch_adr g a, .inr (ci, (List.range N).map (fun k => ch_tr g (V k))))] H := by
    intro i x hx
    have hi : i < 1 := (List.getElem?_eq_some_iff.mp hx).1
    have : i = 0 := by omega
    subst this
    cases hx
    exact ⟨_, hr, hob.to (fun i hi => by simp only [vp_V, List.getD_eq_getElem?_getD]; rw [ch_fl_pad _ _ _ hi]; rfl)⟩
  have q' := kk p e s m args below meth c H locs lm hF hN hP hS ho (ch_ok2 hok (ch_ok0 hs)) hL
  rw [List.map_cons, ← hv] at q'
  rw [List.map_cons]
  rcases hlink with h | ⟨host, h⟩
  · exact va_get (D := (ch_dC g, ch_dI g)) hF.1 hF.2.1 hF.2.2.2.2.2.1 hcl.2.1 hF.2.2.2.2.1 hF.2.2.2.2.2.2.1.1 hPl 0 rfl hcl.1 kf hk (hF.2.2.2.2.2.1 _ h) (fun x hx => hx) (ch_fl_pad _ _ _ hk) hd q'
  · exact va_getN (D := (ch_dC g, ch_dI g)) (host := host) hF.1 hF.2.1 hF.2.2.2.2.2.1 hcl.2.1 hF.2.2.2.2.1 hF.2.2.2.2.2.2.1.1 hPl 0 rfl hcl.1 kf hk (va_Nw.use (ch_oth_on h) (hF.2.2.2.2.2.2.1.2.1 _ h)) (fun x hx => hx) (ch_fl_pad _ _ _ hk) hd q'
theorem gx_alen {t len : Nat} {a : ch_Ad} {v : Int32} {F : Nat → Value} (hd : decode (ch_bc f) pc = .ok (.arraylength, 1)) (ht : t < 6) (hB : ∀ H, P H → H[ch_adr g a]? = some (arrV (ch_cA g t) len F)) (hv : Int32.ofNat len = v) (kk : cb_J g f R E (pc + 1) ls (.inl (.int v) :: rest) P k) : cb_J g f R E pc ls (.inr a :: rest) P k := by
  intro p e s m args below meth c H locs lm hF hN hP hS ho hs hL
  exact W.alen (n := v) hF.1 hF.2.1 (hB H hP) (ch_arrK hF.2.2.2.2.2.2.1 ht _ _) (by rw [arrV_size]; exact hv) rfl rfl hd (kk p e s m args below meth c H locs lm hF hN hP hS ho (ch_ok1 (ch_ok0 hs)) hL)
/-- behind a call -/
theorem gx_run {p : Program} {e : Env} {s : State} {m : MethodId} {args a' : Array Value} {below : List Frame} {meth : Method} {c : Code} {H : Heap} {locs : List Loc} {lm : Array Slot} {st0 : List Value} {mc : Nat} {v : Option ch_V}
    (hr : va_Run p (ch_l g) e R s m args below meth c H locs k (6 * k) mc (6 * mc) (F0 m pc lm st0) (rest.map (ch_tr g)) (gx_Q g v P' a') (ch_A g)) (kk : cb_J g f R E (pc + 3) ls (v.toList ++ rest) P' (k + mc)) (hv : ∀ w, v = some w → ch_ok g w)
    (hF : ch_FR g f p s m args meth c) (hN : ch_lo g ≤ ch_base g) (hS : va_S (ch_A g) s.heap H locs) (ho : ∀ o ∈ ls, ∀ v, o = some v → ch_ok g v) (hs : ∀ v ∈ rest, ch_ok g v) (hL : ch_LR g (ch_ml f) ls lm) :
    W p (ch_l g) e R s m args below meth c H locs k (6 * k) (E s args below) (F0 m pc lm st0) := by
  intro T hT X
  have e6 : 6 * (k + mc) = 6 * k + 6 * mc := by omega
  obtain ⟨w, st₀, t, T', L, h0, X', hLc, e1, e2, ⟨hw, hP, hFr⟩, st⟩ := hr T hT X
  have hS' : va_S (ch_A g) s.heap T'.heap (locs ++ L) := (vx_keep h0 e1 hS (fun q _ h => h) (fun q h => h) hLc hFr).2.2
  rw [← e6] at X'
  cases hw
  have hs' : ∀ x ∈ v.toList ++ rest, ch_ok g x := fun x hx => by
    rcases List.mem_append.mp hx with h | h
    · exact hv x (by cases v with
        | none => cases h
        | some y => simp at h; rw [h])
    · exact hs x h
  obtain ⟨t2, a1, b1⟩ := kk p e s m args below meth c T'.heap (locs ++ L) lm hF hN (by rw [e1]; exact hP) hS' ho hs' hL T' rfl X'
  refine ⟨t2, st t2 ?_, b1⟩
  have es : (v.toList ++ rest).map (ch_tr g) = (v.map (ch_tr g)).toList ++ rest.map (ch_tr g) := by
    cases v <;> rfl
  rw [es] at a1
  exact a1
/-- a static method -/
theorem gx_callS {f' : ch_MI} {idx n : Nat} {as : List ch_V} {v : Option ch_V} (hd : decode (ch_bc f) pc = .ok (.invokestatic idx, 3)) (hsv : ch_SV f' (ch_nm f).cls idx n) (hi : Cond.static (ch_nm f') ∈ ch_good) (hhh : ch_hh f' = [])
    (hn : as.length = n) (hRR : ch_RR R (ch_fr f' + 1)) (hcat : (rest.map ch_cat).sum ≤ 8) (hcs : k + ch_mc f' ≤ R.cells ∧ 6 * k + 6 * ch_mc f' ≤ R.slots) (hb : ∀ H, P H → ch_base g ≤ H.size)
    (h : gx_C g f' as P v P') (hv : ∀ w, v = some w → ch_ok g w) (kk : cb_J g f R E (pc + 3) ls (v.toList ++ rest) P' (k + ch_mc f')) : cb_J g f R E pc ls (as.reverse ++ rest) P k := by
  intro p e s m args below meth c H locs lm hF hN hP hS ho hs hL
  obtain ⟨hrc, hrs, hfr, hlo, hws⟩ := ch_hb hsv hF.2.2.2.2.2.1 hRR
  have hts := hF.2.2.2.2.2.1
  have hso : ∀ v ∈ as, ch_ok g v := fun v hv => hs v (List.mem_append_left _ (List.mem_reverse.mpr hv))
  have hs' : ∀ v ∈ rest, ch_ok g v := fun v hv => hs v (List.mem_append_right _ hv)
  have hM := h hF.2.2.2.2.2.2.2.2.2.1 hso
  have hcw : ch_cw f' = Cond.code (ch_nm f') (ch_bc f') (ch_ml f') (ch_rt f') := by unfold ch_cw; rw [hhh]
  have hcode := hsv.1.1
  rw [hcw] at hcode
  refine gx_run (va_runS (As := as.map (ch_tr g)) (rm := ch_rm f') (n := n) (bytes := ch_bc f') (maxL := ch_ml f') (ret := ch_rt f') ⟨hF.1, hF.2.1, hF.2.2.2.1, hF.2.2.2.2.1, hts⟩ hM ⟨⟨hrc, hrs, hfr, hlo, hws, by unfold ch_ws; rw [hcw]; exact List.mem_cons_self, hts _ hcode, hts _ hsv.1.2.1, hsv.1.2.2.1, ch_len hsv.2.2, hts _ hsv.2.1⟩, hts _ hi⟩
    ⟨cb_PC_blind, fun U hU hW => ⟨rfl, hF.2.2.2.2.2.2.1.warm hW, hN, by rw [hU]; exact hP, by rw [hU]; exact hb _ hP⟩⟩ rfl (by rw [List.length_map]; exact hn) hL.1 ?_ (by show 2 * 0 + _ ≤ 8; rw [ch_sum]; omega) hd hcs) kk hv hF hN hS ho hs' hL
  show (as.reverse ++ rest).map (ch_tr g) = _
  rw [List.map_append, List.map_reverse]
/-- a constructor with arguments -/
theorem gx_callI {f' : ch_MI} {idx n : Nat} {a : ch_Ad} {as : List ch_V} (hd : decode (ch_bc f) pc = .ok (.invokespecial idx, 3)) (hsv : ch_SV f' (ch_nm f).cls idx n) (hi : Cond.instanceMethod (ch_nm f') ∈ ch_good) (hnm : (ch_nm f').name = "<init>") (hhh : ch_hh f' = []) (hrt : ch_rt f' = none)
    (hn : as.length = n) (hRR : ch_RR R (ch_fr f' + 1)) (hcat : (rest.map ch_cat).sum ≤ 8) (hcs : k + ch_mc f' ≤ R.cells ∧ 6 * k + 6 * ch_mc f' ≤ R.slots) (hb : ∀ H, P H → ch_base g ≤ H.size)
    (h : gx_C g f' (.inr a :: as) P none P') (kk : cb_J g f R E (pc + 3) ls rest P' (k + ch_mc f')) : cb_J g f R E pc ls (as.reverse ++ .inr a :: rest) P k := by
  intro p e s m args below meth c H locs lm hF hN hP hS ho hs hL
  obtain ⟨hrc, hrs, hfr, hlo, hws⟩ := ch_hb hsv hF.2.2.2.2.2.1 hRR
  have hts := hF.2.2.2.2.2.1
  have hso : ∀ v ∈ (.inr a :: as : List ch_V), ch_ok g v := by
    intro v hv
    refine hs v ?_
    rcases List.mem_cons.mp hv with e | e
    · rw [e]; exact List.mem_append_right _ List.mem_cons_self
    · exact List.mem_append_left _ (List.mem_reverse.mpr e)
  have hs' : ∀ v ∈ rest, ch_ok g v := fun v hv => hs v (List.mem_append_right _ (List.mem_cons_of_mem _ hv))
  have hM := h hF.2.2.2.2.2.2.2.2.2.1 hso
  have hcw : ch_cw f' = Cond.code (ch_nm f') (ch_bc f') (ch_ml f') (ch_rt f') := by unfold ch_cw; rw [hhh]
  have hcode := hsv.1.1
  rw [hcw] at hcode
  rw [hrt] at hcw hcode
  refine gx_run (va_runI (As := as.map (ch_tr g)) (b := ch_adr g a) (rest := rest.map (ch_tr g)) (n := n) (bytes := ch_bc f') (maxL := ch_ml f') ⟨hF.1, hF.2.1, hF.2.2.2.1, hF.2.2.2.2.1, hts⟩ hM ⟨⟨hrc, hrs, hfr, hlo, hws, by unfold ch_ws; rw [hcw]; exact List.mem_cons_self, hts _ hcode, hts _ hsv.1.2.1, hsv.1.2.2.1, ch_len hsv.2.2, hts _ hsv.2.1⟩, hnm, hts _ hi⟩
    ⟨cb_PC_blind, fun U hU hW => ⟨rfl, hF.2.2.2.2.2.2.1.warm hW, hN, by rw [hU]; exact hP, by rw [hU]; exact hb _ hP⟩⟩ rfl (by rw [List.length_map]; exact hn) hL.1 ?_ (by show 2 * 0 + _ ≤ 8; rw [ch_sum]; omega) hd hcs) kk (fun w z => by cases z) hF hN hS ho hs' hL
  show (as.reverse ++ .inr a :: rest).map (ch_tr g) = _
  rw [List.map_append, List.map_reverse, List.map_cons]
  rfl
/-- a method of a builder, declared above its class -/
theorem gx_callC {f' : ch_MI} {idx ci : Nat} {a : ch_Ad} {C : String} {V : Nat → ch_V} {v : Option ch_V} (hd : decode (ch_bc f) pc = .ok (.invokevirtual idx, 3)) (hsv : ch_SV f' (ch_nm f).cls idx 0) (hi : Cond.instanceMethod (ch_nm f') ∈ ch_good) (hse : bu_sel g f C (ch_nm f')) (hhh : ch_hh f' = []) (hcl : (ch_cls[ci]?).map (fun r => r.1) = some C)
    (hB : ∀ H, P H → cb_c g (.inl (ci, V)) (ch_adr g a) H) (hRR : ch_RR R (ch_fr f' + 1)) (hcat : (rest.map ch_cat).sum ≤ 8) (hcs : k + ch_mc f' ≤ R.cells ∧ 6 * k + 6 * ch_mc f' ≤ R.slots) (hb : ∀ H, P H → ch_base g ≤ H.size)
    (h : gx_C g f' [.inr a] P v P') (hv : ∀ w, v = some w → ch_ok g w) (kk : cb_J g f R E (pc + 3) ls (v.toList ++ rest) P' (k + ch_mc f')) : cb_J g f R E pc ls (.inr a :: rest) P k := by
  intro p e s m args below meth c H locs lm hF hN hP hS ho hs hL
  obtain ⟨hrc, hrs, hfr, hlo, hws⟩ := ch_hb hsv hF.2.2.2.2.2.1 hRR
  have hts := hF.2.2.2.2.2.1
  obtain ⟨r, hr, cell, c1, c2, c3, -⟩ := hB H hP
  have hrn : r.1 = C := by rw [hr] at hcl; exact Option.some.inj hcl
  have hM := h hF.2.2.2.2.2.2.2.2.2.1 (fun v hv => by
    rcases List.mem_cons.mp hv with e | e
    · rw [e]; exact ch_okh hs
    · cases e)
  have hcw : ch_cw f' = Cond.code (ch_nm f') (ch_bc f') (ch_ml f') (ch_rt f') := by unfold ch_cw; rw [hhh]
  have hcode := hsv.1.1
  rw [hcw] at hcode
  exact gx_run (va_runV (As := []) (b := ch_adr g a) (rest := rest.map (ch_tr g)) (C := C) (rm := ch_rm f') (n := 0) (bytes := ch_bc f') (maxL := ch_ml f') (ret := ch_rt f') ⟨hF.1, hF.2.1, hF.2.2.2.1, hF.2.2.2.2.1, hts⟩ hM ⟨⟨hrc, hrs, hfr, hlo, hws, by unfold ch_ws; rw [hcw]; exact List.mem_cons_self, hts _ hcode, hts _ hsv.1.2.1, hsv.1.2.2.1, ch_len hsv.2.2, hts _ hsv.2.1⟩, hts _ hi, hse p s m args meth c hF⟩
    ⟨cb_PC_blind, ⟨cell, c1, by rw [c3]; rfl, by rw [c2, ← hrn]; exact (hF.2.2.2.2.2.2.1.1.1 ci r hr).2.1⟩, fun U hU hW => ⟨rfl, hF.2.2.2.2.2.2.1.warm hW, hN, by rw [hU]; exact hP, by rw [hU]; exact hb _ hP⟩⟩ rfl rfl hL.1 rfl (by show 2 * 0 + _ ≤ 8; rw [ch_sum]; omega) hd hcs) kk hv hF hN hS ho (ch_ok0 hs) hL
/-- a method of a builder that its class overrides: x is named, f' is taken -/
theorem gx_callU {f' : ch_MI} {x : MethodName} {idx ci m0 : Nat} {a : ch_Ad} {C : String} {V : Nat → ch_V} {v : Option ch_V} {b0 : ByteArray} {r0 : Option FieldType} (hd : decode (ch_bc f) pc = .ok (.invokevirtual idx, 3)) (hf : ch_MF f') (hlk : Cond.methodLink (ch_nm f).cls idx x ∈ ch_good) (hsm : Cond.sameMethod x.cls x.cls x.name x.desc ∈ ch_good) (hix : Cond.instanceMethod x ∈ ch_good) (hse : Cond.selects C x (ch_nm f') ∈ ch_good) (hi : Cond.instanceMethod (ch_nm f') ∈ ch_good) (h0 : Cond.code x b0 m0 r0 ∈ ch_good) (hx : x.cls ≠ "java/lang/invoke/MethodHandle" ∧ x.cls ≠ "java/lang/invoke/VarHandle") (hpl : (parseMethodDescriptor x.desc).map (fun d => d.parameters.length) = some 0) (hhh : ch_hh f' = []) (hcl : (ch_cls[ci]?).map (fun r => r.1) = some C)
    (hB : ∀ H, P H → cb_c g (.inl (ci, V)) (ch_adr g a) H) (hRR : ch_RR R (ch_fr f' + 1)) (hcat : (rest.map ch_cat).sum ≤ 8) (hcs : k + ch_mc f' ≤ R.cells ∧ 6 * k + 6 * ch_mc f' ≤ R.slots) (hb : ∀ H, P H → ch_base g ≤ H.size)
    (h : gx_C g f' [.inr a] P v P') (hv : ∀ w, v = some w → ch_ok g w) (kk : cb_J g f R E (pc + 3) ls (v.toList ++ rest) P' (k + ch_mc f')) : cb_J g f R E pc ls (.inr a :: rest) P k := by
  intro p e s m args below meth c H locs lm hF hN hP hS ho hs hL
  have hts := hF.2.2.2.2.2.1
  have hlo : 8 + (ch_ml f' + 11) + (ch_rm f').locals ≤ R.locals := by
    have h5 := hf.2.2.2.2
    have := hRR.2
    show 8 + (ch_ml f' + 11) + (128 * ch_fr f' + 64) ≤ R.locals
    omega
  obtain ⟨r, hr, cell, c1, c2, c3, -⟩ := hB H hP
  have hrn : r.1 = C := by rw [hr] at hcl; exact Option.some.inj hcl
  have hM := h hF.2.2.2.2.2.2.2.2.2.1 (fun v hv => by
    rcases List.mem_cons.mp hv with e | e
    · rw [e]; exact ch_okh hs
    · cases e)
  have hcw : ch_cw f' = Cond.code (ch_nm f') (ch_bc f') (ch_ml f') (ch_rt f') := by unfold ch_cw; rw [hhh]
  have hG := ch_ws_good hf
  have hcode := hf.1
  rw [hcw] at hcode
  exact gx_run (va_runU (As := []) (b := ch_adr g a) (rest := rest.map (ch_tr g)) (C := C) (owner := x.cls) (x := x) (y := ch_nm f') (rm := ch_rm f') (n := 0) (bytes := ch_bc f') (maxL := ch_ml f') (ret := ch_rt f') ⟨hF.1, hF.2.1, hF.2.2.2.1, hF.2.2.2.2.1, hts⟩ hM ⟨⟨rfl, rfl, hRR.1, hlo, pay_in hts hG, by unfold ch_ws; rw [hcw]; exact List.mem_cons_self⟩, hts _ hcode, hts _ hf.2.1, hx, ch_len hpl, hts _ hlk, hts _ hsm, va_Decl.of (hts _ hix) (hts _ h0), hts _ hse, hts _ hi⟩
    ⟨cb_PC_blind, ⟨cell, c1, by rw [c3]; rfl, by rw [c2, ← hrn]; exact (hF.2.2.2.2.2.2.1.1.1 ci r hr).2.1⟩, fun U hU hW => ⟨rfl, hF.2.2.2.2.2.2.1.warm hW, hN, by rw [hU]; exact hP, by rw [hU]; exact hb _ hP⟩⟩ rfl rfl hL.1 rfl (by show 2 * 0 + _ ≤ 8; rw [ch_sum]; omega) hd hcs) kk hv hF hN hS ho (ch_ok0 hs) hL
/-- the superclass's method, by super -/
theorem gx_callSU {f' : ch_MI} {idx ci : Nat} {a : ch_Ad} {C : String} {V : Nat → ch_V} {v : Option ch_V} (hd : decode (ch_bc f) pc = .ok (.invokespecial idx, 3)) (hsv : ch_SV f' (ch_nm f).cls idx 0) (hi : Cond.instanceMethod (ch_nm f') ∈ ch_good) (hsm : Cond.sameMethod (ch_nm f').cls (ch_nm f').cls (ch_nm f').name (ch_nm f').desc ∈ ch_good) (hsp : Cond.superclass (ch_nm f).cls (ch_nm f').cls ∈ ch_good) (hno : (ch_nm f').name ≠ "<init>") (hhh : ch_hh f' = []) (hcl : (ch_cls[ci]?).map (fun r => r.1) = some C)
    (hB : ∀ H, P H → cb_c g (.inl (ci, V)) (ch_adr g a) H) (hRR : ch_RR R (ch_fr f' + 1)) (hcat : (rest.map ch_cat).sum ≤ 8) (hcs : k + ch_mc f' ≤ R.cells ∧ 6 * k + 6 * ch_mc f' ≤ R.slots) (hb : ∀ H, P H → ch_base g ≤ H.size)
    (h : gx_C g f' [.inr a] P v P') (hv : ∀ w, v = some w → ch_ok g w) (kk : cb_J g f R E (pc + 3) ls (v.toList ++ rest) P' (k + ch_mc f')) : cb_J g f R E pc ls (.inr a :: rest) P k := by
  intro p e s m args below meth c H locs lm hF hN hP hS ho hs hL
  obtain ⟨hrc, hrs, hfr, hlo, hws⟩ := ch_hb hsv hF.2.2.2.2.2.1 hRR
  have hts := hF.2.2.2.2.2.1
  obtain ⟨r, hr, cell, c1, c2, c3, -⟩ := hB H hP
  have hrn : r.1 = C := by rw [hr] at hcl; exact Option.some.inj hcl
  have hM := h hF.2.2.2.2.2.2.2.2.2.1 (fun v hv => by
    rcases List.mem_cons.mp hv with e | e
    · rw [e]; exact ch_okh hs
    · cases e)
  have hcw : ch_cw f' = Cond.code (ch_nm f') (ch_bc f') (ch_ml f') (ch_rt f') := by unfold ch_cw; rw [hhh]
  have hcode := hsv.1.1
  rw [hcw] at hcode
  have hat := (hF.2.2.2.2.2.2.1.1.1 ci r hr).2
  rw [hrn] at hat
  exact gx_run (va_runSU (As := []) (b := ch_adr g a) (rest := rest.map (ch_tr g)) (rm := ch_rm f') (n := 0) (bytes := ch_bc f') (maxL := ch_ml f') (ret := ch_rt f') hat ⟨hF.1, hF.2.1, hF.2.2.2.1, hF.2.2.2.2.1, hts⟩ hM ⟨⟨hrc, hrs, hfr, hlo, hws, by unfold ch_ws; rw [hcw]; exact List.mem_cons_self⟩, hts _ hsv.2.1, hts _ hsm, hts _ hsp, hts _ hi, hts _ hsv.1.2.1, hts _ hcode, hno, ch_len hsv.2.2⟩
    ⟨cb_PC_blind, ⟨cell, c1, by rw [c3]; rfl, by rw [c2]; exact hat.1⟩, fun U hU hW => ⟨rfl, hF.2.2.2.2.2.2.1.warm hW, hN, by rw [hU]; exact hP, by rw [hU]; exact hb _ hP⟩⟩ rfl rfl hL.1 rfl (by show 2 * 0 + _ ≤ 8; rw [ch_sum]; omega) hd hcs) kk hv hF hN hS ho (ch_ok0 hs) hL
end GX
