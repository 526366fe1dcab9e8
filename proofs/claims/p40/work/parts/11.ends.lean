theorem ch_mono {g : ch_G} {f : ch_MI} {as : List ch_V} {mem : ch_M} {Q Q' : ch_O → ch_M → Prop} (h : ∀ o m, Q o m → Q' o m) (hc : ch_C g f as mem Q) : ch_C g f as mem Q' := by
  intro htr hok p e ha hf hk s m args below hfr happ hP hK
  obtain ⟨n, o, h1, h2, h3, h4⟩ := hc htr hok p e ha hf hk s m args below hfr happ hP hK
  refine ⟨n, o, h1, h2, h3, ?_⟩
  rcases h4 with ⟨⟨v, mem', a1, a2, a3, a4⟩, hL⟩ | ⟨q, a0, E, ce, L, ⟨n', mem', b1, b2, b3, b4, b5⟩, rest⟩
  · exact Or.inl ⟨⟨v, mem', a1, h _ _ a2, a3, a4⟩, hL⟩
  · exact Or.inr ⟨q, a0, E, ce, L, ⟨n', mem', b1, b2, h _ _ b3, b4, b5⟩, rest⟩
theorem ch_Rp_kept {g : ch_G} {mem : ch_M} {H H' : Heap} (hR : ch_Rp g mem H) (hz : H.size ≤ H'.size) (h : ∀ q, q < H.size → H'[q]? = H[q]?) : ch_Rp g mem H' := by
  refine ⟨Nat.le_trans hR.1 hz, fun q hq => ?_, fun a ha => ?_, hR.2.2.2⟩
  · have h1 := hR.2.1 q hq
    have h2 : q < H.size := by
      rw [Array.getElem?_eq_getElem hq.1] at h1
      exact (Array.getElem?_eq_some_iff.mp h1).1
    rw [h q h2]; exact h1
  · exact ch_cell_eq rfl (h _ (ch_cell_lt (hR.2.2.1 a ha))) (hR.2.2.1 a ha)
abbrev ch_nms : List String := ["java/lang/RuntimeException", "java/lang/Exception"]
/-- a class's 'throw new' of the exception n -/
def ch_TW (own : String) (ik ic n : Nat) : Prop := Cond.classLink own ik (ch_xn n) ∈ ch_good ∧ Cond.initialized (ch_xn n) ∈ ch_good ∧ (∀ w ∈ vx_at0 own ic (ch_xn n) ch_nms, w ∈ ch_good ∨ w ∈ ch_oth) ∧ Bundle.fit (ch_xn n) = true
def ch_both (w : Cond) : Bool := (decide (w ∈ lw_tbl) && goodWord w) || (decide (w ∈ tables_1) && ch_isO w)
theorem ch_both_of {ws : List Cond} (h : ws.all ch_both = true) : ∀ w ∈ ws, w ∈ ch_good ∨ w ∈ ch_oth := by
  intro w hw
  have h1 := List.all_eq_true.mp h w hw
  simp only [ch_both, Bool.or_eq_true, Bool.and_eq_true, decide_eq_true_eq] at h1
  rcases h1 with ⟨a, b⟩ | ⟨a, b⟩
  · exact Or.inl (List.mem_filter.mpr ⟨a, b⟩)
  · exact Or.inr (List.mem_filter.mpr ⟨a, b⟩)
section CHE
variable {g : ch_G} {f : ch_MI} {R : Room} {E : ch_En} {Q : ch_O → ch_M → Prop} {pc : Nat} {ls : ch_LT} {rest : List ch_V} {mem : ch_M} {k : Nat}
theorem ch_Rp_old {s : State} {H : Heap} {locs : List Loc} {p : Program} {m : MethodId} {args : Array Value} {meth : Method} {c : Code} (hF : ch_FR g f p s m args meth c) (hR : ch_Rp g mem H) (hS : va_S (ch_A g) s.heap H locs) : ∀ a : Nat, a < (ch_H0 g).size → ¬ ch_A g a → s.heap[a]? = (ch_H0 g)[a]? := by
  intro a ha hA
  have hb : a < ch_lo g := Nat.not_le.mp hA
  have h1 := hF.2.2.2.2.2.2.2.2.2.2.1
  rw [← hS.2.1 a (by omega) hA]
  exact hR.2.1 a ⟨ha, fun b hb2 e => by have := hR.2.2.2.2.1 b hb2; omega⟩
theorem ch_throw {ik ic n : Nat} (d0 : decode (ch_bc f) pc = .ok (.new ik, 3)) (d3 : decode (ch_bc f) (pc + 3) = .ok (.dup, 1)) (d4 : decode (ch_bc f) (pc + 4) = .ok (.invokespecial ic, 3)) (d7 : decode (ch_bc f) (pc + 7) = .ok (.athrow, 1))
    (htw : ch_TW (ch_nm f).cls ik ic n) (hn : n < 6) (hhh : ch_hh f = []) (hfr : 6 ≤ ch_fr f) (hk : k + 1 ≤ ch_mc f) (hcat : (rest.map ch_cat).sum ≤ 8) (hq : Q (.inr n) mem) : ch_J g f (ch_rm f) (ch_E g f Q) pc ls rest mem k := by
  intro p e s m args below meth c H locs lm hF hR hS ho hs hL
  have hts := hF.2.2.2.2.2.1
  have hW := hF.2.2.2.2.2.2.1
  have hall : ∀ w ∈ vx_at0 (ch_nm f).cls ic (ch_xn n) ch_nms, w.before args s = true := fun w hw => (htw.2.2.1 w hw).elim (fun h => hts w h) (fun h => va_Nw.use (ch_oth_on h) (hW.2.1 w h))
  have hgood : ∀ w ∈ Cond.classLink (ch_nm f).cls ik (ch_xn n) :: Cond.initialized (ch_xn n) :: vx_at0 (ch_nm f).cls ic (ch_xn n) ch_nms, vx_ot w = true := by
    have hg : ∀ w, w ∈ ch_good → vx_ot w = true := fun w h => by
      unfold vx_ot
      rw [(List.mem_filter.mp h).2, Bool.or_true]
    intro w hw
    rcases List.mem_cons.mp hw with h | hw
    · rw [h]; exact hg _ htw.1
    rcases List.mem_cons.mp hw with h | hw
    · rw [h]; exact hg _ htw.2.1
    rcases htw.2.2.1 w hw with h | h
    · exact hg _ h
    · unfold vx_ot
      rw [ch_oth_on h, Bool.true_or]
  have hold := ch_Rp_old hF hR hS
  have htab : ∀ x ∈ c.exceptionTable.toList, covers x (pc + 7) = false := by
    intro x hx
    rw [hF.2.2.2.2.2.2.2.2.1, hhh] at hx
    cases hx
  refine vx_throw0 (A := ch_A g) (names := ch_nms) hF.1 hF.2.1 hF.2.2.2.2.2.2.2.2.2.1 hF.2.2.2.2.1 htw.2.2.2 (fun nm hnm => ?_) (hts _ htw.1) (hts _ htw.2.1) hall hgood (hW.2.2.2.1.kept hold) (hW.2.2.2.2.1.kept hold) hS (hL.1.trans hF.2.2.2.1.symm) d0 d3 d4 d7 htab
    (by show 2 + 3 < ch_fr f; omega) (by show _ + (13 * (2 + 1) + 42) ≤ 128 * ch_fr f + 64; rw [ch_sum]; omega) (by show k + 1 ≤ ch_mc f; omega) (by show 6 * k + 6 ≤ 6 * ch_mc f; omega) hF.2.2.2.2.2.2.2.1 (fun t ha hz ho' => ?_) hS.2.2 hk (by omega)
  · rcases List.mem_cons.mp hnm with h | h
    · rw [h]; decide
    · rcases List.mem_cons.mp h with h | h
      · rw [h]; decide
      · cases h
  · refine ⟨n, mem, rfl, hn, hq, ch_Rp_kept hR hz ho', Nat.le_trans hS.1 hz, fun q h1 h2 => ?_⟩
    rw [ho' q (Nat.lt_of_lt_of_le h1 hS.1)]
    exact hS.2.1 q h1 h2
/-- thrown by a callee, not caught here -/
theorem ch_xout {st : List ch_V} {n : Nat} (hhh : ch_hh f = []) (hk : k ≤ ch_mc f) (hq : Q (.inr n) mem) : ch_X g f (ch_rm f) (ch_E g f Q) pc ls st n mem k := by
  intro p e s m args below meth c H locs lm q ce hF hR hS ho hL hn hce hcv hcl
  refine vx_out (fun x hx => ?_) hF.2.2.2.2.2.2.2.1 hce hcv hcl (fun t ht ha => ⟨n, mem, rfl, hn, hq, by rw [ht]; exact hR, hS.F ht⟩) hS.2.2 hk (by omega)
  rw [hF.2.2.2.2.2.2.2.2.1, hhh] at hx
  cases hx
/-- thrown by a callee, caught here, and laid aside -/
theorem ch_caught {st : List ch_V} {n i : Nat} {ls' : ch_LT} (pre : List (Nat × Nat × Nat × Nat)) (x : Nat × Nat × Nat × Nat) (suf : List (Nat × Nat × Nat × Nat)) (hsp : ch_hh f = pre ++ x :: suf)
    (hpass : ∀ z ∈ pre, z.2.2.2 ≠ 0 ∧ ∃ i, i < 6 ∧ n ≠ i ∧ Cond.classLink (ch_nm f).cls z.2.2.2 (ch_xn i) ∈ ch_good) (hx : x.1 ≤ pc ∧ pc < x.2.1) (h0 : x.2.2.2 ≠ 0) (hlink : Cond.classLink (ch_nm f).cls x.2.2.2 (ch_xn n) ∈ ch_good) (hcast : Cond.castable (ch_xn n) (ch_xn n) ∈ ch_oth)
    (hd : decode (ch_bc f) x.2.2.1 = .ok (.astore i, 2) ∧ ch_J g f R E (x.2.2.1 + 2) ls' [] mem k ∨ (∃ z : Fin 4, (z : Nat) = i ∧ decode (ch_bc f) x.2.2.1 = .ok (.astore_n z, 1)) ∧ ch_J g f R E (x.2.2.1 + 1) ls' [] mem k) (hi : i < ch_ml f) (hl : (ch_kill ls i).set i none = ls') : ch_X g f R E pc ls st n mem k := by
  subst hl
  intro p e s m args below meth c H locs lm q ce hF hR hS ho hL hn hce hcv hcl
  have hts := hF.2.2.2.2.2.1
  have hW := hF.2.2.2.2.2.2.1
  have fin : ∀ (lm' : Array Slot), lv_has lm' (ch_ml f) ((i, .ref q) :: (ch_prs g ls).filter (fun q => !(q.1 == i) && !(q.1 + 1 == i && q.2.category == 2))) → ch_LR g (ch_ml f) ((ch_kill ls i).set i none) lm' := by
    intro lm' h
    refine ⟨h.1, h.2.1, fun j w hj => ?_⟩
    by_cases e : i = j
    · subst e
      have hl := (List.getElem?_eq_some_iff.mp hj).1
      rw [List.length_set] at hl
      rw [List.getElem?_set_self hl] at hj
      cases hj
    · rw [List.getElem?_set_ne e] at hj
      obtain ⟨h1, h2⟩ := ch_kill_at hj
      refine h.2.2 (j, ch_tr g w) (List.mem_cons_of_mem _ (List.mem_filter.mpr ⟨ch_prs_mem h1, ?_⟩))
      simp only [Bool.and_eq_true, Bool.not_eq_true', beq_eq_false_iff_ne, ne_eq, Bool.and_eq_false_iff]
      refine ⟨fun q => e q.symm, ?_⟩
      by_cases q : j + 1 = i
      · exact Or.inr (by rw [ch_cat_tr, h2 q]; decide)
      · exact Or.inl q
  have ok' : ∀ o ∈ (ch_kill ls i).set i none, ∀ v, o = some v → ch_ok g v := by
    intro o ho' v hv
    rcases List.mem_or_eq_of_mem_set ho' with h1 | h1
    · exact ch_kill_ok ho o h1 v hv
    · rw [h1] at hv
      cases hv
  refine vx_catch (own := (ch_nm f).cls) (name := ch_xn n) (E := ch_xn n) hF.2.2.2.2.1 (tableOf pre) ⟨x.1, x.2.1, x.2.2.1, x.2.2.2⟩ (tableOf suf) ?_ ?_ ?_ h0 (hts _ hlink) (va_Nw.use rfl (hW.2.1 _ hcast)) hce hcv hcl ?_
  · rw [hF.2.2.2.2.2.2.2.2.1, hsp]
    unfold tableOf
    rw [List.map_append, List.map_cons]
  · intro z hz
    obtain ⟨y, hy, rfl⟩ := List.mem_map.mp hz
    obtain ⟨hz0, i9, hi9, hne, hlk⟩ := hpass y hy
    exact Or.inr ⟨hz0, ch_xn i9, hts _ hlk, hW.2.2.1 n i9 hn hi9 hne⟩
  · simp only [covers, Bool.and_eq_true, decide_eq_true_eq]
    exact hx
  · rcases hd with ⟨hd, kk⟩ | ⟨⟨z, hz, hd⟩, kk⟩
    · exact lv_astore hF.1 hF.2.1 hd (ch_prs_has hL) hi rfl (fun lm' hL' => kk p e s m args below meth c H locs lm' hF hR hS ok' (fun v hv => by cases hv) (fin lm' hL'))
    · exact lv_astore_n hF.1 hF.2.1 hd hz (ch_prs_has hL) hi rfl (fun lm' hL' => kk p e s m args below meth c H locs lm' hF hR hS ok' (fun v hv => by cases hv) (fin lm' hL'))
theorem ch_Qret {s : State} {H : Heap} {locs : List Loc} {v : Option ch_V} (hR : ch_Rp g mem H) (hS : va_S (ch_A g) s.heap H locs) (hq : Q (.inl v) mem) : ∀ t : State, t.heap = H → s.WarmedH t.vm → ∀ a : Array Value, ch_Qc g Q a s (.returned (v.map (ch_tr g))) t :=
  fun t ht _ a => ⟨v, mem, rfl, hq, by rw [ht]; exact hR, hS.F ht⟩
theorem ch_iret {x : Int32} {ty : FieldType} (hd : decode (ch_bc f) pc = .ok (.ireturn, 1)) (hr : ch_rt f = some ty) (hn : narrow ty (.int x) = .int x) (hk : k ≤ ch_mc f) (hq : Q (.inl (some (.inl (.int x)))) mem) : ch_J g f (ch_rm f) (ch_E g f Q) pc ls [.inl (.int x)] mem k :=
  fun p e s m args below meth c H locs lm hF hR hS ho hs hL => vx_ret (W.widen hk (by omega) (W.zret hF.1 hF.2.1 (hF.2.2.1.trans hr) hn (fun t ht hw => ch_Qret hR hS hq t ht hw args) hS.2.2 hd hF.2.2.2.2.2.2.2.1))
theorem ch_fret {x : UInt32} (hd : decode (ch_bc f) pc = .ok (.freturn, 1)) (hr : ch_rt f = some .float) (hk : k ≤ ch_mc f) (hq : Q (.inl (some (.inl (.float x)))) mem) : ch_J g f (ch_rm f) (ch_E g f Q) pc ls [.inl (.float x)] mem k :=
  fun p e s m args below meth c H locs lm hF hR hS ho hs hL => vx_ret (W.widen hk (by omega) (W.fret hF.1 hF.2.1 (hF.2.2.1.trans hr) (fun t ht hw => ch_Qret hR hS hq t ht hw args) hS.2.2 hd hF.2.2.2.2.2.2.2.1))
theorem ch_dret {x : UInt64} (hd : decode (ch_bc f) pc = .ok (.dreturn, 1)) (hr : ch_rt f = some .double) (hk : k ≤ ch_mc f) (hq : Q (.inl (some (.inl (.double x)))) mem) : ch_J g f (ch_rm f) (ch_E g f Q) pc ls [.inl (.double x)] mem k :=
  fun p e s m args below meth c H locs lm hF hR hS ho hs hL => vx_ret (W.widen hk (by omega) (W.dret hF.1 hF.2.1 (hF.2.2.1.trans hr) (fun t ht hw => ch_Qret hR hS hq t ht hw args) hS.2.2 hd hF.2.2.2.2.2.2.2.1))
theorem ch_lret {x : Int64} (hd : decode (ch_bc f) pc = .ok (.lreturn, 1)) (hr : ch_rt f = some .long) (hk : k ≤ ch_mc f) (hq : Q (.inl (some (.inl (.long x)))) mem) : ch_J g f (ch_rm f) (ch_E g f Q) pc ls [.inl (.long x)] mem k :=
  fun p e s m args below meth c H locs lm hF hR hS ho hs hL => vx_ret (W.widen hk (by omega) (W.lret hF.1 hF.2.1 (hF.2.2.1.trans hr) (fun t ht hw => ch_Qret hR hS hq t ht hw args) hS.2.2 hd hF.2.2.2.2.2.2.2.1))
theorem ch_aret {a : ch_Ad} {rt : FieldType} (hd : decode (ch_bc f) pc = .ok (.areturn, 1)) (hr : ch_rt f = some rt) (hrt : (∃ n, rt = .object n) ∨ ∃ t, rt = .array t) (hk : k ≤ ch_mc f) (hq : Q (.inl (some (.inr a))) mem) : ch_J g f (ch_rm f) (ch_E g f Q) pc ls [.inr a] mem k :=
  fun p e s m args below meth c H locs lm hF hR hS ho hs hL => vx_ret (W.widen hk (by omega) (W.aret hF.1 hF.2.1 (hF.2.2.1.trans hr) hrt (Or.inr ⟨_, rfl⟩) (fun t ht hw => ch_Qret hR hS hq t ht hw args) hS.2.2 hd hF.2.2.2.2.2.2.2.1))
theorem ch_vret (hd : decode (ch_bc f) pc = .ok (.return_, 1)) (hr : ch_rt f = none) (hk : k ≤ ch_mc f) (hq : Q (.inl none) mem) : ch_J g f (ch_rm f) (ch_E g f Q) pc ls [] mem k :=
  fun p e s m args below meth c H locs lm hF hR hS ho hs hL => vx_ret (W.widen hk (by omega) (W.vret hF.1 hF.2.1 (hF.2.2.1.trans hr) (fun t ht hw => ch_Qret hR hS hq t ht hw args) hS.2.2 hd hF.2.2.2.2.2.2.2.1))
/-- the ways a call goes on -/
theorem ch_Ki {q : Int32 → ch_M → Prop} (h : ∀ r m, q r m → ch_J g f R E (pc + 3) ls (.inl (.int r) :: rest) m k) : ∀ o m, ch_oi q o m → ch_K g f R E pc ls rest k o m := by
  rintro o m ⟨r, rfl, hq⟩
  refine ⟨fun v hv => ?_, fun hv => by simp at hv, fun n hv => by cases hv⟩
  cases hv
  exact ⟨ch_okl, h r m hq⟩
theorem ch_Kf {q : UInt32 → ch_M → Prop} (h : ∀ r m, q r m → ch_J g f R E (pc + 3) ls (.inl (.float r) :: rest) m k) : ∀ o m, ch_of q o m → ch_K g f R E pc ls rest k o m := by
  rintro o m ⟨r, rfl, hq⟩
  refine ⟨fun v hv => ?_, fun hv => by simp at hv, fun n hv => by cases hv⟩
  cases hv
  exact ⟨ch_okl, h r m hq⟩
theorem ch_Kd {q : UInt64 → ch_M → Prop} (h : ∀ r m, q r m → ch_J g f R E (pc + 3) ls (.inl (.double r) :: rest) m k) : ∀ o m, ch_od q o m → ch_K g f R E pc ls rest k o m := by
  rintro o m ⟨r, rfl, hq⟩
  refine ⟨fun v hv => ?_, fun hv => by simp at hv, fun n hv => by cases hv⟩
  cases hv
  exact ⟨ch_okl, h r m hq⟩
theorem ch_Kl {q : Int64 → ch_M → Prop} (h : ∀ r m, q r m → ch_J g f R E (pc + 3) ls (.inl (.long r) :: rest) m k) : ∀ o m, ch_ol q o m → ch_K g f R E pc ls rest k o m := by
  rintro o m ⟨r, rfl, hq⟩
  refine ⟨fun v hv => ?_, fun hv => by simp at hv, fun n hv => by cases hv⟩
  cases hv
  exact ⟨ch_okl, h r m hq⟩
theorem ch_Ka {q : ch_Ad → ch_M → Prop} (h : ∀ r m, q r m → ch_ok g (.inr r) ∧ ch_J g f R E (pc + 3) ls (.inr r :: rest) m k) : ∀ o m, ch_oa q o m → ch_K g f R E pc ls rest k o m := by
  rintro o m ⟨r, rfl, hq⟩
  refine ⟨fun v hv => ?_, fun hv => by simp at hv, fun n hv => by cases hv⟩
  cases hv
  exact h r m hq
theorem ch_Kv {q : ch_M → Prop} (h : ∀ m, q m → ch_J g f R E (pc + 3) ls rest m k) : ∀ o m, ch_ov q o m → ch_K g f R E pc ls rest k o m := by
  rintro o m ⟨rfl, hq⟩
  exact ⟨fun v hv => by simp at hv, fun _ => h m hq, fun n hv => by cases hv⟩
theorem ch_Kx {q : ch_O → ch_M → Prop} {x : Nat → ch_M → Prop} (h : ∀ o m, q o m → ch_K g f R E pc ls rest k o m) (hx : ∀ n m, n < 6 → x n m → ch_X g f R E pc ls rest n m k) : ∀ o m, ch_ox q x o m → ch_K g f R E pc ls rest k o m := by
  rintro o m (hq | ⟨n, rfl, hn, hq⟩)
  · exact h o m hq
  · exact ⟨fun v hv => (by cases hv), fun hv => (by cases hv), fun n' hv => (by cases hv; exact hx n m hn hq)⟩
/-- Math.max, Math.min -/
def ch_MM (own : String) (idx : Nat) (y : MethodName) (bc : ByteArray) : Prop := Cond.methodLink own idx y ∈ ch_good ∧ Cond.static y ∈ ch_good ∧ Cond.initialized "java/lang/Math" ∈ ch_good ∧ Cond.code y bc 2 (some .int) ∈ ch_good
theorem ch_max {x y : Int32} {idx : Nat} (hd : decode (ch_bc f) pc = .ok (.invokestatic idx, 3)) (hm : ch_MM (ch_nm f).cls idx Lib.Math.max.name Lib.Math.max.code) (hRR : ch_RR R 1) (hcs : k ≤ R.cells ∧ 6 * k ≤ R.slots) (hcat : (rest.map ch_cat).sum ≤ 8) (kk : ch_J g f R E (pc + 3) ls (.inl (.int (if x < y then y else x)) :: rest) mem k) : ch_J g f R E pc ls (.inl (.int y) :: .inl (.int x) :: rest) mem k :=
  ch_go (fun _ _ _ _ _ _ _ _ _ _ _ _ hF _ _ ho hs hL q => va_mmax hF.1 hF.2.1 (hF.2.2.2.1.trans hL.1.symm) hF.2.2.2.2.1 (hF.2.2.2.2.2.1 _ hm.1) (hF.2.2.2.2.2.1 _ hm.2.1) (hF.2.2.2.2.2.1 _ hm.2.2.1) (hF.2.2.2.2.2.1 _ hm.2.2.2) hRR.1 (by have := hRR.2; rw [ch_sum]; omega) hcs.1 hcs.2 hd (q (ch_ok1 (ch_ok0 (ch_ok0 hs))))) kk
theorem ch_min {x y : Int32} {idx : Nat} (hd : decode (ch_bc f) pc = .ok (.invokestatic idx, 3)) (hm : ch_MM (ch_nm f).cls idx Lib.Math.min.name Lib.Math.min.code) (hRR : ch_RR R 1) (hcs : k ≤ R.cells ∧ 6 * k ≤ R.slots) (hcat : (rest.map ch_cat).sum ≤ 8) (kk : ch_J g f R E (pc + 3) ls (.inl (.int (if y < x then y else x)) :: rest) mem k) : ch_J g f R E pc ls (.inl (.int y) :: .inl (.int x) :: rest) mem k :=
  ch_go (fun _ _ _ _ _ _ _ _ _ _ _ _ hF _ _ ho hs hL q => va_mmin hF.1 hF.2.1 (hF.2.2.2.1.trans hL.1.symm) hF.2.2.2.2.1 (hF.2.2.2.2.2.1 _ hm.1) (hF.2.2.2.2.2.1 _ hm.2.1) (hF.2.2.2.2.2.1 _ hm.2.2.1) (hF.2.2.2.2.2.1 _ hm.2.2.2) hRR.1 (by have := hRR.2; rw [ch_sum]; omega) hcs.1 hcs.2 hd (q (ch_ok1 (ch_ok0 (ch_ok0 hs))))) kk
end CHE
