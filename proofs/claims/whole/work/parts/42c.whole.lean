theorem cb_W_mono {p : Program} {l : Launch} {e : Env} {R : Room} {s : State} {m : MethodId} {args : Array Value} {below : List Frame} {meth : Method} {c : Code} {H : Heap} {locs : List Loc} {cells slots : Nat} {Q Q' : State → Prop} {fr : JFrame} (h : ∀ t, Q t → Q' t) (k : W p l e R s m args below meth c H locs cells slots Q fr) : W p l e R s m args below meth c H locs cells slots Q' fr := fun T hT X => by
  obtain ⟨t, a, b⟩ := k T hT X
  exact ⟨t, a, h t b⟩
theorem whole_start9 {p : Program} {e : Env} {s : State} {m : MethodId} {below : List Frame} {meth : Method} {c : Code} (l : Launch) (hflags : l.flags = flags0) {b L : Nat} {xs : Nat → Int32} (hL : L ≤ 2048) (C0 : lw_At p s m meth c b L xs) (htab : c.exceptionTable.toList = tableOf (ch_hh m_l_law)) (hname : meth.name = (ch_nm m_l_law).name) : W p l e room_1 s m #[Value.ref b] below meth c s.heap [] 0 0 (lw_Z below #[Value.ref b] s) (entryFrame m ([Value.ref b] : List Value).toArray 10) := by
  obtain ⟨hx, hcd, hr, hml, hown, hts, hX, hb, hlk, hgv⟩ := C0
  obtain ⟨dC, dI, cA, sa, sv, hWV⟩ := lw_wv l hts hX hb hL hgv
  have htr : l.stackTraces = false := by
    unfold Launch.stackTraces
    rw [hflags]
    decide
  have hAO : va_AO "ChalkWarrants$Yard" s := va_AO.of (hts (.arrayOver (.object "ChalkWarrants$Yard")) (List.mem_append_right _ (List.mem_of_getElem? (i := 127) (by decide +kernel))))
  have hend : ∀ (m9 : ch_M) (k : Nat) (ls : ch_LT), k ≤ 4000 → ch_J (l, s.heap, dC, dI, cA, (b, L, xs), (sa, sv)) m_l_law room_1 (fun s' args below' t => s'.heap.size = s.heap.size → args = #[Value.ref b] → lw_Z below' args s' t) 2103 ls [.inl (.int 1)] m9 k := by
    intro m9 k ls hk p' e' s' m' args below' meth' c' H locs lm hF hR hS ho hs hL'
    by_cases hc : s'.heap.size = s.heap.size ∧ args = #[Value.ref b]
    · obtain ⟨h1, rfl⟩ := hc
      refine cb_W_mono (fun t ht _ _ => ht) ?_
      refine va_forget (locs := locs) (fun q hq => ?_) ?_
      · have h2 : s.heap.size ≤ q.base := hS.2.2 q hq
        omega
      · refine W.widen (k := 603072) (n := 7202922) (by omega) (by omega) ?_
        exact lw_ret (d0 := s'.drawn) (Drawn.sameBut.refl s'.drawn lw_cs) hF.1 hF.2.1 hF.2.2.1 hF.2.2.2.2.2.2.2.1 d_l_law_2103
    · exact fun T hT X => ⟨_, Steps.refl _, fun h1 h2 => absurd ⟨h1, h2⟩ hc⟩
  have J := lw_entry (g := (l, s.heap, dC, dI, cA, (b, L, xs), (sa, sv))) (fun _ => .inl (0, fun _ => .inl .null)) cb_M_inv hL hend
  have hgood : ∀ w ∈ ch_good, w.before #[Value.ref b] s = true := fun w hw => hts w (List.mem_filter.mp hw).1
  rw [lg_entry_eq]
  have W9 := J p e s m #[Value.ref b] below meth c s.heap [] _ ⟨hx, hcd, hr, hml, hown, hgood, hWV, hlk, htab, htr, Nat.le_refl _⟩ ⟨hname, hAO⟩ ⟨rfl, fun q _ => rfl, fun i hi => absurd hi (Nat.not_lt_zero i)⟩ va_S.rf (fun o ho v hv => by
    subst hv
    simp only [List.mem_cons, List.not_mem_nil, or_false] at ho
    rcases ho with ho | ho | ho | ho | ho | ho | ho | ho | ho | ho
    · rw [Option.some.inj ho]
      intro a ha
      cases ha
      exact Or.inr (Or.inl rfl)
    all_goals cases ho) (fun v hv => by cases hv) (ch_entry (l, s.heap, dC, dI, cA, (b, L, xs), (sa, sv)) [.inr (11, 0, 0)] 10 (fun v hv => by rw [List.mem_singleton.mp hv]; rfl) (by decide))
  exact cb_W_mono (fun t h => h rfl rfl) W9
