theorem cb_W_mono {p : Program} {l : Launch} {e : Env} {R : Room} {s : State} {m : MethodId} {args : Array Value} {below : List Frame} {meth : Method} {c : Code} {H : Heap} {locs : List Loc} {cells slots : Nat} {Q Q' : State → Prop} {fr : JFrame} (h : ∀ t, Q t → Q' t) (k : W p l e R s m args below meth c H locs cells slots Q fr) : W p l e R s m args below meth c H locs cells slots Q' fr := fun T hT X => by
  obtain ⟨t, a, b⟩ := k T hT X
  exact ⟨t, a, h t b⟩
theorem whole_start9 {p : Program} {e : Env} {s : State} {m : MethodId} {below : List Frame} {meth : Method} {c : Code} (l : Launch) (hflags : l.flags = flags0) {b L : Nat} {xs : Nat → Int32} (hL : L ≤ 260) (C0 : lw_At p s m meth c b L xs) (htab : c.exceptionTable.toList = tableOf (ch_hh m_l_law)) (hname : meth.name = (ch_nm m_l_law).name) : W p l e room_1 s m #[Value.ref b] below meth c s.heap [] 0 0 (lw_Z below #[Value.ref b] s) (entryFrame m ([Value.ref b] : List Value).toArray 11) := by
  obtain ⟨hx, hcd, hr, hml, hown, hts, hX, hb, hlk, hgv⟩ := C0
  obtain ⟨dC, dI, cA, xa, sv, hxa, hWV⟩ := lw_wv l hts hX hb hL hgv
  have htr : l.stackTraces = false := by
    unfold Launch.stackTraces
    rw [hflags]
    decide
  have hend : ∀ (H : Heap) (a : Nat) (m9 : ch_M) (k : Nat) (ls : ch_LT), k ≤ 119000 → ch_J (ch_rw (ch_re (l, s.heap, (s.heap.size, s.heap.size), (dC, dI, cA), xa, (fun _ => False), (L, xs), lw_tx, sv) H H.size xa (fun _ => False)) a) m_l_law room_1 (fun s' args below' t => s'.heap.size = s.heap.size → args = #[Value.ref b] → lw_Z below' args s' t) 737 ls [.inl (.int 1)] m9 k := by
    intro H0 a m9 k ls hk p' e' s' m' args below' meth' c' H locs lm hF hR hS ho hs hL'
    by_cases hc : s'.heap.size = s.heap.size ∧ args = #[Value.ref b]
    · obtain ⟨h1, rfl⟩ := hc
      refine cb_W_mono (fun t ht _ _ => ht) ?_
      refine va_forget (locs := locs) (fun q hq => ?_) ?_
      · have h2 : s.heap.size ≤ q.base := hS.2.2 q hq
        omega
      · refine W.widen (k := room_1.cells) (n := room_1.slots) (Nat.le_trans hk (Nat.le_of_ble_eq_true rfl)) (Nat.le_trans (show 6 * k ≤ 714000 by omega) (Nat.le_of_ble_eq_true rfl)) ?_
        exact lw_ret (d0 := s'.drawn) (Drawn.sameBut.refl s'.drawn lw_cs) hF.1 hF.2.1 hF.2.2.1 hF.2.2.2.2.2.2.2.1 d_l_law_737
    · exact fun T hT X => ⟨_, Steps.refl _, fun h1 h2 => absurd ⟨h1, h2⟩ hc⟩
  have J := l_all (g := (l, s.heap, (s.heap.size, s.heap.size), (dC, dI, cA), xa, (fun _ => False), (L, xs), lw_tx, sv)) (R := room_1) ⟨Nat.le_of_ble_eq_true rfl, Nat.le_of_ble_eq_true rfl⟩ ⟨Nat.le_of_ble_eq_true rfl, Nat.le_of_ble_eq_true rfl⟩ (fun _ z => z) rfl rfl (by show L < 2 ^ 31; omega) ⟨rfl, rfl, rfl⟩ (fun H a _ _ => l_CH_of ⟨[], (List.append_nil _).symm⟩ (fun x hx => by
    have hx : x = (14, 0, 1) := hx
    rw [hx])) hend (fun _ => .inl (0, fun _ => .inl .null))
  have hgood : ∀ w ∈ ch_good, w.before #[Value.ref b] s = true := fun w hw => hts w (List.mem_filter.mp hw).1
  have hent := ch_entry (l, s.heap, (s.heap.size, s.heap.size), (dC, dI, cA), xa, (fun _ => False), (L, xs), lw_tx, sv) [.inr (11, 0, 0)] 11 (fun v hv => by rw [List.mem_singleton.mp hv]; rfl) (by decide)
  have he : ([.inr (11, 0, 0)] : List ch_V).map (ch_tr (l, s.heap, (s.heap.size, s.heap.size), (dC, dI, cA), xa, (fun _ => False), (L, xs), lw_tx, sv)) = [Value.ref b] := by
    show [Value.ref (xa (11, 0, 0))] = _
    rw [hxa]
  rw [he] at hent
  rw [lg_entry_eq]
  have W9 := J p e s m #[Value.ref b] below meth c s.heap [] _ ⟨hx, hcd, hr, hml, hown, hgood, hWV, hlk, htab, htr, Nat.le_refl _, hname⟩ (Nat.le_refl _) ⟨rfl, fun q _ => rfl, fun i hi => absurd hi (Nat.not_lt_zero i)⟩ va_S.rf (fun o ho v hv => by
    subst hv
    simp only [List.mem_cons, List.not_mem_nil, or_false] at ho
    rcases ho with ho | ho | ho | ho | ho | ho | ho | ho | ho | ho | ho
    · rw [Option.some.inj ho]
      intro a ha
      cases ha
      exact Or.inr (Or.inl rfl)
    all_goals cases ho) (fun v hv => by cases hv) hent
  exact cb_W_mono (fun t h => h rfl rfl) W9
