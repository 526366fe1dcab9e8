/-! more of entries, ends and room -/
theorem ch_ol_iff {q : Int64 → ch_M → Prop} {r : Int64} {m : ch_M} : ch_ol q (.inl (some (.inl (.long r)))) m ↔ q r m :=
  ⟨fun ⟨_, e, h⟩ => by cases e; exact h, fun h => ⟨r, rfl, h⟩⟩
theorem ch_oa_iff {q : ch_Ad → ch_M → Prop} {r : ch_Ad} {m : ch_M} : ch_oa q (.inl (some (.inr r))) m ↔ q r m :=
  ⟨fun ⟨_, e, h⟩ => by cases e; exact h, fun h => ⟨r, rfl, h⟩⟩
theorem ch_rk {k B M a b : Nat} (h : k + B ≤ M) (hb : a + b ≤ B) (_hb2 : b ≤ B) : k + a + b ≤ M ∧ 6 * (k + a) + 6 * b ≤ 6 * M := by omega
theorem ch_rk0 {k B M b : Nat} (h : k + B ≤ M) (hb : b ≤ B) (_hb2 : b ≤ B) : k + b ≤ M ∧ 6 * k + 6 * b ≤ 6 * M := by omega
/-- an entry with the formatter among the arguments -/
theorem ch_enterF {g : ch_G} {f : ch_MI} {as : List ch_V} {mem : ch_M} {Q : ch_O → ch_M → Prop} (hf : ch_MF f) (hcat : (ch_sv g).category = 1 → ∀ v ∈ as, ch_cat v = 1) (hlen : as.length ≤ ch_ml f)
    (h : ch_J g f (ch_rm f) (ch_E g f Q) 0 (as.map some ++ List.replicate (ch_ml f - as.length) none) [] mem 0) : ch_C g f as mem Q := by
  by_cases hc : (ch_sv g).category = 1
  · exact ch_enter hf (hcat hc) hlen h
  · intro htr hok p e ha hfr hk s m args below hfr2 happ hP hK
    exact absurd hP.2.1.2.2.2.2.2.2.2.2.1.2.2.2.2.1.2 hc
/-- an entry with one double -/
theorem ch_entryD (g : ch_G) (d : UInt64) (n : Nat) (hn : 2 ≤ n) :
    ch_LR g n (some (.inl (.double d)) :: none :: List.replicate (n - 2) none) ((lg_sl [Value.double d] ++ List.replicate (n - (lg_sl [Value.double d]).length) Slot.unset).toArray) := by
  have hl : (lg_sl [Value.double d]).length ≤ n := by show 2 ≤ n; exact hn
  obtain ⟨h1, h2, h3⟩ := lv_entry [Value.double d] hl
  refine ⟨h1, h2, fun i v hv => ?_⟩
  match i with
  | 0 =>
    cases hv
    exact h3 (0, .double d) List.mem_cons_self
  | 1 => cases hv
  | i + 2 =>
    rw [List.getElem?_cons_succ, List.getElem?_cons_succ] at hv
    have := List.eq_of_mem_replicate (List.mem_of_getElem? hv)
    cases this
theorem ch_enterD {g : ch_G} {f : ch_MI} {d : UInt64} {mem : ch_M} {Q : ch_O → ch_M → Prop} (hf : ch_MF f) (hlen : 2 ≤ ch_ml f) (hhh : ch_hh f = [])
    (h : ch_J g f (ch_rm f) (ch_E g f Q) 0 (some (.inl (.double d)) :: none :: List.replicate (ch_ml f - 2) none) [] mem 0) : ch_C g f [.inl (.double d)] mem Q := by
  intro htr hok
  refine ch_ofW (cc := ch_bc f) (maxL := ch_ml f) (ret := ch_rt f) (ws' := ch_good) hf.2.2.2.1 (by unfold ch_ws ch_cw; rw [hhh]) (fun p e s m args below meth c s₁ B hml _ hP => ?_)
  obtain ⟨rfl, hW, hR, hb⟩ := hP
  have hts := atoms_spec (ws := ch_ws f) B.pre
  rw [lg_entry_eq]
  refine h p e s m _ below meth c s.heap [] _ ⟨B.exec, B.bytes, B.returns, hml, findClass_of_methodNamed B.named, ch_good_pre hts, hW, B.notSynchronized, ch_cw_tab (hts _ List.mem_cons_self) B.named B.method (Stand.of_body B).code, htr, hb, (name_of_methodNamed B.named B.method).1⟩ hR va_S.rf ?_ (fun v hv => by cases hv) (ch_entryD g d (ch_ml f) hlen)
  intro o ho v hv
  subst hv
  rcases List.mem_cons.mp ho with h1 | h1
  · rw [Option.some.inj h1]; exact ch_okl
  · rcases List.mem_cons.mp h1 with h1 | h1
    · cases h1
    · have := List.eq_of_mem_replicate h1
      cases this
