/-- the addresses beside the world at the start -/
def lw_xa (b : Nat) (adK adV dg : Nat → Nat) : ch_Ad → Nat := fun x => if x.1 = 11 then b else if x.1 = 12 then adK x.2.1 else if x.1 = 13 then adV x.2.1 else dg x.2.1
theorem lw_wv (l : Launch) {s : State} {b L : Nat} {xs : Nat → Int32} (hts : ∀ w ∈ lw_tbl, w.before #[Value.ref b] s = true) (hX : va_X b L xs s s.heap) (hb : b < s.heap.size) (hL : L ≤ 260) (hgv : (Jvm.Cond.and given_1 narrow_1).before #[Value.ref b] s = true) : ∃ (dC : Nat → ClassId) (dI : Nat → Nat → Nat) (cA : Nat → ClassId) (xa : ch_Ad → Nat) (sv : Value), xa (11, 0, 0) = b ∧ ch_WV (l, s.heap, (s.heap.size, s.heap.size), (dC, dI, cA), xa, (fun _ => False), (L, xs), lw_tx, sv) s := by
  have hs := flat_of_before _ hgv
  have hgood : ∀ w ∈ ch_good, w.before #[Value.ref b] s = true := fun w hw => hts w (List.mem_filter.mp hw).1
  have htb : ∀ w ∈ tables_1, w.before #[Value.ref b] s = true := fun w hw => hts w (List.mem_append_right _ hw)
  have hoth : ∀ w ∈ ch_oth, w.before #[Value.ref b] s = true := fun w hw => htb w (List.mem_filter.mp hw).1
  have key : ∀ {ci N : Nat} {C : String} {T : u_T}, ch_Cl ci C T N → Cond.instantiable C N ∈ ch_good → ∃ cd : ClassId × (Nat → Nat), ∀ q : vw_C, ch_cls[ci]? = some q → u_Kn s q.1 q.2.1 q.2.2 cd.1 cd.2 := by
    intro ci N C T hcl hin
    obtain ⟨cC, iS, h⟩ := u_known hgood hcl.2.1 (hgood _ hin)
    refine ⟨(cC, iS), fun q hq => ?_⟩
    have e : q = (C, T, N) := Option.some.inj (hq.symm.trans hcl.1)
    rw [e]
    exact h
  have K : ∀ c : Nat, ∃ cd : ClassId × (Nat → Nat), ∀ q : vw_C, ch_cls[c]? = some q → u_Kn s q.1 q.2.1 q.2.2 cd.1 cd.2 := by
    intro c
    match c with
    | 0 => exact key ch_Cl0 in_0.1
    | 1 => exact key ch_Cl1 in_1.1
    | 2 => exact key ch_Cl2 in_2.1
    | 3 => exact key ch_Cl3 in_3.1
    | 4 => exact key ch_Cl4 in_4.1
    | 5 => exact key ch_Cl5 in_5.1
    | 6 => exact key ch_Cl6 in_6.1
    | 7 => exact key ch_Cl7 in_7.1
    | 8 => exact key ch_Cl8 in_8.1
    | 9 => exact key ch_Cl9 nb_b
    | 10 => exact key ch_Cl10 nb_q
    | n + 11 => exact ⟨(s.heap.size, fun _ => 0), fun q hq => by cases hq⟩
  have prim : ∀ {ty : FieldType}, (Cond.arrayClass ty).before #[Value.ref b] s = true → (∀ cA, s.vm.findClass ("[" ++ ty.toString) = some cA → va_RA s cA ty) → ∃ cA, ArrOfT s cA ty ∧ va_RA s cA ty := by
    intro ty h hra
    obtain ⟨cA, kA, comp, h1, h2, h3⟩ := Cond.arrayClass_spec h
    exact ⟨cA, fun n z => ⟨fun k h => (by cases h), kA, h2, comp, h3⟩, hra cA h1⟩
  have hover : (Cond.arrayOver (.object "ChalkWarrants$Yard")).before #[Value.ref b] s = true := htb _ (List.mem_of_getElem? (i := 131) (by decide +kernel))
  have A : ∀ t, ∃ cA, t < 6 → ArrOfT s cA (ch_ty t) ∧ va_RA s cA (ch_ty t) := by
    intro t
    match t with
    | 0 => obtain ⟨cA, h⟩ := prim (ty := .int) (hgood _ ac_int) (fun _ h => h); exact ⟨cA, fun _ => h⟩
    | 1 => obtain ⟨cA, h⟩ := prim (ty := .char) (hgood _ ac_char) (fun _ h => h); exact ⟨cA, fun _ => h⟩
    | 2 => obtain ⟨cA, h⟩ := prim (ty := .long) (hgood _ ac_long) (fun _ h => h); exact ⟨cA, fun _ => h⟩
    | 3 => obtain ⟨cA, h⟩ := prim (ty := .long) (hgood _ ac_long) (fun _ h => h); exact ⟨cA, fun _ => h⟩
    | 4 =>
      obtain ⟨comp, cA, kA, h1, h2, h3, h4, h5⟩ := Cond.arrayOver_spec hover
      exact ⟨cA, fun _ => ⟨fun n z => ⟨fun k h => (by cases h), kA, h3, comp, h4⟩, kA, comp, h3, h4, h1, h5⟩⟩
    | 5 => obtain ⟨cA, h⟩ := prim (ty := .byte) (hgood _ na_byte) (fun _ h => h); exact ⟨cA, fun _ => h⟩
    | n + 6 => exact ⟨s.heap.size, fun h => absurd h (by omega)⟩
  obtain ⟨cd, hcd⟩ := Classical.axiomOfChoice K
  obtain ⟨cA, hcA⟩ := Classical.axiomOfChoice A
  have hA : ∀ a : Nat, a < s.heap.size → ¬ (s.heap.size ≤ a) := fun a h => by omega
  obtain ⟨adK, adV, hS, hE⟩ := vk_Sof (args := #[Value.ref b]) (s := s) (N := 6) (tm := lw_tm) (len := lw_ln) (byt := lw_tx) (A := fun q => s.heap.size ≤ q) (by decide) (fun i hi => hs _ (lw_m1 i hi)) (fun i hi => hs _ (lw_m2 i hi)) (fun i hi => hs _ (lw_m3 i hi)) (fun i hi => hs _ (lw_m4 i hi)) (fun i hi j hj => hs _ (lw_m5 i hi j hj)) (fun i j hi hj hij => (lw_m6 i hi j hj hij).elim (fun h => Or.inl (hs _ h)) (fun h => Or.inr (hs _ h))) hA
  obtain ⟨t1, ht1, hT1⟩ := va_Tof (args := #[Value.ref b]) (s := s) (tm := lw_on) (ty := .byte) (N := 100) (f := fun j => .int (ch_dig 0 j)) (A := fun q => s.heap.size ≤ q) (by decide) (hs _ lw_m9.1) (va_eqt (hs _ lw_m9.2.1)) (fun j hj => va_eqt (hs _ (lw_m7 j hj))) hA
  obtain ⟨t2, ht2, hT2⟩ := va_Tof (args := #[Value.ref b]) (s := s) (tm := lw_tn) (ty := .byte) (N := 100) (f := fun j => .int (ch_dig 1 j)) (A := fun q => s.heap.size ≤ q) (by decide) (hs _ lw_m9.2.2.1) (va_eqt (hs _ lw_m9.2.2.2)) (fun j hj => va_eqt (hs _ (lw_m8 j hj))) hA
  obtain ⟨sv, hcat, hzs⟩ : ∃ sv : Value, sv.category = 1 ∧ va_Z "jdk/internal/util/Preconditions" "SIOOBE_FORMATTER" "Ljava/util/function/BiFunction;" sv (fun q => s.heap.size ≤ q) s s.heap := by
    rcases va_Zqof (htb _ (List.mem_of_getElem? (i := 1135) (by decide +kernel))) (htb _ (List.mem_of_getElem? (i := 27) (by decide +kernel))) (hs _ lw_m10.2.1) hA with h | ⟨t, h⟩
    · exact ⟨_, rfl, h⟩
    · exact ⟨_, rfl, h⟩
  refine ⟨fun c => (cd c).1, fun c => (cd c).2, cA, lw_xa b adK adV (fun i => if i = 0 then t1 else t2), sv, if_pos rfl, ?_⟩
  suffices hh : ∀ g : ch_G, ((l, s.heap, (s.heap.size, s.heap.size), ((fun c => (cd c).1), (fun c => (cd c).2), cA), lw_xa b adK adV (fun i => if i = 0 then t1 else t2), (fun _ => False), (L, xs), lw_tx, sv) : ch_G) = g → ch_WV g s from hh _ rfl
  intro g hg
  have gH : ch_H0 g = s.heap := by rw [← hg]; rfl
  have gA : ch_A g = fun q => s.heap.size ≤ q := by rw [← hg]; rfl
  have fx : ∀ q, q < s.heap.size → ch_fx g q := fun q hq => ⟨by rw [gH]; exact hq, fun a ha e => by
    rw [← hg] at ha e
    rcases ha with ha | ha
    · rw [ch_adr_in ha] at e
      have e : s.heap.size + (ch_off a.1 a.2.1 + a.2.2) = q := e
      omega
    · exact ha⟩
  have nF : ∀ q, ¬ ch_fx g q → s.heap.size ≤ q := fun q hn => Nat.not_lt.mp (fun h => hn (fx q h))
  have gtx : ch_tx g = lw_tx := by rw [← hg]; rfl
  have g11 : ch_scr g = (b, L, xs) := by rw [← hg]; rfl
  have g12 : (fun i => ch_xa g (12, i, 0)) = adK := by rw [← hg]; rfl
  have g13 : (fun i => ch_xa g (13, i, 0)) = adV := by rw [← hg]; rfl
  have g15a : ch_xa g (15, 0, 0) = t1 := by rw [← hg]; rfl
  have g15b : ch_xa g (15, 1, 0) = t2 := by rw [← hg]; rfl
  have gsv : ch_sv g = sv := by rw [← hg]; rfl
  have gK : va_K (ch_dC g, ch_dI g) ch_cls (ch_tys g) s := by
    rw [← hg]
    refine ⟨fun c q hq => hcd c q hq, fun k q hk => ?_⟩
    match k, hk with
    | 0, hk => cases hk; exact hcA 0 (by decide)
    | 1, hk => cases hk; exact hcA 1 (by decide)
    | 2, hk => cases hk; exact hcA 2 (by decide)
    | 3, hk => cases hk; exact hcA 3 (by decide)
    | 4, hk => cases hk; exact hcA 4 (by decide)
    | 5, hk => cases hk; exact hcA 5 (by decide)
    | n + 6, hk => cases hk
  refine ⟨gK, fun w hw => va_Nw.of (ch_oth_on hw) (hoth w hw), fun i j hi hj hij => va_Nc.of (hs _ (lw_m11 i hi j hj hij)), ?_, ?_, ?_, ?_, ?_, ⟨⟨⟨[], by rw [gtx, List.append_nil]; rfl⟩, fun i x hx => ?_⟩, ?_, ?_, ⟨?_, ?_⟩, ⟨?_, by rw [gsv]; exact hcat⟩, fun i hi => ?_⟩, va_AO.of hover⟩
  · rw [gH, gA]
    exact vx_Zqof (htb _ (List.mem_of_getElem? (i := 450) (by decide +kernel))) (htb _ (List.mem_of_getElem? (i := 10) (by decide +kernel))) (hs _ lw_m10.2.2.1) hA
  · rw [gH, gA]
    exact vx_Zqof (htb _ (List.mem_of_getElem? (i := 452) (by decide +kernel))) (htb _ (List.mem_of_getElem? (i := 10) (by decide +kernel))) (hs _ lw_m10.2.2.2) hA
  · rw [gH, g11]
    exact hX
  · rw [g11]
    exact fx b hb
  · rw [g11]
    show L < 2 ^ 31
    omega
  · have hi : i < 6 := (List.getElem?_eq_some_iff.mp hx).1
    have hxe : ch_lit6.getD i ("", [], 0) = x := by
      rw [List.getD_eq_getElem?_getD, hx]
      rfl
    obtain ⟨w1, w2⟩ := lw_m12 i hi
    rw [hxe] at w1 w2
    have h3 := hE i hi
    rw [show ch_xa g (12, i, 0) = adK i from congrFun g12 i]
    refine vk_R.of (htb _ w1) ?_
    rw [w2]
    exact h3
  · rw [gH, gtx, g12, g13]
    exact hS.narrow nF
  · rw [gH]
    exact (va_Zof (htb _ (List.mem_of_getElem? (i := 1055) (by decide +kernel))) (htb _ (List.mem_of_getElem? (i := 21) (by decide +kernel))) (va_eqt (hs _ lw_m10.1)) hA).narrow nF
  · rw [gH, g15a]
    exact (va_Zof (htb _ (List.mem_of_getElem? (i := 1205) (by decide +kernel))) (htb _ (List.mem_of_getElem? (i := 33) (by decide +kernel))) ht1 hA).narrow nF
  · rw [gH, g15b]
    exact (va_Zof (htb _ (List.mem_of_getElem? (i := 1207) (by decide +kernel))) (htb _ (List.mem_of_getElem? (i := 33) (by decide +kernel))) ht2 hA).narrow nF
  · rw [gH, gsv]
    exact hzs.narrow nF
  · match i, hi with
    | 0, _ =>
      rw [gH, g15a]
      exact hT1.narrow nF
    | 1, _ =>
      rw [gH, g15b]
      exact hT2.narrow nF
