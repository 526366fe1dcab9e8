theorem lw_wv (l : Launch) {s : State} {b L : Nat} {xs : Nat → Int32} (hts : ∀ w ∈ lw_tbl, w.before #[Value.ref b] s = true) (hX : va_X b L xs s s.heap) (hb : b < s.heap.size) (hL : L ≤ 2048) (hgv : (Jvm.Cond.and given_1 narrow_1).before #[Value.ref b] s = true) : ∃ (dC : Nat → ClassId) (dI : Nat → Nat → Nat) (cA : Nat → ClassId) (sa sv : Nat), ch_WV (l, s.heap, dC, dI, cA, (b, L, xs), (sa, sv)) s := by
  have hs := flat_of_before _ hgv
  have hgood : ∀ w ∈ ch_good, w.before #[Value.ref b] s = true := fun w hw => hts w (List.mem_filter.mp hw).1
  have hoth : ∀ w ∈ ch_oth, w.before #[Value.ref b] s = true := fun w hw => hts w (List.mem_append_right _ (List.mem_filter.mp hw).1)
  have key : ∀ {ci N : Nat} {C : String} {T : u_T}, ch_Cl ci C T N → Cond.instantiable C N ∈ ch_good → ∃ cd : ClassId × (Nat → Nat), ∀ q : vw_C, ch_cls[ci]? = some q → u_Kn s q.1 q.2.1 q.2.2 cd.1 cd.2 := by
    intro ci N C T hcl hin
    obtain ⟨cC, iS, h⟩ := u_known hgood hcl.2.1 (hgood _ hin)
    refine ⟨(cC, iS), fun q hq => ?_⟩
    have e : q = (C, T, N) := Option.some.inj (hq.symm.trans hcl.1)
    rw [e]
    exact h
  have K : ∀ c : Nat, ∃ cd : ClassId × (Nat → Nat), ∀ q : vw_C, ch_cls[c]? = some q → u_Kn s q.1 q.2.1 q.2.2 cd.1 cd.2 := by
    intro c
    match c with
    | 0 => exact key ch_Cl0 in_0.1
    | 1 => exact key ch_Cl1 in_1.1
    | 2 => exact key ch_Cl2 in_2.1
    | 3 => exact key ch_Cl3 in_3.1
    | 4 => exact key ch_Cl4 in_4.1
    | 5 => exact key ch_Cl5 in_5.1
    | 6 => exact key ch_Cl6 in_6.1
    | 7 => exact key ch_Cl7 in_7.1
    | 8 => exact key ch_Cl8 in_8.1
    | 9 => exact key ch_Cl9 in_9.1
    | n + 10 => exact ⟨(s.heap.size, fun _ => 0), fun q hq => by cases hq⟩
  have prim : ∀ {ty : FieldType}, (Cond.arrayClass ty).before #[Value.ref b] s = true → (∀ cA, s.vm.findClass ("[" ++ ty.toString) = some cA → va_RA s cA ty) → ∃ cA, ArrOfT s cA ty ∧ va_RA s cA ty := by
    intro ty h hra
    obtain ⟨cA, kA, comp, h1, h2, h3⟩ := Cond.arrayClass_spec h
    exact ⟨cA, fun n z => ⟨fun k h => (by cases h), kA, h2, comp, h3⟩, hra cA h1⟩
  have A : ∀ t, ∃ cA, t < 5 → ArrOfT s cA (ch_ty t) ∧ va_RA s cA (ch_ty t) := by
    intro t
    match t with
    | 0 => obtain ⟨cA, h⟩ := prim (ty := .int) (hgood _ ac_int) (fun _ h => h); exact ⟨cA, fun _ => h⟩
    | 1 => obtain ⟨cA, h⟩ := prim (ty := .char) (hgood _ ac_char) (fun _ h => h); exact ⟨cA, fun _ => h⟩
    | 2 => obtain ⟨cA, h⟩ := prim (ty := .long) (hgood _ ac_long) (fun _ h => h); exact ⟨cA, fun _ => h⟩
    | 3 => obtain ⟨cA, h⟩ := prim (ty := .double) (hgood _ ac_double) (fun _ h => h); exact ⟨cA, fun _ => h⟩
    | 4 =>
      obtain ⟨comp, cA, kA, h1, h2, h3, h4, h5⟩ := Cond.arrayOver_spec (hts (.arrayOver (.object "ChalkWarrants$Yard")) (List.mem_append_right _ (List.mem_of_getElem? (i := 127) (by decide +kernel))))
      exact ⟨cA, fun _ => ⟨fun n z => ⟨fun k h => (by cases h), kA, h3, comp, h4⟩, kA, comp, h3, h4, h1, h5⟩⟩
    | n + 5 => exact ⟨s.heap.size, fun h => absurd h (by omega)⟩
  obtain ⟨cd, hcd⟩ := Classical.axiomOfChoice K
  obtain ⟨cA, hcA⟩ := Classical.axiomOfChoice A
  have hA : ∀ a : Nat, a < s.heap.size → ¬ (s.heap.size ≤ a) := fun a h => by omega
  obtain ⟨adK, adV, hS, hE⟩ := vk_Sof (args := #[Value.ref b]) (s := s) (N := 1) (tm := fun _ => Term.string "ChalkWarrantsModel" 212) (len := [8]) (byt := [[110, 99, 104, 119, 115, 114, 116, 103]]) (A := fun q => s.heap.size ≤ q) (fun i hi => by rw [show i = 0 by omega]; decide) (fun i _ => hs _ (by decide +kernel)) (fun i _ => hs _ (by decide +kernel)) (fun i _ => hs _ (by decide +kernel)) (fun i hi => by rw [show i = 0 by omega]; exact hs _ (by decide +kernel))
    (fun i hi j hj => by
      rw [show i = 0 by omega] at hj ⊢
      have hj : j < 8 := hj
      match j, hj with
      | 0, _ => exact hs _ (by decide +kernel)
      | 1, _ => exact hs _ (by decide +kernel)
      | 2, _ => exact hs _ (by decide +kernel)
      | 3, _ => exact hs _ (by decide +kernel)
      | 4, _ => exact hs _ (by decide +kernel)
      | 5, _ => exact hs _ (by decide +kernel)
      | 6, _ => exact hs _ (by decide +kernel)
      | 7, _ => exact hs _ (by decide +kernel)) (fun i j hi hj hij => absurd (show i = j by omega) hij) hA
  refine ⟨fun c => (cd c).1, fun c => (cd c).2, cA, adK 0, adV 0, ⟨fun c q hq => hcd c q hq, fun k q hk => ?_⟩, fun w hw => va_Nw.of (ch_oth_on hw) (hoth w hw), fun i j hi hj hij => ?_, vx_Zqof (hts _ (List.mem_append_right _ (List.mem_of_getElem? (i := 481) (by decide +kernel)))) (hts (.initialized "java/lang/Throwable") (by decide +kernel)) (hs _ (by decide +kernel)) hA, vx_Zqof (hts _ (List.mem_append_right _ (List.mem_of_getElem? (i := 483) (by decide +kernel)))) (hts (.initialized "java/lang/Throwable") (by decide +kernel)) (hs _ (by decide +kernel)) hA, hX, hb, by show L < 2 ^ 31; omega, vk_R.of (hts _ (List.mem_append_right _ (List.mem_of_getElem? (i := 1373) (by decide +kernel)))) (hE 0 (by omega)), ⟨fun i hi => ?_, fun i j hi hj _ => by omega⟩, va_Zof (hts _ (List.mem_append_right _ (List.mem_of_getElem? (i := 1387) (by decide +kernel)))) (hts (.initialized "java/lang/String") (by decide +kernel)) (va_eqt (hs (.eq (.static "java/lang/String" "COMPACT_STRINGS" "Z") (.int 1)) (by decide +kernel))) hA⟩
  · match k, hk with
    | 0, hk => cases hk; exact hcA 0 (by decide)
    | 1, hk => cases hk; exact hcA 1 (by decide)
    | 2, hk => cases hk; exact hcA 2 (by decide)
    | 3, hk => cases hk; exact hcA 3 (by decide)
    | 4, hk => cases hk; exact hcA 4 (by decide)
    | n + 5, hk => cases hk
  · match i, j, hi, hj, hij with
    | 0, 1, _, _, _ => exact va_Nc.of (hs (.not (.castable "java/lang/UnsupportedOperationException" "java/lang/IndexOutOfBoundsException")) (by decide +kernel))
    | 0, 2, _, _, _ => exact va_Nc.of (hs (.not (.castable "java/lang/UnsupportedOperationException" "java/lang/IllegalArgumentException")) (by decide +kernel))
    | 0, 3, _, _, _ => exact va_Nc.of (hs (.not (.castable "java/lang/UnsupportedOperationException" "java/util/NoSuchElementException")) (by decide +kernel))
    | 0, 4, _, _, _ => exact va_Nc.of (hs (.not (.castable "java/lang/UnsupportedOperationException" "java/lang/IllegalStateException")) (by decide +kernel))
    | 0, 5, _, _, _ => exact va_Nc.of (hs (.not (.castable "java/lang/UnsupportedOperationException" "java/lang/ArithmeticException")) (by decide +kernel))
    | 1, 0, _, _, _ => exact va_Nc.of (hs (.not (.castable "java/lang/IndexOutOfBoundsException" "java/lang/UnsupportedOperationException")) (by decide +kernel))
    | 1, 2, _, _, _ => exact va_Nc.of (hs (.not (.castable "java/lang/IndexOutOfBoundsException" "java/lang/IllegalArgumentException")) (by decide +kernel))
    | 1, 3, _, _, _ => exact va_Nc.of (hs (.not (.castable "java/lang/IndexOutOfBoundsException" "java/util/NoSuchElementException")) (by decide +kernel))
    | 1, 4, _, _, _ => exact va_Nc.of (hs (.not (.castable "java/lang/IndexOutOfBoundsException" "java/lang/IllegalStateException")) (by decide +kernel))
    | 1, 5, _, _, _ => exact va_Nc.of (hs (.not (.castable "java/lang/IndexOutOfBoundsException" "java/lang/ArithmeticException")) (by decide +kernel))
    | 2, 0, _, _, _ => exact va_Nc.of (hs (.not (.castable "java/lang/IllegalArgumentException" "java/lang/UnsupportedOperationException")) (by decide +kernel))
    | 2, 1, _, _, _ => exact va_Nc.of (hs (.not (.castable "java/lang/IllegalArgumentException" "java/lang/IndexOutOfBoundsException")) (by decide +kernel))
    | 2, 3, _, _, _ => exact va_Nc.of (hs (.not (.castable "java/lang/IllegalArgumentException" "java/util/NoSuchElementException")) (by decide +kernel))
    | 2, 4, _, _, _ => exact va_Nc.of (hs (.not (.castable "java/lang/IllegalArgumentException" "java/lang/IllegalStateException")) (by decide +kernel))
    | 2, 5, _, _, _ => exact va_Nc.of (hs (.not (.castable "java/lang/IllegalArgumentException" "java/lang/ArithmeticException")) (by decide +kernel))
    | 3, 0, _, _, _ => exact va_Nc.of (hs (.not (.castable "java/util/NoSuchElementException" "java/lang/UnsupportedOperationException")) (by decide +kernel))
    | 3, 1, _, _, _ => exact va_Nc.of (hs (.not (.castable "java/util/NoSuchElementException" "java/lang/IndexOutOfBoundsException")) (by decide +kernel))
    | 3, 2, _, _, _ => exact va_Nc.of (hs (.not (.castable "java/util/NoSuchElementException" "java/lang/IllegalArgumentException")) (by decide +kernel))
    | 3, 4, _, _, _ => exact va_Nc.of (hs (.not (.castable "java/util/NoSuchElementException" "java/lang/IllegalStateException")) (by decide +kernel))
    | 3, 5, _, _, _ => exact va_Nc.of (hs (.not (.castable "java/util/NoSuchElementException" "java/lang/ArithmeticException")) (by decide +kernel))
    | 4, 0, _, _, _ => exact va_Nc.of (hs (.not (.castable "java/lang/IllegalStateException" "java/lang/UnsupportedOperationException")) (by decide +kernel))
    | 4, 1, _, _, _ => exact va_Nc.of (hs (.not (.castable "java/lang/IllegalStateException" "java/lang/IndexOutOfBoundsException")) (by decide +kernel))
    | 4, 2, _, _, _ => exact va_Nc.of (hs (.not (.castable "java/lang/IllegalStateException" "java/lang/IllegalArgumentException")) (by decide +kernel))
    | 4, 3, _, _, _ => exact va_Nc.of (hs (.not (.castable "java/lang/IllegalStateException" "java/util/NoSuchElementException")) (by decide +kernel))
    | 4, 5, _, _, _ => exact va_Nc.of (hs (.not (.castable "java/lang/IllegalStateException" "java/lang/ArithmeticException")) (by decide +kernel))
    | 5, 0, _, _, _ => exact va_Nc.of (hs (.not (.castable "java/lang/ArithmeticException" "java/lang/UnsupportedOperationException")) (by decide +kernel))
    | 5, 1, _, _, _ => exact va_Nc.of (hs (.not (.castable "java/lang/ArithmeticException" "java/lang/IndexOutOfBoundsException")) (by decide +kernel))
    | 5, 2, _, _, _ => exact va_Nc.of (hs (.not (.castable "java/lang/ArithmeticException" "java/lang/IllegalArgumentException")) (by decide +kernel))
    | 5, 3, _, _, _ => exact va_Nc.of (hs (.not (.castable "java/lang/ArithmeticException" "java/util/NoSuchElementException")) (by decide +kernel))
    | 5, 4, _, _, _ => exact va_Nc.of (hs (.not (.castable "java/lang/ArithmeticException" "java/lang/IllegalStateException")) (by decide +kernel))
    | 0, 0, _, _, h => exact absurd rfl h
    | 1, 1, _, _, h => exact absurd rfl h
    | 2, 2, _, _, h => exact absurd rfl h
    | 3, 3, _, _, h => exact absurd rfl h
    | 4, 4, _, _, h => exact absurd rfl h
    | 5, 5, _, _, h => exact absurd rfl h
  · rw [show i = 0 by omega]
    exact hS.1 0 (by omega)
