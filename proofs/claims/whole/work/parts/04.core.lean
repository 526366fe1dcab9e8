/-! THE WORLD: objects of ten classes by number, their arrays as parts; every int by address and place; all else is fixed -/
abbrev ch_Ad : Type := Nat × Nat × Nat
abbrev ch_V : Type := Value ⊕ ch_Ad
abbrev ch_M : Type := ch_Ad → Nat → Int32
abbrev ch_O : Type := Option ch_V ⊕ Nat
/-- launch, heap at the start, class ids, slots of fields, ids of array classes, the script, the string -/
abbrev ch_G : Type := Launch × Heap × (Nat → ClassId) × (Nat → Nat → Nat) × (Nat → ClassId) × (Nat × Nat × (Nat → Int32)) × (Nat × Nat)
def ch_l (g : ch_G) : Launch := g.1
def ch_H0 (g : ch_G) : Heap := g.2.1
def ch_base (g : ch_G) : Nat := g.2.1.size
def ch_dC (g : ch_G) : Nat → ClassId := g.2.2.1
def ch_dI (g : ch_G) : Nat → Nat → Nat := g.2.2.2.1
def ch_cA (g : ch_G) : Nat → ClassId := g.2.2.2.2.1
def ch_scr (g : ch_G) : Nat × Nat × (Nat → Int32) := g.2.2.2.2.2.1
def ch_str (g : ch_G) : Nat × Nat := g.2.2.2.2.2.2
def ch_A (g : ch_G) : Nat → Prop := fun q => ch_base g ≤ q
/-- how many objects of a class -/
def ch_cnt (ci : Nat) : Nat := match ci with
  | 1 => 12
  | 5 => 2
  | 6 => 2
  | _ => 1
/-- an object's cells, itself counted -/
def ch_wid (ci : Nat) : Nat := match ci with
  | 1 => 9
  | 2 => 2
  | 5 => 2
  | 6 => 2
  | 8 => 4
  | 9 => 12
  | 10 => 3
  | _ => 1
/-- where an object lies -/
def ch_off (ci j : Nat) : Nat := match ci with
  | 0 => 0
  | 1 => if j < 4 then 1 + 9 * j else 39 + 9 * (j - 4)
  | 2 => 37
  | 3 => 111
  | 4 => 112
  | 5 => 113 + 11 * j
  | 6 => 115 + 3 * j
  | 7 => 117
  | 8 => 120
  | 9 => 126
  | _ => 137
def ch_in (a : ch_Ad) : Prop := a.1 ≤ 10 ∧ a.2.1 < ch_cnt a.1 ∧ a.2.2 < ch_wid a.1 ∧ ¬ (a.1 = 10 ∧ a.2.2 = 0)
def ch_adr (g : ch_G) (a : ch_Ad) : Nat := if a.1 ≤ 10 then ch_base g + (ch_off a.1 a.2.1 + a.2.2) else if a.1 = 11 then (ch_scr g).1 else if a.1 = 12 then (ch_str g).1 else (ch_str g).2
def ch_va (a : ch_Ad) : Prop := ch_in a ∨ a = (11, 0, 0) ∨ a = (12, 0, 0) ∨ a = (13, 0, 0)
def ch_tr (g : ch_G) : ch_V → Value
  | .inl v => v
  | .inr a => .ref (ch_adr g a)
def ch_ok (v : ch_V) : Prop := ∀ a, v = .inr a → ch_va a
/-- a field that holds an address: which -/
def ch_rf (ci k j : Nat) : Option ch_Ad := match ci with
  | 0 => match k with
    | 0 => some (1, 0, 0)
    | 1 => some (1, 1, 0)
    | 2 => some (1, 2, 0)
    | 3 => some (1, 3, 0)
    | 4 => some (2, 0, 0)
    | 5 => some (3, 0, 0)
    | 6 => some (4, 0, 0)
    | 7 => some (6, 0, 0)
    | 8 => some (7, 0, 0)
    | 9 => some (6, 1, 0)
    | 10 => some (8, 0, 0)
    | 11 => some (5, 1, 0)
    | _ => none
  | 1 => if k < 8 then some (1, j, k + 1) else none
  | 2 => if k = 0 then some (2, j, 1) else none
  | 4 => if k = 0 then some (5, 0, 0) else none
  | 5 => if k = 0 then some (5, j, 1) else none
  | 6 => if k = 0 then some (6, j, 1) else none
  | 8 => if k < 3 then some (8, j, k + 1) else none
  | 9 => match k with
    | 0 => some (9, j, 1)
    | 1 => some (9, j, 2)
    | 2 => some (9, j, 3)
    | 3 => some (9, j, 4)
    | 5 => some (9, j, 5)
    | 7 => some (9, j, 6)
    | 9 => some (9, j, 7)
    | 13 => some (9, j, 8)
    | 20 => some (9, j, 9)
    | 22 => some (9, j, 10)
    | 23 => some (9, j, 11)
    | _ => none
  | _ => none
/-- kinds of arrays: 0 int, 1 char, 2 long, 3 double, 4 yards; and lengths -/
def ch_ak (ci c : Nat) : Nat × Nat := match ci with
  | 1 => (0, if c < 3 then 12 else 5)
  | 2 => (4, 8)
  | 5 => (0, 12)
  | 6 => (1, 60)
  | 8 => (0, 15)
  | 9 => match c with
    | 4 => (0, 504)
    | 6 => (1, 80)
    | 7 => (1, 60)
    | 8 => (0, 3)
    | 9 => (0, 12)
    | 10 => (0, 13)
    | 11 => (0, 13)
    | _ => (0, 63)
  | _ => if c = 1 then (2, 1) else (3, 1)
def ch_ty (t : Nat) : FieldType := match t with
  | 0 => .int
  | 1 => .char
  | 2 => .long
  | 3 => .double
  | _ => .object "ChalkWarrants$Yard"
/-- the quotient of two ints as doubles (0 for none): the double array holds such a one, by its two ints -/
def ch_dv (x y : Int32) : UInt64 := if y = 0 then 0 else FP.ddiv (FP.i2d x) (FP.i2d y)
def ch_ev (g : ch_G) (mem : ch_M) (a : ch_Ad) (t k : Nat) : Value := match t with
  | 0 => .int (mem a k)
  | 1 => .int (mem a k)
  | 2 => .long (mem a k).toInt64
  | 3 => .double (ch_dv (mem a 0) (mem a 1))
  | _ => .ref (ch_adr g (1, 4 + k, 0))
def ch_gv (mem : ch_M) (ci j k : Nat) : ch_V := match ch_rf ci k j with
  | some a => .inr a
  | none => .inl (.int (mem (ci, j, 0) k))
def ch_cell (g : ch_G) (mem : ch_M) (a : ch_Ad) (H : Heap) : Prop := match a with
  | (ci, j, 0) => ∃ r : vw_C, ch_cls[ci]? = some r ∧ t_OB (ch_adr g (ci, j, 0)) (ch_dC g ci) r.2.2 (ch_dI g ci) H (fun k => ch_tr g (ch_gv mem ci j k))
  | (ci, j, c + 1) => H[ch_adr g (ci, j, c + 1)]? = some (arrV (ch_cA g (ch_ak ci (c + 1)).1) (ch_ak ci (c + 1)).2 (fun k => ch_ev g mem (ci, j, c + 1) (ch_ak ci (c + 1)).1 k))
/-- the heap holds the world -/
def ch_Rp (g : ch_G) (mem : ch_M) (H : Heap) : Prop := ch_base g + 140 ≤ H.size ∧ (∀ q, q < ch_base g → H[q]? = (ch_H0 g)[q]?) ∧ ∀ a, ch_in a → ch_cell g mem a H
abbrev ch_tys (g : ch_G) : List (ClassId × FieldType) := [(ch_cA g 0, ch_ty 0), (ch_cA g 1, ch_ty 1), (ch_cA g 2, ch_ty 2), (ch_cA g 3, ch_ty 3), (ch_cA g 4, ch_ty 4)]
/-- the exceptions, by number -/
def ch_xn (n : Nat) : String := match n with
  | 0 => "java/lang/UnsupportedOperationException"
  | 1 => "java/lang/IndexOutOfBoundsException"
  | 2 => "java/lang/IllegalArgumentException"
  | 3 => "java/util/NoSuchElementException"
  | 4 => "java/lang/IllegalStateException"
  | _ => "java/lang/ArithmeticException"
/-- the string "nchwsrtg" of the reference, where it lies and what it holds -/
def ch_SW (g : ch_G) (U : State) : Prop := vk_R "ChalkWarrantsModel" 212 "nchwsrtg" (ch_str g).1 U ∧ vk_S 1 [8] [[110, 99, 104, 119, 115, 114, 116, 103]] (fun _ => (ch_str g).1) (fun _ => (ch_str g).2) (ch_A g) U (ch_H0 g) ∧ va_Z "java/lang/String" "COMPACT_STRINGS" "Z" (.int 1) (ch_A g) U (ch_H0 g)
theorem ch_SW.warm {g : ch_G} {s U : State} (hW : s.WarmedH U.vm) (h : ch_SW g s) : ch_SW g U := ⟨h.1.warm hW, h.2.1.moved hW.alike, h.2.2.moved hW.alike⟩
theorem ch_SW.same {g : ch_G} {s U : State} (hv : U.vm = s.vm) (h : ch_SW g s) : ch_SW g U := ⟨h.1.same hv, h.2.1.moved (by rw [hv]; exact Vm.Alike.refl s.vm), h.2.2.moved (by rw [hv]; exact Vm.Alike.refl s.vm)⟩
/-- what the tables of a state say -/
def ch_WV (g : ch_G) (U : State) : Prop :=
  va_K (ch_dC g, ch_dI g) ch_cls (ch_tys g) U ∧ (∀ w ∈ ch_oth, va_Nw w U) ∧ (∀ i j, i < 6 → j < 6 → i ≠ j → va_Nc (ch_xn i) (ch_xn j) U) ∧
  vx_Zq Bundle.tN "UNASSIGNED_STACK" Bundle.steD (ch_A g) U (ch_H0 g) ∧ vx_Zq Bundle.tN "SUPPRESSED_SENTINEL" Bundle.listD (ch_A g) U (ch_H0 g) ∧
  va_X (ch_scr g).1 (ch_scr g).2.1 (ch_scr g).2.2 U (ch_H0 g) ∧ (ch_scr g).1 < ch_base g ∧ (ch_scr g).2.1 < 2 ^ 31 ∧ ch_SW g U
theorem ch_oth_warm {w : Cond} {s U : State} (hw : w ∈ ch_oth) (hW : s.WarmedH U.vm) (h : va_Nw w s) : va_Nw w U := by
  have h1 : ch_isO w = true := (List.mem_filter.mp hw).2
  cases w with
  | fieldLinkNest => exact va_Nw.warmF hW h
  | methodLinkNest => exact va_Nw.warmM hW h
  | castable => exact va_Nw.warmC hW h
  | declares => exact va_Nw.warmD hW h
  | _ => cases h1
theorem ch_X_moved {b L : Nat} {xs : Nat → Int32} {s U : State} {H : Heap} (hvm : s.vm.Alike U.vm) (h : va_X b L xs s H) : va_X b L xs U H := by
  obtain ⟨scr, h1, h2, h3, h4, h5⟩ := h
  exact ⟨scr, h1, State.isArrayOf_alike hvm h2, h3, h4, h5⟩
theorem ch_WV.warm {g : ch_G} {s U : State} (hW : s.WarmedH U.vm) (h : ch_WV g s) : ch_WV g U := by
  obtain ⟨h1, h2, h3, h4, h5, h6, h7, h8, h9⟩ := h
  exact ⟨va_K.moved hW.alike h1, fun w hw => ch_oth_warm hw hW (h2 w hw), fun i j a b c => (h3 i j a b c).moved hW.alike, vx_Zq.moved hW.alike h4, vx_Zq.moved hW.alike h5, ch_X_moved hW.alike h6, h7, h8, h9.warm hW⟩
