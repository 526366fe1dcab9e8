/-! THE WORLD: objects of nine classes by number, their arrays as parts; every int by address and place; all else is fixed. Cells beside the world: a StringBuilder (9), the law's row of longs (14) -/
abbrev ch_Ad : Type := Nat × Nat × Nat
abbrev ch_V : Type := Value ⊕ ch_Ad
abbrev ch_M : Type := ch_Ad → Nat → Int32
abbrev ch_O : Type := Option ch_V ⊕ Nat
/-- launch, what stands fixed, lowest address that may be written and the world's base, class ids, slots of fields, ids of array classes, addresses beside the world, cells beside the world, the script, the texts, the formatter -/
abbrev ch_G : Type := Launch × Heap × (Nat × Nat) × ((Nat → ClassId) × (Nat → Nat → Nat) × (Nat → ClassId)) × (ch_Ad → Nat) × (ch_Ad → Prop) × (Nat × (Nat → Int32)) × List (List Int32) × Value
def ch_l (g : ch_G) : Launch := g.1
def ch_H0 (g : ch_G) : Heap := g.2.1
def ch_lo (g : ch_G) : Nat := g.2.2.1.1
def ch_base (g : ch_G) : Nat := g.2.2.1.2
def ch_dC (g : ch_G) : Nat → ClassId := g.2.2.2.1.1
def ch_dI (g : ch_G) : Nat → Nat → Nat := g.2.2.2.1.2.1
def ch_cA (g : ch_G) : Nat → ClassId := g.2.2.2.1.2.2
def ch_xa (g : ch_G) : ch_Ad → Nat := g.2.2.2.2.1
def ch_xi (g : ch_G) : ch_Ad → Prop := g.2.2.2.2.2.1
def ch_scr (g : ch_G) : Nat × Nat × (Nat → Int32) := (ch_xa g (11, 0, 0), g.2.2.2.2.2.2.1)
def ch_tx (g : ch_G) : List (List Int32) := g.2.2.2.2.2.2.2.1
def ch_sv (g : ch_G) : Value := g.2.2.2.2.2.2.2.2
def ch_A (g : ch_G) : Nat → Prop := fun q => ch_lo g ≤ q
/-- a byte of a text, its length -/
def ch_tb (g : ch_G) (i j : Nat) : Int32 := ((ch_tx g).getD i []).getD j 0
def ch_tn (g : ch_G) (i : Nat) : Nat := ((ch_tx g).getD i []).length
/-- how many objects of a class -/
def ch_cnt (ci : Nat) : Nat := match ci with
  | 1 => 12
  | 5 => 2
  | 6 => 2
  | _ => 1
/-- an object's cells, itself counted -/
def ch_wid (ci : Nat) : Nat := match ci with
  | 1 => 9
  | 2 => 2
  | 5 => 2
  | 6 => 2
  | 8 => 4
  | _ => 1
/-- where an object lies -/
def ch_off (ci j : Nat) : Nat := match ci with
  | 0 => 0
  | 1 => if j < 4 then 1 + 9 * j else 39 + 9 * (j - 4)
  | 2 => 37
  | 3 => 111
  | 4 => 112
  | 5 => 113 + 11 * j
  | 6 => 115 + 3 * j
  | 7 => 117
  | _ => 120
def ch_in (a : ch_Ad) : Prop := a.1 ≤ 8 ∧ a.2.1 < ch_cnt a.1 ∧ a.2.2 < ch_wid a.1
def ch_inx (g : ch_G) (a : ch_Ad) : Prop := ch_in a ∨ ch_xi g a
def ch_adr (g : ch_G) (a : ch_Ad) : Nat := if a.1 ≤ 8 then ch_base g + (ch_off a.1 a.2.1 + a.2.2) else ch_xa g a
/-- a fixed cell -/
def ch_fx (g : ch_G) (q : Nat) : Prop := q < (ch_H0 g).size ∧ ∀ a, ch_inx g a → ch_adr g a ≠ q
def ch_va (g : ch_G) (a : ch_Ad) : Prop := ch_inx g a ∨ a = (11, 0, 0) ∨ (∃ i, i < (ch_tx g).length ∧ (a = (12, i, 0) ∨ a = (13, i, 0))) ∨ ∃ i, i < 2 ∧ a = (15, i, 0)
def ch_tr (g : ch_G) : ch_V → Value
  | .inl v => v
  | .inr a => .ref (ch_adr g a)
def ch_ok (g : ch_G) (v : ch_V) : Prop := ∀ a, v = .inr a → ch_va g a
/-- a field that holds an address: which -/
def ch_rf (ci k j : Nat) : Option ch_Ad := match ci with
  | 0 => match k with
    | 0 => some (1, 0, 0)
    | 1 => some (1, 1, 0)
    | 2 => some (1, 2, 0)
    | 3 => some (1, 3, 0)
    | 4 => some (2, 0, 0)
    | 5 => some (3, 0, 0)
    | 6 => some (4, 0, 0)
    | 7 => some (6, 0, 0)
    | 8 => some (7, 0, 0)
    | 9 => some (6, 1, 0)
    | 10 => some (8, 0, 0)
    | 11 => some (5, 1, 0)
    | _ => none
  | 1 => if k < 8 then some (1, j, k + 1) else none
  | 2 => if k = 0 then some (2, j, 1) else none
  | 4 => if k = 0 then some (5, 0, 0) else none
  | 5 => if k = 0 then some (5, j, 1) else none
  | 6 => if k = 0 then some (6, j, 1) else none
  | 8 => if k < 3 then some (8, j, k + 1) else none
  | 9 => if k = 0 then some (9, j, 1) else none
  | _ => none
/-- kinds of arrays: 0 int, 1 char, 2 long, 4 yards, 5 byte; and lengths -/
def ch_ak (ci c : Nat) : Nat × Nat := match ci with
  | 1 => (0, if c < 3 then 12 else 5)
  | 2 => (4, 8)
  | 5 => (0, 12)
  | 6 => (1, 60)
  | 8 => (0, 15)
  | 9 => (5, 16)
  | _ => (2, 9)
def ch_ty (t : Nat) : FieldType := match t with
  | 0 => .int
  | 1 => .char
  | 2 => .long
  | 3 => .long
  | 4 => .object "ChalkWarrants$Yard"
  | _ => .byte
/-- a long by its two halves -/
def ch_lw (h l : Int32) : Int64 := (UInt64.ofNat (h.toUInt32.toNat * 4294967296 + l.toUInt32.toNat)).toInt64
def ch_ev (g : ch_G) (mem : ch_M) (a : ch_Ad) (t k : Nat) : Value := match t with
  | 0 => .int (mem a k)
  | 1 => .int (mem a k)
  | 2 => .long (ch_lw (mem a (2 * k)) (mem a (2 * k + 1)))
  | 3 => .null
  | 4 => .ref (ch_adr g (1, 4 + k, 0))
  | _ => .int (mem a k)
def ch_gv (mem : ch_M) (ci j k : Nat) : ch_V := match ch_rf ci k j with
  | some a => .inr a
  | none => .inl (.int (mem (ci, j, 0) k))
def ch_cell (g : ch_G) (mem : ch_M) (a : ch_Ad) (H : Heap) : Prop := match a with
  | (ci, j, 0) => ∃ r : vw_C, ch_cls[ci]? = some r ∧ t_OB (ch_adr g (ci, j, 0)) (ch_dC g ci) r.2.2 (ch_dI g ci) H (fun k => ch_tr g (ch_gv mem ci j k))
  | (ci, j, c + 1) => H[ch_adr g (ci, j, c + 1)]? = some (arrV (ch_cA g (ch_ak ci (c + 1)).1) (ch_ak ci (c + 1)).2 (fun k => ch_ev g mem (ci, j, c + 1) (ch_ak ci (c + 1)).1 k))
/-- addresses differ, and may be written -/
def ch_gw (g : ch_G) : Prop := (∀ a b, ch_inx g a → ch_inx g b → ch_adr g a = ch_adr g b → a = b) ∧ (∀ a, ch_inx g a → ch_lo g ≤ ch_adr g a) ∧ (∀ j, ch_xi g (9, j, 0) → ch_xi g (9, j, 1)) ∧ ∀ a, ch_xi g a → a.1 = 9 ∨ a.1 = 14
/-- the heap holds the world -/
def ch_Rp (g : ch_G) (mem : ch_M) (H : Heap) : Prop := ch_lo g ≤ H.size ∧ (∀ q, ch_fx g q → H[q]? = (ch_H0 g)[q]?) ∧ (∀ a, ch_inx g a → ch_cell g mem a H) ∧ ch_gw g
abbrev ch_tys (g : ch_G) : List (ClassId × FieldType) := [(ch_cA g 0, ch_ty 0), (ch_cA g 1, ch_ty 1), (ch_cA g 2, ch_ty 2), (ch_cA g 3, ch_ty 3), (ch_cA g 4, ch_ty 4), (ch_cA g 5, ch_ty 5)]
/-- the exceptions, by number -/
def ch_xn (n : Nat) : String := match n with
  | 0 => "java/lang/UnsupportedOperationException"
  | 1 => "java/lang/IndexOutOfBoundsException"
  | 2 => "java/lang/IllegalArgumentException"
  | 3 => "java/util/NoSuchElementException"
  | 4 => "java/lang/IllegalStateException"
  | _ => "java/lang/ArithmeticException"
/-- the literals of the law -/
def ch_lit6 : List (String × List Int32 × Nat) := [("c0@", [99, 48, 64], 232), (";r1", [59, 114, 49], 240), ("t;h1:", [116, 59, 104, 49, 58], 246), ("q", [113], 269), ("t;t;s9", [116, 59, 116, 59, 115, 57], 274), ("t;g1>1*1", [116, 59, 103, 49, 62, 49, 42, 49], 276)]
/-- the rows of digits: ones, tens -/
def ch_dig (i j : Nat) : Int32 := if i = 0 then nI (48 + j % 10) else nI (48 + j / 10)
/-- texts, rows of digits and statics that stand fixed -/
def ch_SW (g : ch_G) (U : State) : Prop :=
  ((∃ more, ch_tx g = ch_lit6.map (fun x => x.2.1) ++ more) ∧ ∀ i x, ch_lit6[i]? = some x → vk_R "ChalkWarrantsLaw" x.2.2 x.1 (ch_xa g (12, i, 0)) U) ∧
  vk_S (ch_tx g).length ((ch_tx g).map List.length) (ch_tx g) (fun i => ch_xa g (12, i, 0)) (fun i => ch_xa g (13, i, 0)) (fun q => ¬ ch_fx g q) U (ch_H0 g) ∧
  va_Z "java/lang/String" "COMPACT_STRINGS" "Z" (.int 1) (fun q => ¬ ch_fx g q) U (ch_H0 g) ∧
  (va_Z "java/lang/Integer" "DigitOnes" "[B" (.ref (ch_xa g (15, 0, 0))) (fun q => ¬ ch_fx g q) U (ch_H0 g) ∧ va_Z "java/lang/Integer" "DigitTens" "[B" (.ref (ch_xa g (15, 1, 0))) (fun q => ¬ ch_fx g q) U (ch_H0 g)) ∧
  (va_Z "jdk/internal/util/Preconditions" "SIOOBE_FORMATTER" "Ljava/util/function/BiFunction;" (ch_sv g) (fun q => ¬ ch_fx g q) U (ch_H0 g) ∧ (ch_sv g).category = 1) ∧
  ∀ i, i < 2 → va_T .byte (ch_xa g (15, i, 0)) 100 (fun j => .int (ch_dig i j)) (fun q => ¬ ch_fx g q) U (ch_H0 g)
theorem ch_SW.warm {g : ch_G} {s U : State} (hW : s.WarmedH U.vm) (h : ch_SW g s) : ch_SW g U := ⟨⟨h.1.1, fun i x hx => (h.1.2 i x hx).warm hW⟩, h.2.1.moved hW.alike, h.2.2.1.moved hW.alike, ⟨h.2.2.2.1.1.moved hW.alike, h.2.2.2.1.2.moved hW.alike⟩, ⟨h.2.2.2.2.1.1.moved hW.alike, h.2.2.2.2.1.2⟩, fun i hi => va_T.moved hW.alike (h.2.2.2.2.2 i hi)⟩
theorem ch_SW.same {g : ch_G} {s U : State} (hv : U.vm = s.vm) (h : ch_SW g s) : ch_SW g U := by
  have ha : s.vm.Alike U.vm := by rw [hv]; exact Vm.Alike.refl s.vm
  exact ⟨⟨h.1.1, fun i x hx => (h.1.2 i x hx).same hv⟩, h.2.1.moved ha, h.2.2.1.moved ha, ⟨h.2.2.2.1.1.moved ha, h.2.2.2.1.2.moved ha⟩, ⟨h.2.2.2.2.1.1.moved ha, h.2.2.2.2.1.2⟩, fun i hi => va_T.moved ha (h.2.2.2.2.2 i hi)⟩
/-- what the tables of a state say -/
def ch_WV (g : ch_G) (U : State) : Prop :=
  va_K (ch_dC g, ch_dI g) ch_cls (ch_tys g) U ∧ (∀ w ∈ ch_oth, va_Nw w U) ∧ (∀ i j, i < 6 → j < 6 → i ≠ j → va_Nc (ch_xn i) (ch_xn j) U) ∧
  vx_Zq Bundle.tN "UNASSIGNED_STACK" Bundle.steD (ch_A g) U (ch_H0 g) ∧ vx_Zq Bundle.tN "SUPPRESSED_SENTINEL" Bundle.listD (ch_A g) U (ch_H0 g) ∧
  va_X (ch_scr g).1 (ch_scr g).2.1 (ch_scr g).2.2 U (ch_H0 g) ∧ ch_fx g (ch_scr g).1 ∧ (ch_scr g).2.1 < 2 ^ 31 ∧ ch_SW g U ∧ va_AO "ChalkWarrants$Yard" U
theorem ch_oth_warm {w : Cond} {s U : State} (hw : w ∈ ch_oth) (hW : s.WarmedH U.vm) (h : va_Nw w s) : va_Nw w U := by
  have h1 : ch_isO w = true := (List.mem_filter.mp hw).2
  cases w with
  | fieldLinkNest => exact va_Nw.warmF hW h
  | methodLinkNest => exact va_Nw.warmM hW h
  | castable => exact va_Nw.warmC hW h
  | declares => exact va_Nw.warmD hW h
  | privateMethod => exact va_tabs rfl (rfl : (s.setVm U.vm).vm = U.vm) (by rw [Cond.privateMethod_setVm hW.alike]; exact h)
  | _ => cases h1
theorem ch_X_moved {b L : Nat} {xs : Nat → Int32} {s U : State} {H : Heap} (hvm : s.vm.Alike U.vm) (h : va_X b L xs s H) : va_X b L xs U H := by
  obtain ⟨scr, h1, h2, h3, h4, h5⟩ := h
  exact ⟨scr, h1, State.isArrayOf_alike hvm h2, h3, h4, h5⟩
theorem ch_WV.warm {g : ch_G} {s U : State} (hW : s.WarmedH U.vm) (h : ch_WV g s) : ch_WV g U := by
  obtain ⟨h1, h2, h3, h4, h5, h6, h7, h8, h9, h10⟩ := h
  exact ⟨va_K.moved hW.alike h1, fun w hw => ch_oth_warm hw hW (h2 w hw), fun i j a b c => (h3 i j a b c).moved hW.alike, vx_Zq.moved hW.alike h4, vx_Zq.moved hW.alike h5, ch_X_moved hW.alike h6, h7, h8, h9.warm hW, va_AO.moved hW.alike h10⟩
