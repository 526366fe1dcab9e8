/-- the words that stay good wherever the tables grow warmer -/
def ch_good : List Cond := lw_tbl.filter goodWord
/-- words that the tables alone decide, and that stay, of other kinds -/
def ch_isO : Cond → Bool
  | .fieldLinkNest .. => true
  | .methodLinkNest .. => true
  | .castable .. => true
  | .declares .. => true
  | .privateMethod .. => true
  | _ => false
def ch_oth : List Cond := tables_1.filter ch_isO
theorem ch_wg {w : Cond} (i : Nat) (h : tables_1[i]? = some w) (g : goodWord w = true) : w ∈ ch_good := List.mem_filter.mpr ⟨List.mem_append_right _ (List.mem_of_getElem? h), g⟩
theorem ch_wp {q : MethodName × Nat} (i : Nat) (h : lw_privs[i]? = some q) (g : goodWord (Cond.selects q.1.cls q.1 q.1) = true) : Cond.selects q.1.cls q.1 q.1 ∈ ch_good := List.mem_filter.mpr ⟨List.mem_append_left _ (List.mem_map.mpr ⟨q, List.mem_of_getElem? h, rfl⟩), g⟩
theorem ch_ow {w : Cond} (i : Nat) (h : tables_1[i]? = some w) (g : ch_isO w = true) : w ∈ ch_oth := List.mem_filter.mpr ⟨List.mem_of_getElem? h, g⟩
theorem ch_ri {ws : List Cond} (ps : List Nat) (hp : ws = ps.filterMap (fun i => tables_1[i]?)) (g : ws.all goodWord = true) : ∀ w ∈ ws, w ∈ ch_good := by
  intro w hw
  have h1 := List.all_eq_true.mp g w hw
  rw [hp] at hw
  obtain ⟨i, -, hi⟩ := List.mem_filterMap.mp hw
  exact ch_wg i hi h1
def ch_R0 : String := "ChalkWarrants"
def ch_F0 : u_T := fun k => match k with
  | 0 => ("ChalkWarrants", "yard", "LChalkWarrants$Yard;", true)
  | 1 => ("ChalkWarrants", "before", "LChalkWarrants$Yard;", true)
  | 2 => ("ChalkWarrants", "trial", "LChalkWarrants$Yard;", true)
  | 3 => ("ChalkWarrants", "snapshot", "LChalkWarrants$Yard;", true)
  | 4 => ("ChalkWarrants", "past", "LChalkWarrants$Past;", true)
  | 5 => ("ChalkWarrants", "reasons", "LChalkWarrants$Reasons;", true)
  | 6 => ("ChalkWarrants", "command", "LChalkWarrants$Command;", true)
  | 7 => ("ChalkWarrants", "text", "LChalkWarrants$Signs;", true)
  | 8 => ("ChalkWarrants", "reader", "LChalkWarrants$Reader;", true)
  | 9 => ("ChalkWarrants", "written", "LChalkWarrants$Signs;", true)
  | 10 => ("ChalkWarrants", "ways", "LChalkWarrants$Ways;", true)
  | 11 => ("ChalkWarrants", "told", "LChalkWarrants$Steps;", true)
  | 12 => ("ChalkWarrants", "isSaved", "Z", false)
  | _ => ("ChalkWarrants", "fault", "I", false)
def ch_T0 : Nat → FieldType := fun k => match k with
  | 0 => .object "ChalkWarrants$Yard"
  | 1 => .object "ChalkWarrants$Yard"
  | 2 => .object "ChalkWarrants$Yard"
  | 3 => .object "ChalkWarrants$Yard"
  | 4 => .object "ChalkWarrants$Past"
  | 5 => .object "ChalkWarrants$Reasons"
  | 6 => .object "ChalkWarrants$Command"
  | 7 => .object "ChalkWarrants$Signs"
  | 8 => .object "ChalkWarrants$Reader"
  | 9 => .object "ChalkWarrants$Signs"
  | 10 => .object "ChalkWarrants$Ways"
  | 11 => .object "ChalkWarrants$Steps"
  | 12 => .boolean
  | _ => .int
def ch_R1 : String := "ChalkWarrants$Yard"
def ch_F1 : u_T := fun k => match k with
  | 0 => ("ChalkWarrants$Yard", "owners", "[I", true)
  | 1 => ("ChalkWarrants$Yard", "chalks", "[I", true)
  | 2 => ("ChalkWarrants$Yard", "pebbles", "[I", true)
  | 3 => ("ChalkWarrants$Yard", "treads", "[I", true)
  | 4 => ("ChalkWarrants$Yard", "warrantChalks", "[I", true)
  | 5 => ("ChalkWarrants$Yard", "hops", "[I", true)
  | 6 => ("ChalkWarrants$Yard", "trodden", "[I", true)
  | 7 => ("ChalkWarrants$Yard", "order", "[I", true)
  | 8 => ("ChalkWarrants$Yard", "children", "I", false)
  | 9 => ("ChalkWarrants$Yard", "standing", "I", false)
  | 10 => ("ChalkWarrants$Yard", "chest", "I", false)
  | 11 => ("ChalkWarrants$Yard", "brought", "I", false)
  | 12 => ("ChalkWarrants$Yard", "allTreads", "I", false)
  | 13 => ("ChalkWarrants$Yard", "written", "I", false)
  | 14 => ("ChalkWarrants$Yard", "washed", "I", false)
  | 15 => ("ChalkWarrants$Yard", "repossessed", "I", false)
  | _ => ("ChalkWarrants$Yard", "terms", "I", false)
def ch_T1 : Nat → FieldType := fun k => match k with
  | 0 => .array .int
  | 1 => .array .int
  | 2 => .array .int
  | 3 => .array .int
  | 4 => .array .int
  | 5 => .array .int
  | 6 => .array .int
  | 7 => .array .int
  | 8 => .int
  | 9 => .int
  | 10 => .int
  | 11 => .int
  | 12 => .int
  | 13 => .int
  | 14 => .int
  | 15 => .int
  | _ => .int
def ch_R2 : String := "ChalkWarrants$Past"
def ch_F2 : u_T := fun k => match k with
  | 0 => ("ChalkWarrants$Past", "ring", "[LChalkWarrants$Yard;", true)
  | 1 => ("ChalkWarrants$Past", "newest", "I", false)
  | _ => ("ChalkWarrants$Past", "count", "I", false)
def ch_T2 : Nat → FieldType := fun k => match k with
  | 0 => .array (.object "ChalkWarrants$Yard")
  | 1 => .int
  | _ => .int
def ch_R3 : String := "ChalkWarrants$Reasons"
def ch_F3 : u_T := fun k => match k with
  | 0 => ("ChalkWarrants$Reasons", "number", "I", false)
  | 1 => ("ChalkWarrants$Reasons", "detail", "I", false)
  | _ => ("ChalkWarrants$Reasons", "command", "I", false)
def ch_T3 : Nat → FieldType := fun k => match k with
  | 0 => .int
  | 1 => .int
  | _ => .int
def ch_R4 : String := "ChalkWarrants$Command"
def ch_F4 : u_T := fun k => match k with
  | 0 => ("ChalkWarrants$Command", "steps", "LChalkWarrants$Steps;", true)
  | 1 => ("ChalkWarrants$Command", "kind", "I", false)
  | 2 => ("ChalkWarrants$Command", "child", "I", false)
  | 3 => ("ChalkWarrants$Command", "other", "I", false)
  | _ => ("ChalkWarrants$Command", "number", "I", false)
def ch_T4 : Nat → FieldType := fun k => match k with
  | 0 => .object "ChalkWarrants$Steps"
  | 1 => .int
  | 2 => .int
  | 3 => .int
  | _ => .int
def ch_R5 : String := "ChalkWarrants$Steps"
def ch_F5 : u_T := fun k => match k with
  | 0 => ("ChalkWarrants$Steps", "row", "[I", true)
  | _ => ("ChalkWarrants$Steps", "count", "I", false)
def ch_T5 : Nat → FieldType := fun k => match k with
  | 0 => .array .int
  | _ => .int
def ch_R6 : String := "ChalkWarrants$Signs"
def ch_F6 : u_T := fun k => match k with
  | 0 => ("ChalkWarrants$Signs", "row", "[C", true)
  | _ => ("ChalkWarrants$Signs", "length", "I", false)
def ch_T6 : Nat → FieldType := fun k => match k with
  | 0 => .array .char
  | _ => .int
def ch_R7 : String := "ChalkWarrants$Reader"
def ch_F7 : u_T := fun k => match k with
  | _ => ("ChalkWarrants$Reader", "place", "I", false)
def ch_T7 : Nat → FieldType := fun k => match k with
  | _ => .int
def ch_R8 : String := "ChalkWarrants$Ways"
def ch_F8 : u_T := fun k => match k with
  | 0 => ("ChalkWarrants$Ways", "treads", "[I", true)
  | 1 => ("ChalkWarrants$Ways", "counts", "[I", true)
  | _ => ("ChalkWarrants$Ways", "steps", "[I", true)
def ch_T8 : Nat → FieldType := fun k => match k with
  | 0 => .array .int
  | 1 => .array .int
  | _ => .array .int
def ch_R9 : String := "java/lang/StringBuilder"
def ch_F9 : u_T := fun k => match k with
  | 0 => ("java/lang/AbstractStringBuilder", "value", "[B", false)
  | 1 => ("java/lang/AbstractStringBuilder", "coder", "B", false)
  | 2 => ("java/lang/AbstractStringBuilder", "maybeLatin1", "Z", false)
  | _ => ("java/lang/AbstractStringBuilder", "count", "I", false)
def ch_T9 : Nat → FieldType := fun k => match k with
  | 0 => .array .byte
  | 1 => .byte
  | 2 => .boolean
  | _ => .int
def ch_R10 : String := "java/lang/String"
def ch_F10 : u_T := fun k => match k with
  | 0 => ("java/lang/String", "value", "[B", true)
  | 1 => ("java/lang/String", "coder", "B", true)
  | 2 => ("java/lang/String", "hash", "I", false)
  | _ => ("java/lang/String", "hashIsZero", "Z", false)
def ch_T10 : Nat → FieldType := fun k => match k with
  | 0 => .array .byte
  | 1 => .byte
  | 2 => .int
  | _ => .boolean
abbrev ch_cls : List vw_C := [(ch_R0, ch_F0, 14), (ch_R1, ch_F1, 17), (ch_R2, ch_F2, 3), (ch_R3, ch_F3, 3), (ch_R4, ch_F4, 5), (ch_R5, ch_F5, 2), (ch_R6, ch_F6, 2), (ch_R7, ch_F7, 1), (ch_R8, ch_F8, 3), (ch_R9, ch_F9, 4), (ch_R10, ch_F10, 4)]
def ch_Cl (ci : Nat) (C : String) (T : u_T) (N : Nat) : Prop := ch_cls[ci]? = some (C, T, N) ∧ (∀ w ∈ u_ws C T N, w ∈ ch_good) ∧ (∃ ty : Nat → FieldType, ∀ k, k < N → parseFieldDescriptor (T k).2.2.1 = some (ty k)) ∧ ∀ a, a < N → ∀ b, b < N → a ≠ b → (T a).2.1 ≠ (T b).2.1
theorem ch_Cl0 : ch_Cl 0 ch_R0 ch_F0 14 := ⟨rfl, ch_ri [281, 283, 285, 287, 289, 291, 293, 295, 297, 299, 301, 303, 305, 307] (by decide +kernel) (by decide +kernel), ⟨ch_T0, by decide +kernel⟩, by decide +kernel⟩
theorem ch_Cl1 : ch_Cl 1 ch_R1 ch_F1 17 := ⟨rfl, ch_ri [88, 90, 92, 94, 96, 98, 100, 102, 104, 106, 108, 110, 112, 114, 116, 118, 120] (by decide +kernel) (by decide +kernel), ⟨ch_T1, by decide +kernel⟩, by decide +kernel⟩
theorem ch_Cl2 : ch_Cl 2 ch_R2 ch_F2 3 := ⟨rfl, ch_ri [137, 139, 141] (by decide +kernel) (by decide +kernel), ⟨ch_T2, by decide +kernel⟩, by decide +kernel⟩
theorem ch_Cl3 : ch_Cl 3 ch_R3 ch_F3 3 := ⟨rfl, ch_ri [156, 158, 160] (by decide +kernel) (by decide +kernel), ⟨ch_T3, by decide +kernel⟩, by decide +kernel⟩
theorem ch_Cl4 : ch_Cl 4 ch_R4 ch_F4 5 := ⟨rfl, ch_ri [209, 211, 213, 215, 217] (by decide +kernel) (by decide +kernel), ⟨ch_T4, by decide +kernel⟩, by decide +kernel⟩
theorem ch_Cl5 : ch_Cl 5 ch_R5 ch_F5 2 := ⟨rfl, ch_ri [184, 186] (by decide +kernel) (by decide +kernel), ⟨ch_T5, by decide +kernel⟩, by decide +kernel⟩
theorem ch_Cl6 : ch_Cl 6 ch_R6 ch_F6 2 := ⟨rfl, ch_ri [232, 234] (by decide +kernel) (by decide +kernel), ⟨ch_T6, by decide +kernel⟩, by decide +kernel⟩
theorem ch_Cl7 : ch_Cl 7 ch_R7 ch_F7 1 := ⟨rfl, ch_ri [246] (by decide +kernel) (by decide +kernel), ⟨ch_T7, by decide +kernel⟩, by decide +kernel⟩
theorem ch_Cl8 : ch_Cl 8 ch_R8 ch_F8 3 := ⟨rfl, ch_ri [258, 260, 262] (by decide +kernel) (by decide +kernel), ⟨ch_T8, by decide +kernel⟩, by decide +kernel⟩
theorem ch_Cl9 : ch_Cl 9 ch_R9 ch_F9 4 := ⟨rfl, ch_ri [1067, 1069, 1071, 1073] (by decide +kernel) (by decide +kernel), ⟨ch_T9, by decide +kernel⟩, by decide +kernel⟩
theorem ch_Cl10 : ch_Cl 10 ch_R10 ch_F10 4 := ⟨rfl, ch_ri [594, 596, 1278, 1280] (by decide +kernel) (by decide +kernel), ⟨ch_T10, by decide +kernel⟩, by decide +kernel⟩
