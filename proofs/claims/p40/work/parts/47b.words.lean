abbrev lw_F : List Cond := flatC (Jvm.Cond.and given_1 narrow_1)
def lw_ix (i : Nat) : Nat := [232, 240, 246, 269, 274, 276].getD i 0
def lw_tm (i : Nat) : Term := Term.string "ChalkWarrantsLaw" (lw_ix i)
def lw_ln : List Nat := [3, 3, 5, 1, 6, 8]
def lw_tx : List (List Int32) := ch_lit6.map (fun x => x.2.1)
def lw_on : Term := .static "java/lang/Integer" "DigitOnes" "[B"
def lw_tn : Term := .static "java/lang/Integer" "DigitTens" "[B"
theorem lw_m1 : ∀ i, i < 6 → Cond.exactly (lw_tm i) "java/lang/String" ∈ lw_F := by decide +kernel
theorem lw_m2 : ∀ i, i < 6 → Cond.eq (.field (lw_tm i) "java/lang/String" "coder" "B") (.int 0) ∈ lw_F := by decide +kernel
theorem lw_m3 : ∀ i, i < 6 → Cond.arrayOf (.field (lw_tm i) "java/lang/String" "value" "[B") .byte ∈ lw_F := by decide +kernel
theorem lw_m4 : ∀ i, i < 6 → Cond.eq (.length (.field (lw_tm i) "java/lang/String" "value" "[B")) (.int (Int32.ofNat (lw_ln.getD i 0))) ∈ lw_F := by decide +kernel
theorem lw_m5 : ∀ i, i < 6 → ∀ j, j < lw_ln.getD i 0 → Cond.eq (.elem (.field (lw_tm i) "java/lang/String" "value" "[B") (.int (Int32.ofNat j))) (.int ((lw_tx.getD i []).getD j 0)) ∈ lw_F := by decide +kernel
theorem lw_m6 : ∀ i, i < 6 → ∀ j, j < 6 → i ≠ j → Cond.not (Cond.eq (lw_tm i) (lw_tm j)) ∈ lw_F ∨ Cond.not (Cond.eq (lw_tm j) (lw_tm i)) ∈ lw_F := by decide +kernel
/-- a place of a row of digits, and what it holds -/
def lw_dg (nm : String) (w : Cond) : Option (Int32 × Int32) := match w with
  | .eq (.elem (.static c n d) (.int i)) (.int v) => if c = "java/lang/Integer" ∧ n = nm ∧ d = "[B" then some (i, v) else none
  | _ => none
theorem lw_dg_inv {nm : String} {w : Cond} {i v : Int32} (h : lw_dg nm w = some (i, v)) : w = .eq (.elem (.static "java/lang/Integer" nm "[B") (.int i)) (.int v) := by
  unfold lw_dg at h
  split at h
  · split at h
    · rename_i hc
      obtain ⟨h1, h2, h3⟩ := hc
      subst h1
      subst h2
      subst h3
      cases h
      rfl
    · cases h
  · cases h
theorem lw_on_all : lw_F.filterMap (lw_dg "DigitOnes") = (List.range 100).map (fun j => (Int32.ofNat j, ch_dig 0 j)) := by decide +kernel
theorem lw_tn_all : lw_F.filterMap (lw_dg "DigitTens") = (List.range 100).map (fun j => (Int32.ofNat j, ch_dig 1 j)) := by decide +kernel
theorem lw_m7 (j : Nat) (hj : j < 100) : Cond.eq (.elem lw_on (.int (Int32.ofNat j))) (.int (ch_dig 0 j)) ∈ lw_F := by
  have h : (Int32.ofNat j, ch_dig 0 j) ∈ lw_F.filterMap (lw_dg "DigitOnes") := by
    rw [lw_on_all]
    exact List.mem_map.mpr ⟨j, List.mem_range.mpr hj, rfl⟩
  obtain ⟨w, h1, h2⟩ := List.mem_filterMap.mp h
  rw [lw_dg_inv h2] at h1
  exact h1
theorem lw_m8 (j : Nat) (hj : j < 100) : Cond.eq (.elem lw_tn (.int (Int32.ofNat j))) (.int (ch_dig 1 j)) ∈ lw_F := by
  have h : (Int32.ofNat j, ch_dig 1 j) ∈ lw_F.filterMap (lw_dg "DigitTens") := by
    rw [lw_tn_all]
    exact List.mem_map.mpr ⟨j, List.mem_range.mpr hj, rfl⟩
  obtain ⟨w, h1, h2⟩ := List.mem_filterMap.mp h
  rw [lw_dg_inv h2] at h1
  exact h1
theorem lw_m9 : Cond.arrayOf lw_on .byte ∈ lw_F ∧ Cond.eq (.length lw_on) (.int (Int32.ofNat 100)) ∈ lw_F ∧ Cond.arrayOf lw_tn .byte ∈ lw_F ∧ Cond.eq (.length lw_tn) (.int (Int32.ofNat 100)) ∈ lw_F := by decide +kernel
theorem lw_m10 : Cond.eq (.static "java/lang/String" "COMPACT_STRINGS" "Z") (.int 1) ∈ lw_F ∧ Cond.isRef (.static "jdk/internal/util/Preconditions" "SIOOBE_FORMATTER" "Ljava/util/function/BiFunction;") ∈ lw_F ∧ Cond.isRef (.static "java/lang/Throwable" "UNASSIGNED_STACK" "[Ljava/lang/StackTraceElement;") ∈ lw_F ∧ Cond.isRef (.static "java/lang/Throwable" "SUPPRESSED_SENTINEL" "Ljava/util/List;") ∈ lw_F := by decide +kernel
theorem lw_m11 : ∀ i, i < 6 → ∀ j, j < 6 → i ≠ j → Cond.not (.castable (ch_xn i) (ch_xn j)) ∈ lw_F := by decide +kernel
theorem lw_m12 : ∀ i, i < 6 → Cond.stringRef "ChalkWarrantsLaw" (ch_lit6.getD i ("", [], 0)).2.2 (ch_lit6.getD i ("", [], 0)).1 ∈ tables_1 ∧ (ch_lit6.getD i ("", [], 0)).2.2 = lw_ix i := by decide +kernel
