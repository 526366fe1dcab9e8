def d_and (r : Bool × ch_M) (k : ch_M → Bool × ch_M) : Bool × ch_M := if r.1 = true then k r.2 else (false, r.2)
def d_tc1 (s : Int32) (m : ch_M) (j : Nat) : Bool × ch_M :=
  if s = 110 then d_tn m j
  else if s = 99 then d_and (d_tk 2 m j) (fun a => d_and (d_ts a j 64) (fun b => d_tn b j))
  else if s = 104 then d_and (d_tk 2 m j) (fun a => d_and (d_ts a j 58) (fun b => d_st b j 0))
  else if s = 114 then d_tk 4 m j
  else if s = 116 then (true, m)
  else if s = 103 then d_and (d_tk 2 m j) (fun a => d_and (d_ts a j 62) (fun b => d_and (d_tk 3 b j) (fun c => d_and (d_ts c j 42) (fun d => d_tn d j))))
  else d_tk 2 m j
def d_tcK (s : Int32) (m : ch_M) : ch_M := ch_os (d_nx m) 4 0 (c_setB (ch_ob (d_nx m) 4 0) s 0 0 0)
def d_kdB (s : Int32) : Bool := decide (s = 99) || decide (s = 103) || decide (s = 104) || decide (s = 110) || decide (s = 114) || decide (s = 115) || decide (s = 116) || decide (s = 119)
theorem d_kdB_iff (s : Int32) : d_kdB s = true ↔ d_kd s := by
  unfold d_kdB d_kd
  simp only [Bool.or_eq_true, decide_eq_true_eq, or_assoc]
def d_tc (m : ch_M) (j : Nat) : Bool × ch_M := if d_kdB (d_sg (ch_ob m 6 j) (m (7, 0, 0) 0)) = true then d_tc1 (d_sg (ch_ob m 6 j) (m (7, 0, 0) 0)) (d_tcK (d_sg (ch_ob m 6 j) (m (7, 0, 0) 0)) m) j else (false, m)
def d_P (q : Int32 → ch_M → Prop) (r : Bool × ch_M) : Prop := (r.1 = true → q 1 r.2) ∧ (¬ r.1 = true → q 0 r.2)
theorem d_and_P (q : Int32 → ch_M → Prop) (r : Bool × ch_M) (k : ch_M → Bool × ch_M) : d_P q (d_and r k) ↔ (r.1 = true → d_P q (k r.2)) ∧ (¬ r.1 = true → q 0 r.2) := by
  unfold d_and
  by_cases h : r.1 = true
  · rw [if_pos h]
    exact ⟨fun z => ⟨fun _ => z, fun w => absurd h w⟩, fun z => z.1 h⟩
  · rw [if_neg h]
    exact ⟨fun z => ⟨fun w => absurd w h, fun _ => z.2 Bool.false_ne_true⟩, fun z => ⟨fun w => absurd w Bool.false_ne_true, fun _ => z.2 h⟩⟩
set_option maxHeartbeats 1600000 in
theorem s_d_takeCommand (g : ch_G) (q : Int32 → ch_M → Prop) (j1 : Nat) (m : ch_M) (h : (((d_tc m j1).1 = true) → q 1 (((d_tc m j1).2))) ∧ ((¬ (d_tc m j1).1 = true) → q 0 (((d_tc m j1).2)))) : ch_C g m_d_takeCommand [.inr (7, 0, 0), .inr (6, j1, 0), .inr (4, 0, 0)] m (ch_oi q) := by
  refine e_d_takeCommand g _ j1 m ?_
  have h : d_P q (d_tc m j1) := h
  unfold d_tc at h
  refine g_d_takeCommand_0 g _ _ _ ?_
  simp only [ch_oi_iff, ch_wr_os, forall_eq]
  refine ⟨fun hk => ?_, fun hk => ?_⟩
  · rw [if_pos ((d_kdB_iff _).mpr hk)] at h
    clear hk
    have e : ch_os (ch_os m 7 0 (ch_bw (ch_ob m 7 0) 0 0 (m (7, 0, 0) 0 + 1))) 4 0 (c_setB (ch_ob (ch_os m 7 0 (ch_bw (ch_ob m 7 0) 0 0 (m (7, 0, 0) 0 + 1))) 4 0) (d_sg (ch_ob m 6 j1) (m (7, 0, 0) 0)) 0 0 0) = d_tcK (d_sg (ch_ob m 6 j1) (m (7, 0, 0) 0)) m := rfl
    rw [e]
    clear e
    generalize d_tcK (d_sg (ch_ob m 6 j1) (m (7, 0, 0) 0)) m = m9 at h ⊢
    generalize d_sg (ch_ob m 6 j1) (m (7, 0, 0) 0) = s at h ⊢
    unfold d_tc1 at h
    have ng : ∀ {x : Int32}, s = x → ∀ y : Int32, x ≠ y → ¬ s = y := fun h y n z => n (h.symm.trans z)
    refine ⟨fun c => ?_, ?_⟩
    · rw [if_neg (ng c 110 (by decide)), if_pos c] at h
      simp only [d_and_P] at h
      exact h
    refine ⟨fun c => ?_, ?_⟩
    · rw [if_neg (ng c 110 (by decide)), if_neg (ng c 99 (by decide)), if_neg (ng c 104 (by decide)), if_neg (ng c 114 (by decide)), if_neg (ng c 116 (by decide)), if_neg (ng c 103 (by decide))] at h
      exact h
    refine ⟨fun c => ?_, ?_⟩
    · rw [if_neg (ng c 110 (by decide)), if_neg (ng c 99 (by decide)), if_neg (ng c 104 (by decide)), if_neg (ng c 114 (by decide)), if_neg (ng c 116 (by decide)), if_neg (ng c 103 (by decide))] at h
      exact h
    refine ⟨fun c => ?_, ?_⟩
    · rw [if_neg (ng c 110 (by decide)), if_neg (ng c 99 (by decide)), if_neg (ng c 104 (by decide)), if_neg (ng c 114 (by decide)), if_neg (ng c 116 (by decide)), if_neg (ng c 103 (by decide))] at h
      exact h
    refine ⟨fun c => ?_, ?_⟩
    · rw [if_neg (ng c 110 (by decide)), if_neg (ng c 99 (by decide)), if_neg (ng c 104 (by decide)), if_neg (ng c 114 (by decide)), if_neg (ng c 116 (by decide)), if_pos c] at h
      simp only [d_and_P] at h
      exact h
    refine ⟨fun c => ?_, ?_⟩
    · rw [if_neg (ng c 110 (by decide)), if_neg (ng c 99 (by decide)), if_pos c] at h
      simp only [d_and_P] at h
      exact h
    refine ⟨fun c => ?_, ?_⟩
    · rw [if_neg (ng c 110 (by decide)), if_neg (ng c 99 (by decide)), if_neg (ng c 104 (by decide)), if_neg (ng c 114 (by decide)), if_neg (ng c 116 (by decide)), if_neg (ng c 103 (by decide))] at h
      exact h
    refine ⟨fun c => ?_, ?_⟩
    · rw [if_neg (ng c 110 (by decide)), if_neg (ng c 99 (by decide)), if_neg (ng c 104 (by decide)), if_neg (ng c 114 (by decide)), if_neg (ng c 116 (by decide)), if_neg (ng c 103 (by decide))] at h
      exact h
    refine ⟨fun c => ?_, ?_⟩
    · rw [if_neg (ng c 110 (by decide)), if_neg (ng c 99 (by decide)), if_neg (ng c 104 (by decide)), if_neg (ng c 114 (by decide)), if_neg (ng c 116 (by decide)), if_neg (ng c 103 (by decide))] at h
      exact h
    refine ⟨fun c => ?_, ?_⟩
    · rw [if_neg (ng c 110 (by decide)), if_neg (ng c 99 (by decide)), if_neg (ng c 104 (by decide)), if_neg (ng c 114 (by decide)), if_neg (ng c 116 (by decide)), if_neg (ng c 103 (by decide))] at h
      exact h
    refine ⟨fun c => ?_, ?_⟩
    · rw [if_neg (ng c 110 (by decide)), if_neg (ng c 99 (by decide)), if_neg (ng c 104 (by decide)), if_neg (ng c 114 (by decide)), if_neg (ng c 116 (by decide)), if_neg (ng c 103 (by decide))] at h
      exact h
    refine ⟨fun c => ?_, ?_⟩
    · rw [if_pos c] at h
      exact h
    refine ⟨fun c => ?_, ?_⟩
    · rw [if_neg (ng c 110 (by decide)), if_neg (ng c 99 (by decide)), if_neg (ng c 104 (by decide)), if_neg (ng c 114 (by decide)), if_neg (ng c 116 (by decide)), if_neg (ng c 103 (by decide))] at h
      exact h
    refine ⟨fun c => ?_, ?_⟩
    · rw [if_neg (ng c 110 (by decide)), if_neg (ng c 99 (by decide)), if_neg (ng c 104 (by decide)), if_neg (ng c 114 (by decide)), if_neg (ng c 116 (by decide)), if_neg (ng c 103 (by decide))] at h
      exact h
    refine ⟨fun c => ?_, ?_⟩
    · rw [if_neg (ng c 110 (by decide)), if_neg (ng c 99 (by decide)), if_neg (ng c 104 (by decide)), if_neg (ng c 114 (by decide)), if_neg (ng c 116 (by decide)), if_neg (ng c 103 (by decide))] at h
      exact h
    refine ⟨fun c => ?_, ?_⟩
    · rw [if_neg (ng c 110 (by decide)), if_neg (ng c 99 (by decide)), if_neg (ng c 104 (by decide)), if_pos c] at h
      exact h
    refine ⟨fun c => ?_, ?_⟩
    · rw [if_neg (ng c 110 (by decide)), if_neg (ng c 99 (by decide)), if_neg (ng c 104 (by decide)), if_neg (ng c 114 (by decide)), if_neg (ng c 116 (by decide)), if_neg (ng c 103 (by decide))] at h
      exact h
    refine ⟨fun c => ?_, ?_⟩
    · rw [if_neg (ng c 110 (by decide)), if_neg (ng c 99 (by decide)), if_neg (ng c 104 (by decide)), if_neg (ng c 114 (by decide)), if_pos c] at h
      exact h.1 rfl
    intro hx
    have nz : ∀ y : Int32, 99 ≤ y.toInt ∧ y.toInt ≤ 116 → ¬ s = y := fun y b z => by rw [z] at hx; omega
    rw [if_neg (nz 110 (by decide)), if_neg (nz 99 (by decide)), if_neg (nz 104 (by decide)), if_neg (nz 114 (by decide)), if_neg (nz 116 (by decide)), if_neg (nz 103 (by decide))] at h
    exact h
  · rw [if_neg (fun z => hk ((d_kdB_iff _).mp z))] at h
    exact h.2 Bool.false_ne_true
