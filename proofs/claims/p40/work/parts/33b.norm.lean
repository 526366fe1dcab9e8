/-! cells that stand for nothing may be taken as 0 -/
def ch_nf (ci : Nat) : Nat := match ch_cls[ci]? with
  | some r => r.2.2
  | none => 0
def ch_nl (ci c : Nat) : Nat := if (ch_ak ci c).1 = 2 then 2 * (ch_ak ci c).2 else (ch_ak ci c).2
/-- does the world hold this cell -/
def ch_rl (a : ch_Ad) (k : Nat) : Bool := match a.2.2 with
  | 0 => decide (k < ch_nf a.1) && (ch_rf a.1 k a.2.1).isNone
  | c + 1 => decide (k < ch_nl a.1 (c + 1)) && (!decide (a.1 = 1) || decide (c + 1 < 9))
theorem ch_rl_0 {ci j k : Nat} : ch_rl (ci, j, 0) k = (decide (k < ch_nf ci) && (ch_rf ci k j).isNone) := rfl
theorem ch_rl_s {ci j c k : Nat} : ch_rl (ci, j, c + 1) k = (decide (k < ch_nl ci (c + 1)) && (!decide (ci = 1) || decide (c + 1 < 9))) := rfl
def ch_nz (m : ch_M) : ch_M := fun a k => if ch_rl a k = true then m a k else 0
theorem ch_nz_at {m : ch_M} {a : ch_Ad} {k : Nat} (h : ch_rl a k = true) : ch_nz m a k = m a k := if_pos h
/-- the same, as far as the world holds it -/
def ch_rq (m m' : ch_M) : Prop := ∀ a k, ch_rl a k = true → m' a k = m a k
theorem ch_nz_rq (m : ch_M) : ch_rq m (ch_nz m) := fun _ _ h => ch_nz_at h
theorem ch_Rp_rq {g : ch_G} {m m' : ch_M} {H : Heap} (h : ch_Rp g m H) (e : ch_rq m m') : ch_Rp g m' H := by
  refine ⟨h.1, h.2.1, fun a ha => ?_, h.2.2.2⟩
  have hc := h.2.2.1 a ha
  obtain ⟨ci, j, c⟩ := a
  cases c with
  | zero =>
    obtain ⟨r, hr, hob⟩ := hc
    refine ⟨r, hr, hob.to (fun k hk => ?_)⟩
    unfold ch_gv
    cases hf : ch_rf ci k j with
    | some b => rfl
    | none =>
      have e1 : ch_nf ci = r.2.2 := by unfold ch_nf; rw [hr]
      have : ch_rl (ci, j, 0) k = true := by
        rw [ch_rl_0, e1, hf]
        simp [hk]
      show ch_tr g (.inl (.int (m (ci, j, 0) k))) = ch_tr g (.inl (.int (m' (ci, j, 0) k)))
      rw [e _ _ this]
  | succ c =>
    have hc : H[ch_adr g (ci, j, c + 1)]? = some (arrV (ch_cA g (ch_ak ci (c + 1)).1) (ch_ak ci (c + 1)).2 (fun k => ch_ev g m (ci, j, c + 1) (ch_ak ci (c + 1)).1 k)) := hc
    show H[ch_adr g (ci, j, c + 1)]? = _
    rw [hc]
    have r1 : ∀ i, i < ch_nl ci (c + 1) → m' (ci, j, c + 1) i = m (ci, j, c + 1) i := fun i hi => e _ _ (by
      rw [ch_rl_s]
      have h9 : ci = 1 → c + 1 < 9 := fun z => by
        rcases ha with ha | ha
        · have := ha.2.2
          rw [z] at this
          exact this
        · rcases h.2.2.2.2.2.2 _ ha with e' | e'
          · have e' : ci = 9 := e'
            omega
          · have e' : ci = 14 := e'
            omega
      by_cases z : ci = 1
      · rw [decide_eq_true hi, decide_eq_true (h9 z)]
        simp
      · rw [decide_eq_true hi, decide_eq_false z]
        rfl)
    unfold ch_nl at r1
    generalize ch_ak ci (c + 1) = z at r1
    obtain ⟨t, n⟩ := z
    dsimp only at r1 ⊢
    have key : ∀ k, k < n → ch_ev g m (ci, j, c + 1) t k = ch_ev g m' (ci, j, c + 1) t k := fun k hk => by
      by_cases h2 : t = 2
      · subst h2
        rw [if_pos rfl] at r1
        show Value.long (ch_lw (m (ci, j, c + 1) (2 * k)) (m (ci, j, c + 1) (2 * k + 1))) = Value.long (ch_lw (m' (ci, j, c + 1) (2 * k)) (m' (ci, j, c + 1) (2 * k + 1)))
        rw [r1 (2 * k) (by omega), r1 (2 * k + 1) (by omega)]
      · rw [if_neg h2] at r1
        have r2 := r1 k hk
        unfold ch_ev
        split
        · rw [r2]
        · rw [r2]
        · exact absurd rfl h2
        · rfl
        · rfl
        · rw [r2]
    rw [arrV_cong key]
theorem ch_rq_sym {m m' : ch_M} (h : ch_rq m m') : ch_rq m' m := fun a k e => (h a k e).symm
theorem ch_C_rq {g : ch_G} {f : ch_MI} {as : List ch_V} {m m' : ch_M} {Q : ch_O → ch_M → Prop} (e : ch_rq m m') (h : ch_C g f as m' Q) : ch_C g f as m Q := by
  intro htr hok p e' ha hfr hk s mm args below hfr2 happ hP hK
  exact h htr hok p e' ha hfr hk s mm args below hfr2 happ ⟨hP.1, hP.2.1, ch_Rp_rq hP.2.2.1 e, hP.2.2.2⟩ hK
theorem ch_J_rq {g : ch_G} {f : ch_MI} {R : Room} {E : ch_En} {pc : Nat} {ls : ch_LT} {st : List ch_V} {m m' : ch_M} {k : Nat} (e : ch_rq m m') (h : ch_J g f R E pc ls st m' k) : ch_J g f R E pc ls st m k :=
  fun p e' s mm args below meth c H locs lm hF hR hS ho hs hL => h p e' s mm args below meth c H locs lm hF (ch_Rp_rq hR e) hS ho hs hL
/-- a yard without what stands for nothing -/
def y_can (Y : ch_B) : ch_B := fun a k => if ch_rl (1, 0, a) k = true then Y a k else 0
theorem ch_rf_1 (k j : Nat) : ch_rf 1 k j = if k < 8 then some (1, j, k + 1) else none := rfl
theorem ch_rl_1 (j c k : Nat) : ch_rl (1, j, c) k = ch_rl (1, 0, c) k := by
  cases c with
  | zero =>
    rw [ch_rl_0, ch_rl_0, ch_rf_1, ch_rf_1]
    by_cases h : k < 8
    · rw [if_pos h, if_pos h]; rfl
    · rw [if_neg h, if_neg h]
  | succ c => rfl
theorem ch_nz_ob (m : ch_M) (j : Nat) : ch_ob (ch_nz m) 1 j = y_can (ch_ob m 1 j) := by
  funext c k
  unfold ch_ob ch_nz y_can
  rw [ch_rl_1]
theorem y_rl {c k : Nat} : ch_rl (1, 0, c) k = true ↔ (c = 0 ∧ 8 ≤ k ∧ k ≤ 16) ∨ ((c = 1 ∨ c = 2) ∧ k < 12) ∨ (3 ≤ c ∧ c ≤ 8 ∧ k < 5) := by
  match c with
  | 0 =>
    have e : ch_nf 1 = 17 := rfl
    rw [ch_rl_0, ch_rf_1, e]
    by_cases h : k < 8
    · rw [if_pos h]
      simp
      omega
    · rw [if_neg h]
      simp
      omega
  | 1 =>
    have e : ch_nl 1 1 = 12 := rfl
    rw [ch_rl_s, e]
    simp
  | 2 =>
    have e : ch_nl 1 2 = 12 := rfl
    rw [ch_rl_s, e]
    simp
  | c + 3 =>
    have e : ch_nl 1 (c + 2 + 1) = 5 := by
      unfold ch_nl
      have : ch_ak 1 (c + 2 + 1) = (0, if c + 2 + 1 < 3 then 12 else 5) := rfl
      rw [this, if_neg (show ¬ c + 2 + 1 < 3 by omega)]
      rfl
    rw [ch_rl_s, e]
    simp
    omega
theorem y_can_idem (Y : ch_B) : y_can (y_can Y) = y_can Y := by
  funext c k
  unfold y_can
  split <;> rfl
/-- two yards with the same cells -/
def y_sm (Y Z : ch_B) : Prop := ∀ c k, ch_rl (1, 0, c) k = true → Z c k = Y c k
theorem y_sm_refl (Y : ch_B) : y_sm Y Y := fun _ _ _ => rfl
theorem y_sm_tr {X Y Z : ch_B} (h : y_sm X Y) (h' : y_sm Y Z) : y_sm X Z := fun c k e => (h' c k e).trans (h c k e)
theorem y_sm_sym {X Y : ch_B} (h : y_sm X Y) : y_sm Y X := fun c k e => (h c k e).symm
theorem y_cp_sm (Y Z : ch_B) : y_sm Y (y_cp Y Z) := fun c k e => by
  unfold y_cp
  rw [if_pos (y_rl.mp e)]
theorem y_inv_sm {T : Nat} {Y Z : ch_B} (h : y_inv T Y) (e : y_sm Y Z) : y_inv T Z :=
  y_inv_cg h (fun k h1 h2 => e 0 k (y_rl.mpr (Or.inl ⟨rfl, h1, by omega⟩))) (fun a k h1 h2 h3 => e a k (y_rl.mpr (Or.inr (Or.inl ⟨by omega, h3⟩)))) (fun a k h1 h2 h3 => e a k (y_rl.mpr (Or.inr (Or.inr ⟨h1, h2, h3⟩))))
theorem y_can_sm {Y Z : ch_B} (h : y_sm Y Z) : y_can Z = y_can Y := by
  funext c k
  unfold y_can
  by_cases e : ch_rl (1, 0, c) k = true
  · rw [if_pos e, if_pos e, h c k e]
  · rw [if_neg e, if_neg e]
theorem y_can_at {Y : ch_B} {c k : Nat} (h : ch_rl (1, 0, c) k = true) : y_can Y c k = Y c k := if_pos h
theorem y_sm_can (Y : ch_B) : y_sm Y (y_can Y) := fun c k e => y_can_at e
theorem y_can_cp (Y Z : ch_B) : y_cp (y_can Y) (y_can Z) = y_can Y := by
  funext c k
  unfold y_cp
  by_cases h : (c = 0 ∧ 8 ≤ k ∧ k ≤ 16) ∨ ((c = 1 ∨ c = 2) ∧ k < 12) ∨ (3 ≤ c ∧ c ≤ 8 ∧ k < 5)
  · rw [if_pos h]
  · rw [if_neg h]
    have e0 : ∀ X : ch_B, y_can X c k = 0 := fun X => if_neg (fun q => h (y_rl.mp q))
    rw [e0, e0]
