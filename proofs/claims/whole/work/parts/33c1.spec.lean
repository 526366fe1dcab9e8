/-- the least so far of the ways on, by steps less than t -/
def w_pre (e A C : Nat → Nat) (k t x y : Nat) : Prop := (∃ u, 1 ≤ u ∧ u < t ∧ x = e (k + u) + A (k + u) ∧ y = C (k + u) + 1) ∧ ∀ u, 1 ≤ u → u < t → x < e (k + u) + A (k + u) ∨ (x = e (k + u) + A (k + u) ∧ y ≤ C (k + u) + 1)
theorem w_pre4 {e A C S : Nat → Nat} (h : w_sp e A C S) {k x y : Nat} (hk : k < 12) (p : w_pre e A C k 4 x y) : x = A k ∧ y = C k := by
  obtain ⟨⟨s1, s2⟩, -, -, e1, e2, f⟩ := h.2 k hk
  obtain ⟨⟨u, u1, u2, u3, u4⟩, g⟩ := p
  have g1 := g (S k) s1 (by omega)
  have f1 := (f u u1 (by omega)).1
  omega
theorem w_pre_1 {e A C : Nat → Nat} {k : Nat} : w_pre e A C k 2 (e (k + 1) + A (k + 1)) (C (k + 1) + 1) := by
  refine ⟨⟨1, by omega, by omega, rfl, rfl⟩, fun u h1 h2 => ?_⟩
  rw [show u = 1 by omega]
  omega
theorem w_pre_st {e A C : Nat → Nat} {k t x y : Nat} (h : w_pre e A C k t x y) (hc : x < e (k + t) + A (k + t) ∨ (x = e (k + t) + A (k + t) ∧ y ≤ C (k + t) + 1)) : w_pre e A C k (t + 1) x y := by
  obtain ⟨⟨u, u1, u2, u3⟩, g⟩ := h
  refine ⟨⟨u, u1, by omega, u3⟩, fun w h1 h2 => ?_⟩
  by_cases l : w = t
  · rw [l]; exact hc
  · exact g w h1 (by omega)
theorem w_pre_up {e A C : Nat → Nat} {k t x y : Nat} (ht : 1 ≤ t) (h : w_pre e A C k t x y) (hc : e (k + t) + A (k + t) < x ∨ (e (k + t) + A (k + t) = x ∧ C (k + t) + 1 < y)) : w_pre e A C k (t + 1) (e (k + t) + A (k + t)) (C (k + t) + 1) := by
  refine ⟨⟨t, ht, by omega, rfl, rfl⟩, fun w h1 h2 => ?_⟩
  by_cases l : w = t
  · rw [l]; omega
  · have := h.2 w h1 (by omega)
    omega
set_option maxHeartbeats 1600000 in
theorem s_m_looks (g : ch_G) (q : ch_M → Prop) (Y_ : ch_B) (p1 : Int32) (m : ch_M) (h : (m_rel Y_ (m (9, 0, 1))) ∧ (∀ i_, i_ < 12 → Y_ 1 i_ = -1 ∨ vp_in (Y_ 1 i_) 5) ∧ (∀ (B_ : ch_B) (A_ : Nat → Nat) (C_ : Nat → Nat) (S_ : Nat → Nat), (w_sp (w_e Y_ p1) A_ C_ S_) → (∀ a_ i_, a_ ≠ 10 → a_ ≠ 11 → B_ a_ i_ = ch_ob m 9 0 a_ i_) → (∀ k_, k_ < 13 → B_ 10 k_ = nI (A_ k_) ∧ B_ 11 k_ = nI (C_ k_)) → q (ch_os m 9 0 B_))) : ch_C g m_m_looks [.inr (9, 0, 0), .inl (.int p1)] m (ch_ov q) := by
  refine e_m_looks g _ p1 m ?_
  obtain ⟨hr, ho, hq⟩ := h
  obtain ⟨A, C, S, hsp, -⟩ := w_fl_sp (ch_ob m 8 0) Y_ p1
  have b12 : ∀ k, A k ≤ 12 ∧ C k ≤ 12 := fun k => by
    by_cases l : k < 12
    · have := hsp.2 k l
      omega
    · have := hsp.1 k (by omega)
      omega
  have key : ∀ j, j ≤ 12 → ∀ (B' : ch_B) o3 o4 o5, (∀ a i, a ≠ 10 → a ≠ 11 → B' a i = ch_ob m 9 0 a i) → (∀ k, j ≤ k → k ≤ 12 → B' 10 k = nI (A k) ∧ B' 11 k = nI (C k)) → ch_J g m_m_looks (ch_rm m_m_looks) (ch_E g m_m_looks (ch_ov q)) 19 [some (.inr (9, 0, 0)), some (.inl (.int p1)), some (.inl (.int (nI j - 1))), o3, o4, o5] [] (ch_os m 9 0 B') 0 := by
    intro j
    induction j with
    | zero =>
      intro _ B' o3 o4 o5 f0 ht
      refine g_m_looks_19 g _ _ _ _ _ _ _ ?_
      exact ⟨fun _ => ch_ov_iff.mpr (hq B' A C S hsp f0 (fun k hk => ht k (by omega) (by omega))), fun z => absurd (by decide) z⟩
    | succ k ih =>
      intro hk B' o3 o4 o5 f0 ht
      have hk12 : k < 12 := by omega
      have ckk : (nI k).toNatClampNeg = k := nI_clamp (by omega)
      rw [nI_pred]
      refine g_m_looks_19 g _ _ _ _ _ _ _ ?_
      refine ⟨fun z => absurd z (nI_pos (by omega)), fun _ => ⟨vp_in_nI (by omega) (by decide), fun m2 e2 => ?_⟩⟩
      rw [ch_os_wr, ckk] at e2
      subst e2
      have key2 : ∀ t, t ≤ 4 → 1 ≤ t → ∀ (B' : ch_B) o4 o5, (∀ a i, a ≠ 10 → a ≠ 11 → B' a i = ch_ob m 9 0 a i) → (∀ i, k + 1 ≤ i → i ≤ 12 → B' 10 i = nI (A i) ∧ B' 11 i = nI (C i)) → ((t = 1 ∧ B' 10 k = 100) ∨ ∃ x y, x < 50 ∧ y < 50 ∧ B' 10 k = nI x ∧ B' 11 k = nI y ∧ w_pre (w_e Y_ p1) A C k t x y) → ch_J g m_m_looks (ch_rm m_m_looks) (ch_E g m_m_looks (ch_ov q)) 33 [some (.inr (9, 0, 0)), some (.inl (.int p1)), some (.inl (.int (nI k))), some (.inl (.int (nI t))), o4, o5] [] (ch_os m 9 0 B') 0 := by
        refine ch_down (fun t => 1 ≤ t → ∀ (B' : ch_B) o4 o5, (∀ a i, a ≠ 10 → a ≠ 11 → B' a i = ch_ob m 9 0 a i) → (∀ i, k + 1 ≤ i → i ≤ 12 → B' 10 i = nI (A i) ∧ B' 11 i = nI (C i)) → ((t = 1 ∧ B' 10 k = 100) ∨ ∃ x y, x < 50 ∧ y < 50 ∧ B' 10 k = nI x ∧ B' 11 k = nI y ∧ w_pre (w_e Y_ p1) A C k t x y) → ch_J g m_m_looks (ch_rm m_m_looks) (ch_E g m_m_looks (ch_ov q)) 33 [some (.inr (9, 0, 0)), some (.inl (.int p1)), some (.inl (.int (nI k))), some (.inl (.int (nI t))), o4, o5] [] (ch_os m 9 0 B') 0) 4 ?_ ?_
        · intro _ B' o4 o5 f0 ht hx
          refine g_m_looks_33 g _ _ _ _ _ _ _ ?_
          refine ⟨fun _ => ?_, fun z => absurd (by decide) z⟩
          obtain ⟨x, y, -, -, x1, x2, x3⟩ := hx.resolve_left (fun z => absurd z.1 (by decide))
          obtain ⟨rfl, rfl⟩ := w_pre4 hsp hk12 x3
          rw [show (nI k + (-1) : Int32) = nI k - 1 by grind]
          refine ih (by omega) B' _ _ _ f0 (fun i h1 h2 => ?_)
          by_cases e : i = k
          · rw [e]; exact ⟨x1, x2⟩
          · exact ht i (by omega) h2
        · intro t ht4 ih2 ht1 B' o4 o5 f0 ht hx
          have r : m_rel Y_ (B' 1) := by
            have : B' 1 = ch_ob m 9 0 1 := by
              funext i
              exact f0 1 i (by decide) (by decide)
            rw [this]
            exact hr
          obtain ⟨to, eto⟩ : ∃ to, to = if k + t < 12 then k + t else 12 := ⟨_, rfl⟩
          have hto : k + 1 ≤ to ∧ to ≤ 12 := by
            rw [eto]
            split <;> omega
          have eA : A to = A (k + t) ∧ C to = C (k + t) := by
            rw [eto]
            by_cases l : k + t < 12
            · rw [if_pos l]
              exact ⟨rfl, rfl⟩
            · rw [if_neg l]
              have z1 := hsp.1 12 (by omega)
              have z2 := hsp.1 (k + t) (by omega)
              exact ⟨z1.1.trans z2.1.symm, z1.2.trans z2.2.symm⟩
          have eif : (if nI (k + t) < 12 then nI (k + t) else 12 : Int32) = nI to := by
            rw [eto]
            by_cases l : k + t < 12
            · rw [if_pos (show nI (k + t) < (12 : Int32) from nI_lt (b := 12) l (by decide)), if_pos l]
            · rw [if_neg (show ¬ nI (k + t) < (12 : Int32) from nI_nlt (b := 12) (by omega) (by omega)), if_neg l]
              rfl
          have cto : (nI to).toNatClampNeg = to := nI_clamp (by omega)
          obtain ⟨t1, t2⟩ := ht to hto.1 hto.2
          rw [eA.1] at t1
          rw [eA.2] at t2
          have bt := b12 (k + t)
          have be := w_e_le Y_ p1 (k + t)
          have a1 : ¬ (4 : Int32) ≤ nI t := nI_ge (b := 4) ht4 (by decide)
          obtain ⟨JJ, eJ⟩ : ∃ JJ : Int32 → ch_B → Prop, ∀ v BB, JJ v BB = ch_J g m_m_looks (ch_rm m_m_looks) (ch_E g m_m_looks (ch_ov q)) 33 [some (.inr (9, 0, 0)), some (.inl (.int p1)), some (.inl (.int (nI k))), some (.inl (.int (nI (t + 1)))), some (.inl (.int (nI to))), some (.inl (.int v))] [] (ch_os m 9 0 BB) 0 := ⟨_, fun _ _ => rfl⟩
          obtain ⟨b, eb⟩ : ∃ b, b = w_e Y_ p1 (k + t) + A (k + t) := ⟨_, rfl⟩
          have stay : ∀ x y, x < 50 → y < 50 → B' 10 k = nI x → B' 11 k = nI y → w_pre (w_e Y_ p1) A C k (t + 1) x y → ∀ v, JJ v B' := fun x y l1 l2 h1 h2 h3 v => by
            rw [eJ]
            exact ih2 (by omega) B' _ _ f0 ht (Or.inr ⟨x, y, l1, l2, h1, h2, h3⟩)
          have updt : w_pre (w_e Y_ p1) A C k (t + 1) b (C (k + t) + 1) → ∀ v, JJ v (ch_bw (ch_bw B' 10 k (nI b)) 11 k (nI (C (k + t) + 1))) := fun h3 v => by
            rw [eJ]
            refine ih2 (by omega) _ _ _ (fun a i h1 h2 => ?_) (fun i h1 h2 => ?_) (Or.inr ⟨b, C (k + t) + 1, by omega, by omega, ?_, ch_bw_at _ _ _ _, h3⟩)
            · rw [ch_bw_c h2, ch_bw_c h1]
              exact f0 a i h1 h2
            · rw [ch_bw_c (show (10 : Nat) ≠ 11 by decide), ch_bw_k (show i ≠ k by omega), ch_bw_k (show i ≠ k by omega), ch_bw_c (show (11 : Nat) ≠ 10 by decide)]
              exact ht i h1 h2
            · rw [ch_bw_c (by decide), ch_bw_at]
          have core : vp_in (nI k) 13 ∧ (B' 10 k < nI b → JJ (nI b) B') ∧ (¬ B' 10 k < nI b → (¬ nI b = B' 10 k → JJ (nI b) (ch_bw (ch_bw B' 10 k (nI b)) 11 k (nI (C (k + t) + 1)))) ∧ (nI b = B' 10 k → (nI (C (k + t) + 1) < B' 11 k → JJ (nI b) (ch_bw (ch_bw B' 10 k (nI b)) 11 k (nI (C (k + t) + 1)))) ∧ (¬ nI (C (k + t) + 1) < B' 11 k → JJ (nI b) B'))) := by
            refine ⟨vp_in_nI (by omega) (by decide), ?_⟩
            rcases hx with ⟨x1, x2⟩ | ⟨x, y, l1, l2, x1, x2, x3⟩
            · subst x1
              rw [x2]
              have hp : w_pre (w_e Y_ p1) A C k (1 + 1) b (C (k + 1) + 1) := by rw [eb]; exact w_pre_1
              refine ⟨fun z => absurd z (show ¬ (100 : Int32) < nI b from nI_nlt (a := 100) (by omega) (by decide)), fun _ => ⟨fun _ => updt hp _, fun z => absurd z (fun z => ?_)⟩⟩
              have := (nI_eq (b := 100) (by omega) (by decide)).mp z
              omega
            · rw [x1, x2, nI_ltI (by omega) (by omega), nI_eq (by omega) (by omega), nI_ltI (by omega) (by omega)]
              refine ⟨fun z => stay x y l1 l2 x1 x2 (w_pre_st x3 (by omega)) _, fun z1 => ⟨fun z2 => updt (by rw [eb]; exact w_pre_up ht1 x3 (by omega)) _, fun z2 => ⟨fun z3 => updt (by rw [eb]; exact w_pre_up ht1 x3 (by omega)) _, fun z3 => stay x y l1 l2 x1 x2 (w_pre_st x3 (by omega)) _⟩⟩⟩
          simp only [eJ] at core
          refine g_m_looks_33 g _ _ _ _ _ _ _ ?_
          simp only [forall_eq, ch_os_at, ch_os_wr, nI_add, eif, cto, ckk, t1, t2, nI_1, Int32.add_zero, ch_bw_c (show (11 : Nat) ≠ 10 by decide)]
          refine ⟨fun z => absurd z a1, fun _ => ⟨vp_in_nI (by omega) (by decide), Y_, r, ho, ?_, fun d => ?_, fun d => ?_⟩⟩
          · obtain ⟨j, ej⟩ : ∃ j, k + t = j + 1 := ⟨k + t - 1, by omega⟩
            rw [ej, nI_pred]
            exact nI_pos (by omega)
          · have e1 : w_e Y_ p1 (k + t) = 1 := if_pos ((ch_lineB_iff _ _ _).mpr d)
            rw [e1, Nat.add_comm] at eb
            rw [← eb]
            exact core
          · have e1 : w_e Y_ p1 (k + t) = 0 := if_neg (fun z => d ((ch_lineB_iff _ _ _).mp z))
            rw [e1, Nat.zero_add] at eb
            rw [← eb]
            exact core
      refine key2 1 (by omega) (by omega) _ _ _ (fun a i h1 h2 => ?_) (fun i h1 h2 => ?_) (Or.inl ⟨rfl, ch_bw_at _ _ _ _⟩)
      · rw [ch_bw_c h1]
        exact f0 a i h1 h2
      · rw [ch_bw_k (show i ≠ k by omega), ch_bw_c (by decide)]
        exact ht i h1 h2
  refine g_m_looks_0 g _ _ _ ?_
  simp only [forall_eq, ch_wr_os, ch_os_os, ch_ob_os]
  refine key 12 (by omega) _ none none none (fun a i h1 h2 => ?_) (fun i h1 h2 => ?_)
  · rw [ch_bw_c h2, ch_bw_c h1]
  · have e : i = 12 := by omega
    have z := hsp.1 12 (by omega)
    rw [e, ch_bw_c (show (10 : Nat) ≠ 11 by decide), ch_bw_at, ch_bw_at, z.1, z.2]
    exact ⟨rfl, rfl⟩
set_option maxHeartbeats 1600000 in
theorem s_m_isBest (g : ch_G) (q : Int32 → ch_M → Prop) (Y_ : ch_B) (A_ : Nat → Nat) (C_ : Nat → Nat) (S_ : Nat → Nat) (p1 : Int32) (p2 : Int32) (p3 : Int32) (m : ch_M) (h : (m_rel Y_ (m (9, 0, 1))) ∧ (∀ i_, i_ < 12 → Y_ 1 i_ = -1 ∨ vp_in (Y_ 1 i_) 5) ∧ (w_sp (w_e Y_ p1) A_ C_ S_) ∧ (∀ k_, k_ < 13 → m (9, 0, 10) k_ = nI (A_ k_) ∧ m (9, 0, 11) k_ = nI (C_ k_)) ∧ (vp_in p2 12) ∧ (vp_in p3 4) ∧ (1 ≤ p3) ∧ ((A_ (Int32.toNatClampNeg p2) = w_e Y_ p1 (Int32.toNatClampNeg p2 + Int32.toNatClampNeg p3) + A_ (Int32.toNatClampNeg p2 + Int32.toNatClampNeg p3) ∧ C_ (Int32.toNatClampNeg p2) = C_ (Int32.toNatClampNeg p2 + Int32.toNatClampNeg p3) + 1) → q 1 m) ∧ ((¬ (A_ (Int32.toNatClampNeg p2) = w_e Y_ p1 (Int32.toNatClampNeg p2 + Int32.toNatClampNeg p3) + A_ (Int32.toNatClampNeg p2 + Int32.toNatClampNeg p3) ∧ C_ (Int32.toNatClampNeg p2) = C_ (Int32.toNatClampNeg p2 + Int32.toNatClampNeg p3) + 1)) → q 0 m)) : ch_C g m_m_isBest [.inr (9, 0, 0), .inl (.int p1), .inl (.int p2), .inl (.int p3)] m (ch_oi q) := by
  refine e_m_isBest g _ p1 p2 p3 m ?_
  obtain ⟨hr, ho, hsp, ht, h2, h3, h31, ha, hb⟩ := h
  obtain ⟨k, hk, rfl⟩ := vp_in_of h2 (by decide)
  obtain ⟨t, ht4, rfl⟩ := vp_in_of h3 (by decide)
  have ckk : (nI k).toNatClampNeg = k := nI_clamp (by omega)
  have ctt : (nI t).toNatClampNeg = t := nI_clamp (by omega)
  have ht1 : 1 ≤ t := (nI_leI (a := 1) (by decide) (by omega)).mp h31
  rw [ckk, ctt] at ha hb
  have b12 : ∀ k, A_ k ≤ 12 ∧ C_ k ≤ 12 := fun k => by
    by_cases l : k < 12
    · have := hsp.2 k l
      omega
    · have := hsp.1 k (by omega)
      omega
  obtain ⟨to, eto⟩ : ∃ to, to = if k + t < 12 then k + t else 12 := ⟨_, rfl⟩
  have hto : to ≤ 12 := by
    rw [eto]
    split <;> omega
  have eA : A_ to = A_ (k + t) ∧ C_ to = C_ (k + t) := by
    rw [eto]
    by_cases l : k + t < 12
    · rw [if_pos l]
      exact ⟨rfl, rfl⟩
    · rw [if_neg l]
      have z1 := hsp.1 12 (by omega)
      have z2 := hsp.1 (k + t) (by omega)
      exact ⟨z1.1.trans z2.1.symm, z1.2.trans z2.2.symm⟩
  have eif : (if nI (k + t) < 12 then nI (k + t) else 12 : Int32) = nI to := by
    rw [eto]
    by_cases l : k + t < 12
    · rw [if_pos (show nI (k + t) < (12 : Int32) from nI_lt (b := 12) l (by decide)), if_pos l]
    · rw [if_neg (show ¬ nI (k + t) < (12 : Int32) from nI_nlt (b := 12) (by omega) (by omega)), if_neg l]
      rfl
  have cto : (nI to).toNatClampNeg = to := nI_clamp (by omega)
  obtain ⟨t1, t2⟩ := ht to (by omega)
  obtain ⟨k1, k2⟩ := ht k (by omega)
  rw [eA.1] at t1
  rw [eA.2] at t2
  have bt := b12 (k + t)
  have bk := b12 k
  have be := w_e_le Y_ p1 (k + t)
  refine g_m_isBest_0 g _ _ _ _ _ ?_
  simp only [ch_oi_iff, nI_add, eif, cto, ckk, t1, t2, k1, k2, nI_1, Int32.add_zero]
  refine ⟨vp_in_nI (by omega) (by decide), Y_, hr, ho, ?_, fun d => ?_, fun d => ?_⟩
  · obtain ⟨j, ej⟩ : ∃ j, k + t = j + 1 := ⟨k + t - 1, by omega⟩
    rw [ej, nI_pred]
    exact nI_pos (by omega)
  · have e1 : w_e Y_ p1 (k + t) = 1 := if_pos ((ch_lineB_iff _ _ _).mpr d)
    rw [e1] at ha hb
    rw [nI_eq (by omega) (by omega), nI_eq (by omega) (by omega)]
    exact ⟨vp_in_nI (by omega) (by decide), fun z => hb (by omega), fun z => ⟨fun y => hb (by omega), fun y => ha (by omega)⟩⟩
  · have e1 : w_e Y_ p1 (k + t) = 0 := if_neg (fun z => d ((ch_lineB_iff _ _ _).mp z))
    rw [e1] at ha hb
    rw [nI_eq (by omega) (by omega), nI_eq (by omega) (by omega)]
    exact ⟨vp_in_nI (by omega) (by decide), fun z => hb (by omega), fun z => ⟨fun y => hb (by omega), fun y => ha (by omega)⟩⟩
