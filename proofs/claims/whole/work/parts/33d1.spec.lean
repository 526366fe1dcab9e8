set_option maxHeartbeats 1600000 in
theorem s_m_fewest (g : ch_G) (q : Int32 → ch_M → Prop) (Y_ : ch_B) (p1 : Int32) (m : ch_M) (h : (m_rel Y_ (m (9, 0, 1))) ∧ (vp_in (Y_ 0 8) 6) ∧ (∀ i_, i_ < 12 → Y_ 1 i_ = -1 ∨ vp_in (Y_ 1 i_) 5) ∧ ((0 ≤ p1 ∧ p1 < Y_ 0 8) → (∀ (B_ : ch_B) (A_ : Nat → Nat) (C_ : Nat → Nat) (S_ : Nat → Nat), (w_sp (w_e Y_ p1) A_ C_ S_) → (∀ a_ i_, a_ ≠ 10 → a_ ≠ 11 → ¬ (a_ = 0 ∧ i_ = 19) → B_ a_ i_ = ch_ob m 9 0 a_ i_) → (B_ 0 19 = 0) → (∀ k_, k_ < 13 → B_ 10 k_ = nI (A_ k_) ∧ B_ 11 k_ = nI (C_ k_)) → q (nI (A_ 0)) (ch_os m 9 0 B_))) ∧ ((¬ (0 ≤ p1 ∧ p1 < Y_ 0 8)) → q 0 (ch_wr m (9, 0, 0) 19 1))) : ch_C g m_m_fewest [.inr (9, 0, 0), .inl (.int p1)] m (ch_oi q) := by
  refine e_m_fewest g _ p1 m ?_
  obtain ⟨hr, h8, ho, ha, hb⟩ := h
  refine g_m_fewest_0 g _ _ _ ⟨fun c => ?_, fun c => ?_⟩
  · simp only [forall_eq, ch_wr_v, ch_oi_iff, m_w1, m_co hr, ch_os_at] at c ⊢
    refine ⟨fun _ => ⟨Y_, hr, ho, fun B A C S hsp f0 ht => ?_⟩, fun d => absurd (by decide) d⟩
    simp only [ch_wr_os, ch_ob_os, ch_os_os] at f0 ⊢
    rw [(ht 0 (by omega)).1]
    refine ha ((m_chi h8).mp c) B A C S hsp (fun a i h1 h2 h3 => ?_) ?_ ht
    · rw [f0 a i h1 h2]
      unfold ch_bw
      rw [if_neg h3]
    · rw [f0 0 19 (by decide) (by decide), ch_bw_at]
  · simp only [forall_eq, ch_wr_v, ch_oi_iff, m_w1, m_co hr] at c ⊢
    exact ⟨fun d => absurd d (by decide), fun _ => hb (fun z => c ((m_chi h8).mpr z))⟩
/-- where so many of the best steps lead -/
def w_pt (S : Nat → Nat) : Nat → Nat
  | 0 => 0
  | n + 1 => w_pt S n + S (w_pt S n)
theorem w_pt_C {e A C S : Nat → Nat} (h : w_sp e A C S) (n : Nat) : n ≤ C 0 → C (w_pt S n) + n = C 0 := by
  induction n with
  | zero => exact fun _ => rfl
  | succ n ih =>
    intro hn
    have ih := ih (by omega)
    have hk : w_pt S n < 12 := by
      by_cases l : w_pt S n < 12
      · exact l
      · have := (h.1 (w_pt S n) (by omega)).2
        omega
    have e2 := (h.2 _ hk).2.2.2.2.1
    show C (w_pt S n + S (w_pt S n)) + (n + 1) = C 0
    omega
theorem w_pt_lt {e A C S : Nat → Nat} (h : w_sp e A C S) {n : Nat} (hn : n < C 0) : w_pt S n < 12 := by
  by_cases l : w_pt S n < 12
  · exact l
  · have := (h.1 (w_pt S n) (by omega)).2
    have := w_pt_C h n (by omega)
    omega
theorem w_tl_v {e A C S : Nat → Nat} (h : w_sp e A C S) {st : Nat → Int32} (hst : ∀ k, k < 12 → st k = nI (S k)) (n : Nat) : ∀ (i : Nat) (B : ch_B), i + n = 12 → i ≤ C 0 → B 0 1 = nI i → (∀ j, j < i → B 1 j = nI (S (w_pt S j))) → w_tl st n (nI (w_pt S i)) B 0 1 = nI (C 0) ∧ ∀ j, j < C 0 → w_tl st n (nI (w_pt S i)) B 1 j = nI (S (w_pt S j)) := by
  have hC : C 0 ≤ 12 := (h.2 0 (by omega)).2.2.1
  induction n with
  | zero =>
    intro i B hi hl h1 h2
    have : i = C 0 := by omega
    subst this
    exact ⟨h1, h2⟩
  | succ n ih =>
    intro i B hi hl h1 h2
    by_cases l : i < C 0
    · have hk := w_pt_lt h l
      have hs := (h.2 _ hk).1
      rw [w_tl, if_neg (show ¬ (12 : Int32) ≤ nI (w_pt S i) from nI_ge (b := 12) hk (by decide)), nI_clamp (by omega), hst _ hk, nI_add]
      have ea : s_addB B (nI (S (w_pt S i))) = ch_bw (ch_bw B 1 i (nI (S (w_pt S i)))) 0 1 (nI (i + 1)) := by
        unfold s_addB
        rw [h1, if_neg (show ¬ (12 : Int32) ≤ nI i from nI_ge (b := 12) (by omega) (by decide)), nI_clamp (by omega), nI_1]
      rw [ea]
      refine ih (i + 1) _ (by omega) (by omega) (ch_bw_at _ _ _ _) (fun j hj => ?_)
      rw [ch_bw_c (by decide)]
      by_cases ej : j = i
      · rw [ej, ch_bw_at]
      · rw [ch_bw_k ej]
        exact h2 j (by omega)
    · have ei : i = C 0 := by omega
      have h12 : 12 ≤ w_pt S i := by
        by_cases l2 : 12 ≤ w_pt S i
        · exact l2
        · have := (h.2 (w_pt S i) (by omega)).2.2.2.2.1
          have := w_pt_C h i (by omega)
          omega
      have hb : w_pt S i < 2 ^ 31 := by
        cases i with
        | zero => exact (show 0 < 2 ^ 31 by decide)
        | succ i =>
          have a := w_pt_lt h (n := i) (by omega)
          have b := (h.2 _ a).1
          show w_pt S i + S (w_pt S i) < _
          omega
      rw [w_tl, if_pos (show (12 : Int32) ≤ nI (w_pt S i) from nI_le (a := 12) h12 hb)]
      rw [← ei]
      exact ⟨h1, h2⟩
set_option maxHeartbeats 1600000 in
theorem s_m_step (g : ch_G) (q : Int32 → ch_M → Prop) (Y_ : ch_B) (p1 : Int32) (p2 : Int32) (m : ch_M) (h : (m_rel Y_ (m (9, 0, 1))) ∧ (vp_in (Y_ 0 8) 6) ∧ (∀ i_, i_ < 12 → Y_ 1 i_ = -1 ∨ vp_in (Y_ 1 i_) 5) ∧ ((0 ≤ p1 ∧ p1 < Y_ 0 8) → (∀ (B_ : ch_B) (A_ : Nat → Nat) (C_ : Nat → Nat) (S_ : Nat → Nat), (w_sp (w_e Y_ p1) A_ C_ S_) → (0 ≤ p2 ∧ p2 < nI (C_ 0)) → (∀ a_ i_, a_ ≠ 10 → a_ ≠ 11 → ¬ (a_ = 0 ∧ i_ = 19) → B_ a_ i_ = ch_ob m 9 0 a_ i_) → (B_ 0 19 = 0) → q (nI (S_ (w_pt S_ (Int32.toNatClampNeg p2)))) (ch_os m 9 0 B_))) ∧ ((¬ (0 ≤ p1 ∧ p1 < Y_ 0 8)) → q 0 (ch_wr m (9, 0, 0) 19 1)) ∧ ((0 ≤ p1 ∧ p1 < Y_ 0 8) → (∀ (B_ : ch_B) (A_ : Nat → Nat) (C_ : Nat → Nat) (S_ : Nat → Nat), (w_sp (w_e Y_ p1) A_ C_ S_) → (¬ (0 ≤ p2 ∧ p2 < nI (C_ 0))) → (∀ a_ i_, a_ ≠ 10 → a_ ≠ 11 → ¬ (a_ = 0 ∧ i_ = 19) → B_ a_ i_ = ch_ob m 9 0 a_ i_) → (B_ 0 19 = 2) → q 0 (ch_os m 9 0 B_)))) : ch_C g m_m_step [.inr (9, 0, 0), .inl (.int p1), .inl (.int p2)] m (ch_oi q) := by
  refine e_m_step g _ p1 p2 m ?_
  obtain ⟨hr, h8, ho, ha, hb, hc⟩ := h
  refine g_m_step_0 g _ _ _ _ ?_
  simp only [forall_eq, ch_oi_iff, m_w1, m_co hr, ch_wr_wr]
  refine ⟨fun c => ⟨Y_, hr, ho, fun B A C S hsp f0 ht => ?_⟩, fun c => hb (fun z => c ((m_chi h8).mpr z))⟩
  have c2 := (m_chi h8).mp c
  simp only [ch_wr_os, ch_ob_os, ch_os_os] at f0 ⊢
  rw [ch_os_at, (ht 0 (by omega)).2]
  have hC : C 0 ≤ 12 := (hsp.2 0 (by omega)).2.2.1
  have hch := m_chN (c := p2) (N := 13) (by decide) (show vp_in (nI (C 0)) 13 from vp_in_nI (by omega) (by decide))
  have f1 : ∀ a i, a ≠ 10 → a ≠ 11 → ¬ (a = 0 ∧ i = 19) → B a i = ch_ob m 9 0 a i := fun a i h1 h2 h3 => by
    rw [f0 a i h1 h2]
    unfold ch_bw
    rw [if_neg h3]
  have f19 : B 0 19 = 0 := by rw [f0 0 19 (by decide) (by decide), ch_bw_at]
  refine ⟨fun d => ?_, fun d => ?_⟩
  · have d2 := hch.mp d
    obtain ⟨pl, hpl, epl⟩ := vp_in_of (ch_vp (x := p2) (n := C 0) (by omega) (by have := d2.1; grind) (by have := d2.2; grind)) (by omega)
    have ha2 := ha c2 B A C S hsp d2 f1 f19
    rw [epl, nI_clamp (by omega)] at ha2
    have r : m_rel Y_ (B 1) := by
      have : B 1 = ch_ob m 9 0 1 := by
        funext i
        exact f1 1 i (by decide) (by decide) (by omega)
      rw [this]
      exact hr
    subst epl
    have key : ∀ d, ∀ n, n + d = pl → ∀ o5, ch_J g m_m_step (ch_rm m_m_step) (ch_E g m_m_step (ch_oi q)) 51 [some (.inr (9, 0, 0)), some (.inl (.int p1)), some (.inl (.int (nI pl))), some (.inl (.int (nI (w_pt S n)))), some (.inl (.int (nI n))), o5] [] (ch_os m 9 0 B) 0 := by
      intro d
      induction d with
      | zero =>
        intro n hn o5
        have hk := w_pt_lt hsp (n := n) (by omega)
        obtain ⟨⟨s1, s2⟩, -, -, e1, e2, fS⟩ := hsp.2 _ hk
        have key2 : ∀ t, t ≤ 3 → S (w_pt S n) ≤ t → ch_J g m_m_step (ch_rm m_m_step) (ch_E g m_m_step (ch_oi q)) 60 [some (.inr (9, 0, 0)), some (.inl (.int p1)), some (.inl (.int (nI pl))), some (.inl (.int (nI (w_pt S n)))), some (.inl (.int (nI n))), some (.inl (.int (nI t)))] [] (ch_os m 9 0 B) 0 := by
          intro t
          induction t with
          | zero => intro _ h; omega
          | succ t ih =>
            intro h3 hS
            refine g_m_step_60 g _ _ _ _ _ _ _ ?_
            refine ⟨Y_, A, C, S, r, ho, hsp, fun k hk => by simp only [ch_os_at]; exact ht k hk, vp_in_nI hk (by decide), vp_in_nI (by omega) (by decide), nI_le (a := 1) (by omega) (by omega), ?_⟩
            rw [nI_clamp (by omega), nI_clamp (by omega)]
            have en : nI n = nI pl := by rw [show n = pl by omega]
            refine ⟨fun z => ⟨fun y => absurd en y, fun _ => ?_⟩, fun z => ?_⟩
            · have es : S (w_pt S n) = t + 1 := by
                by_cases l : S (w_pt S n) = t + 1
                · exact l
                · exact absurd z ((fS (t + 1) (by omega) h3).2 (by omega))
              refine ch_oi_iff.mpr ?_
              rw [show n = pl by omega] at es
              rw [← es]
              exact ha2
            · rw [pk_m1]
              refine ih (by omega) ?_
              by_cases l : S (w_pt S n) = t + 1
              · exact absurd (by rw [← l]; exact ⟨e1, e2⟩) z
              · omega
        refine g_m_step_51 g _ _ _ _ _ _ _ ?_
        exact ⟨fun z => absurd z (nI_nlt (by omega) (by omega)), fun _ => key2 3 (by omega) (by omega)⟩
      | succ d ihd =>
        intro n hn o5
        have hk := w_pt_lt hsp (n := n) (by omega)
        obtain ⟨⟨s1, s2⟩, -, -, e1, e2, fS⟩ := hsp.2 _ hk
        have key2 : ∀ t, t ≤ 3 → S (w_pt S n) ≤ t → ch_J g m_m_step (ch_rm m_m_step) (ch_E g m_m_step (ch_oi q)) 60 [some (.inr (9, 0, 0)), some (.inl (.int p1)), some (.inl (.int (nI pl))), some (.inl (.int (nI (w_pt S n)))), some (.inl (.int (nI n))), some (.inl (.int (nI t)))] [] (ch_os m 9 0 B) 0 := by
          intro t
          induction t with
          | zero => intro _ h; omega
          | succ t ih =>
            intro h3 hS
            refine g_m_step_60 g _ _ _ _ _ _ _ ?_
            refine ⟨Y_, A, C, S, r, ho, hsp, fun k hk => by simp only [ch_os_at]; exact ht k hk, vp_in_nI hk (by decide), vp_in_nI (by omega) (by decide), nI_le (a := 1) (by omega) (by omega), ?_⟩
            rw [nI_clamp (by omega), nI_clamp (by omega)]
            refine ⟨fun z => ⟨fun _ => ?_, fun y => absurd ((nI_eq (by omega) (by omega)).mp y) (by omega)⟩, fun z => ?_⟩
            · have es : S (w_pt S n) = t + 1 := by
                by_cases l : S (w_pt S n) = t + 1
                · exact l
                · exact absurd z ((fS (t + 1) (by omega) h3).2 (by omega))
              rw [nI_add, nI_1, ← es]
              exact ihd (n + 1) (by omega) _
            · rw [pk_m1]
              refine ih (by omega) ?_
              by_cases l : S (w_pt S n) = t + 1
              · exact absurd (by rw [← l]; exact ⟨e1, e2⟩) z
              · omega
        refine g_m_step_51 g _ _ _ _ _ _ _ ?_
        exact ⟨fun z => absurd z (nI_nlt (by omega) (by omega)), fun _ => key2 3 (by omega) (by omega)⟩
    exact key pl 0 (by omega) none
  · refine hc c2 _ A C S hsp (fun z => d (hch.mpr z)) (fun a i h1 h2 h3 => ?_) (ch_bw_at _ _ _ _)
    rw [← f1 a i h1 h2 h3]
    unfold ch_bw
    rw [if_neg h3]
set_option maxHeartbeats 1600000 in
theorem s_m_wouldTread (g : ch_G) (q : Int32 → ch_M → Prop) (Y_ : ch_B) (A_ : ch_B) (p1 : Int32) (p2 : Int32) (m : ch_M) (h : (m_rel Y_ (m (9, 0, 1))) ∧ (vp_in (Y_ 0 8) 6) ∧ (∀ i_, i_ < 12 → Y_ 1 i_ = -1 ∨ vp_in (Y_ 1 i_) 5) ∧ (((0 ≤ p1 ∧ p1 < Y_ 0 8) ∧ x_wtP (s_rfB A_ p2) = true) → (∀ (B_ : ch_B), (∀ a_ i_, a_ ≠ 9 → ¬ (a_ = 0 ∧ (i_ = 21 ∨ i_ = 19)) → B_ a_ i_ = ch_ob m 9 0 a_ i_) → (B_ 0 19 = 0) → q (y_ct Y_ p1 (s_rfB A_ p2 1) (Int32.toNatClampNeg (s_rfB A_ p2 0 1))) (ch_os m 9 0 B_))) ∧ ((¬ (0 ≤ p1 ∧ p1 < Y_ 0 8)) → q 0 (ch_wr m (9, 0, 0) 19 1)) ∧ (((0 ≤ p1 ∧ p1 < Y_ 0 8) ∧ ¬ x_wtP (s_rfB A_ p2) = true) → (∀ (B_ : ch_B), (∀ a_ i_, a_ ≠ 9 → ¬ (a_ = 0 ∧ (i_ = 21 ∨ i_ = 19)) → B_ a_ i_ = ch_ob m 9 0 a_ i_) → (B_ 0 19 = 2) → q 0 (ch_os m 9 0 B_)))) : ch_C g m_m_wouldTread [.inr (9, 0, 0), .inl (.int p1), .inl (.int p2)] m (ch_oi q) := by
  refine e_m_wouldTread g _ p1 p2 m ?_
  obtain ⟨hr, h8, ho, ha, hb, hc⟩ := h
  refine g_m_wouldTread_0 g _ _ _ _ ?_
  simp only [forall_eq, ch_oi_iff, m_w1, m_co hr, ch_wr_wr]
  refine ⟨fun c => ⟨A_, fun d B f0 h21 h9 => ?_, fun d B f0 => ?_⟩, fun c => hb (fun z => c ((m_chi h8).mpr z))⟩
  · have c2 := (m_chi h8).mp c
    simp only [ch_wr_os, ch_ob_os, ch_os_os, ch_os_p] at f0 ⊢
    obtain ⟨n, hn, en, hst⟩ := s_rfB_st A_ p2
    have cn : (s_rfB A_ p2 0 1).toNatClampNeg = n := by rw [en, nI_clamp (by omega)]
    have hn1 : 1 ≤ n := by
      by_cases l : 1 ≤ n
      · exact l
      · exact absurd (by rw [en, show n = 0 by omega]; decide) d
    rw [cn] at h9 ha
    have c21 : (B 0 21).toNatClampNeg = n := by rw [h21, cn]
    obtain ⟨v1, v2⟩ := y_mf_over _ n hst (by omega) hn1
    have eO := y_mfO_cg (f := B 9) (f' := s_rfB A_ p2 1) (n := n) h9
    have eP := ch_ps_cg (f := B 9) (f' := s_rfB A_ p2 1) (n := n) h9
    have eC := y_ct_cg (Y := Y_) (c := p1) (f := B 9) (f' := s_rfB A_ p2 1) (n := n) h9
    have f1 : ∀ a i, a ≠ 9 → ¬ (a = 0 ∧ (i = 21 ∨ i = 19)) → B a i = ch_ob m 9 0 a i := fun a i h1 h2 => by
      rw [f0 a i h1 (by omega)]
      unfold ch_bw
      rw [if_neg (by omega)]
    have f19 : B 0 19 = 0 := by rw [f0 0 19 (by decide) (by omega), ch_bw_at]
    have r : m_rel Y_ (B 1) := by
      have : B 1 = ch_ob m 9 0 1 := by
        funext i
        exact f1 1 i (by decide) (by omega)
      rw [this]
      exact hr
    have hwt : x_wtP (s_rfB A_ p2) = true ↔ y_mf (s_rfB A_ p2 1) n = -1 := by
      unfold x_wtP
      rw [cn]
      simp [d]
    rw [c21, eO, eP]
    refine ⟨by rw [h21, en]; exact vp_in_nI (by omega) (by decide), fun ov => ⟨Y_, r, ho, fun i hi => by rw [h9 i hi]; exact hst i hi, ?_⟩, fun ov => ?_⟩
    · rw [eC]
      exact ha ⟨c2, hwt.mpr (v1.mpr ov)⟩ B f1 f19
    · refine hc ⟨c2, fun z => ov (v1.mp (hwt.mp z))⟩ _ (fun a i h1 h2 => ?_) (ch_bw_at _ _ _ _)
      unfold ch_bw
      rw [if_neg (by omega)]
      exact f1 a i h1 h2
  · have c2 := (m_chi h8).mp c
    simp only [ch_wr_os, ch_ob_os, ch_os_os, ch_os_p] at f0 ⊢
    have hwt : ¬ x_wtP (s_rfB A_ p2) = true := by
      unfold x_wtP
      simp [d]
    refine hc ⟨c2, hwt⟩ _ (fun a i h1 h2 => ?_) (ch_bw_at _ _ _ _)
    unfold ch_bw
    rw [if_neg (by omega), f0 a i h1 (by omega)]
    unfold ch_bw
    rw [if_neg (by omega)]
