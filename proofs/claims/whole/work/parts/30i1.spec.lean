/-- how many squares a hop has gone behind so many steps -/
def y_pp (f : Nat → Int32) (k : Nat) : Nat := (ch_ps f k + 1).toNatClampNeg
theorem m_pp (f : Nat → Int32) (n : Nat) (h : ∀ i, i < n → 1 ≤ f i ∧ f i ≤ 3) (hn : n ≤ 12) (k : Nat) (hk : k ≤ n) : k ≤ y_pp f k ∧ y_pp f k ≤ 3 * k ∧ ch_ps f k = nI (y_pp f k) - 1 := by
  obtain ⟨j, h1, h2, e⟩ := m_ps f k (fun i hi => h i (by omega)) (by omega)
  have ej : y_pp f k = j := by
    unfold y_pp
    rw [e, show (nI j - 1 + 1 : Int32) = nI j by grind, nI_clamp (by omega)]
  rw [ej]
  exact ⟨h1, h2, e⟩
theorem m_ppS (f : Nat → Int32) (n : Nat) (h : ∀ i, i < n → 1 ≤ f i ∧ f i ≤ 3) (hn : n ≤ 12) (k : Nat) (hk : k < n) : y_pp f k < y_pp f (k + 1) ∧ ch_ps f (k + 1) = nI (y_pp f (k + 1) - 1) := by
  obtain ⟨h1, h2, e1⟩ := m_pp f n h hn k (by omega)
  obtain ⟨h3, h4, e2⟩ := m_pp f n h hn (k + 1) (by omega)
  have e3 : ch_ps f (k + 1) = ch_ps f k + f k := rfl
  have e4 : f k = nI (y_pp f (k + 1)) - nI (y_pp f k) := by
    rw [e2, e1] at e3
    grind
  have e5 : (nI (y_pp f (k + 1)) - nI (y_pp f k)).toInt = (y_pp f (k + 1) : Int) - y_pp f k := pk_sub_toInt (by omega) (by omega)
  have e6 := Int32.le_iff_toInt_le.mp (h k hk).1
  rw [e4, e5, show (1 : Int32).toInt = 1 by decide] at e6
  refine ⟨by omega, ?_⟩
  rw [e2]
  obtain ⟨j, ej⟩ : ∃ j, y_pp f (k + 1) = j + 1 := ⟨y_pp f (k + 1) - 1, by omega⟩
  rw [ej, nI_pred]
  rfl
theorem y_hs_far {Z : ch_B} {c : Int32} {p i : Nat} (hp : p < 2 ^ 31) (hi : i ≠ p) : y_hs Z c (nI p) 1 i = Z 1 i ∧ y_hs Z c (nI p) 2 i = Z 2 i := by
  unfold y_hs y_tk
  rw [nI_clamp hp]
  split
  · split
    · exact ⟨by rw [ch_bw_k hi, ch_bw_c (by decide), ch_bw_c (by decide)], by rw [ch_bw_c (by decide), ch_bw_k hi, ch_bw_c (by decide)]⟩
    · exact ⟨by rw [ch_bw_c (by decide), ch_bw_c (by decide)], by rw [ch_bw_k hi, ch_bw_c (by decide)]⟩
  · exact ⟨rfl, rfl⟩
theorem y_hk_far (Y : ch_B) (c : Int32) (f : Nat → Int32) (n : Nat) (h : ∀ i, i < n → 1 ≤ f i ∧ f i ≤ 3) (hn : n ≤ 12) (k : Nat) : k ≤ n → ∀ p, y_pp f k ≤ p → y_hk Y c f k 1 p = Y 1 p ∧ y_hk Y c f k 2 p = Y 2 p := by
  induction k with
  | zero => exact fun _ p _ => ⟨rfl, rfl⟩
  | succ k ih =>
    intro hk p hp
    obtain ⟨h1, e⟩ := m_ppS f n h hn k (by omega)
    have h4 := (m_pp f n h hn (k + 1) hk).2.1
    obtain ⟨i1, i2⟩ := ih (by omega) p (by omega)
    have := y_hs_far (Z := y_hk Y c f k) (c := c) (p := y_pp f (k + 1) - 1) (i := p) (by omega) (by omega)
    rw [← e] at this
    exact ⟨this.1.trans i1, this.2.trans i2⟩
theorem y_lineB_cg {Y Z : ch_B} {c : Int32} {p : Nat} (hp : p < 2 ^ 31) (h : Z 1 p = Y 1 p) : ch_lineB Z c (nI p) = ch_lineB Y c (nI p) := by
  unfold ch_lineB
  rw [nI_clamp hp, h]
theorem m_hs_rel {Z B : ch_B} (r : m_rel Z (B 1)) {p o v : Nat} (hp : p < 12) (ho : o < 5) (e1 : Z 1 p = nI o) (e2 : Z 2 p = nI (v + 1)) (hv : v < 9) {c : Int32} (hl : ch_lineB Z c (nI p) = true) :
    ch_bw (ch_bw B 1 (38 + 5 * o + 4) (B 1 (38 + 5 * o + 4) + 1)) 1 (15 + 2 * p) (ch_bw B 1 (38 + 5 * o + 4) (B 1 (38 + 5 * o + 4) + 1) 1 (15 + 2 * p) - 1) 1 (15 + 2 * p) = nI v ∧
    (¬ v = 0 → m_rel (y_hs Z c (nI p)) (ch_bw (ch_bw B 1 (38 + 5 * o + 4) (B 1 (38 + 5 * o + 4) + 1)) 1 (15 + 2 * p) (ch_bw B 1 (38 + 5 * o + 4) (B 1 (38 + 5 * o + 4) + 1) 1 (15 + 2 * p) - 1) 1)) ∧
    (v = 0 → m_rel (y_hs Z c (nI p)) (ch_bw (ch_bw (ch_bw (ch_bw B 1 (38 + 5 * o + 4) (B 1 (38 + 5 * o + 4) + 1)) 1 (15 + 2 * p) (ch_bw B 1 (38 + 5 * o + 4) (B 1 (38 + 5 * o + 4) + 1) 1 (15 + 2 * p) - 1)) 1 (14 + 2 * p) 0) 1 (15 + 2 * p) 0 1)) := by
  have r1 := m_rel_w (f := 4) (v := Z 7 o + 1) r (by omega) ho
  have ec := (m_ck r1 hp).trans ((ch_bw_c (by decide)).trans e2)
  rw [m_un r ho, ec, nI_pred]
  have ev : y_tkv (ch_bw Z 7 o (Z 7 o + 1)) (nI p) 1 = nI v := by
    unfold y_tkv
    rw [nI_clamp (by omega), ch_bw_c (by decide), e2, nI_pred, if_neg (nI_pos (by omega))]
  have eh : y_hs Z c (nI p) = if nI v = 0 then ch_bw (ch_bw (ch_bw Z 7 o (Z 7 o + 1)) 2 p (nI v)) 1 p (-1) else ch_bw (ch_bw Z 7 o (Z 7 o + 1)) 2 p (nI v) := by
    unfold y_hs y_tk
    rw [if_pos hl, nI_clamp (show p < 2 ^ 31 by omega), e1, nI_clamp (show o < 2 ^ 31 by omega), ev]
  have r2 := m_rel_2 (v := nI v) r1 hp
  refine ⟨ch_bw_at _ _ _ _, fun h => ?_, fun h => ?_⟩
  · rw [eh, if_neg (nI_ne0 (by omega) (by omega))]
    exact r2
  · subst h
    rw [eh, if_pos nI_0]
    have r3 := m_rel_2 (v := 0) (m_rel_1 (v := -1) (w := 0) r2 hp (by decide)) hp
    have e3 : ch_bw (ch_bw (ch_bw Z 7 o (Z 7 o + 1)) 2 p (nI 0)) 1 p (-1) = ch_bw (ch_bw (ch_bw (ch_bw Z (3 + 4) o (Z 7 o + 1)) 2 p (nI 0)) 1 p (-1)) 2 p 0 := by
      funext a i
      rw [nI_0]
      unfold ch_bw
      grind
    rw [e3]
    exact r3
set_option maxHeartbeats 1600000 in
theorem s_m_hops (g : ch_G) (q : Int32 → ch_M → Prop) (T_ : Nat) (Y_ : ch_B) (p1 : Int32) (m : ch_M) (h : (m_rel Y_ (m (9, 0, 1))) ∧ (y_inv T_ Y_) ∧ (vp_in p1 5) ∧ (vp_in (m (9, 0, 0) 21) 13) ∧ (∀ i_, i_ < (Int32.toNatClampNeg (m (9, 0, 0) 21)) → 1 ≤ m (9, 0, 9) i_ ∧ m (9, 0, 9) i_ ≤ 3) ∧ ((¬ y_mfO (m (9, 0, 9)) (Int32.toNatClampNeg (m (9, 0, 0) 21)) = true ∧ ¬ ch_ps (m (9, 0, 9)) (Int32.toNatClampNeg (m (9, 0, 0) 21)) < 11) → (∀ (B_ : ch_B), (m_did (ch_ob m 9 0) B_ (y_hopB Y_ p1 (m (9, 0, 9)) (Int32.toNatClampNeg (m (9, 0, 0) 21))) (y_ct Y_ p1 (m (9, 0, 9)) (Int32.toNatClampNeg (m (9, 0, 0) 21)))) → q 1 (ch_os m 9 0 B_))) ∧ ((¬ (¬ y_mfO (m (9, 0, 9)) (Int32.toNatClampNeg (m (9, 0, 0) 21)) = true ∧ ¬ ch_ps (m (9, 0, 9)) (Int32.toNatClampNeg (m (9, 0, 0) 21)) < 11)) → q 0 (ch_os m 9 0 (m_refB (ch_ob m 9 0) 8 (if y_mfO (m (9, 0, 9)) (Int32.toNatClampNeg (m (9, 0, 0) 21)) = true then 12 else ch_ps (m (9, 0, 9)) (Int32.toNatClampNeg (m (9, 0, 0) 21))))))) : ch_C g m_m_hops [.inr (9, 0, 0), .inl (.int p1)] m (ch_oi q) := by
  refine e_m_hops g _ p1 m ?_
  obtain ⟨hr, hi, hc, h21, hs, ha, hb⟩ := h
  obtain ⟨n, hn, en⟩ := vp_in_of h21 (by decide)
  have cn : (m (9, 0, 0) 21).toNatClampNeg = n := by rw [en, nI_clamp (by omega)]
  rw [cn] at ha hb hs
  obtain ⟨c, hc5, rfl⟩ := vp_in_of hc (by decide)
  have cc : (nI c).toNatClampNeg = c := nI_clamp (by omega)
  refine g_m_hops_0 g _ _ _ ⟨h21, fun d => ?_, fun d => ?_⟩
  · rw [cn] at d
    have ha := ha d
    have key : ∀ k, k ≤ n → ∀ B' : ch_B, m_rel (y_hk Y_ (nI c) (m (9, 0, 9)) k) (B' 1) → (∀ a i, a ≠ 1 → B' a i = ch_ob m 9 0 a i) → ch_J g m_m_hops (ch_rm m_m_hops) (ch_E g m_m_hops (ch_oi q)) 25 [some (.inr (9, 0, 0)), some (.inl (.int (nI c))), some (.inl (.int (y_ct Y_ (nI c) (m (9, 0, 9)) k))), some (.inl (.int (ch_ps (m (9, 0, 9)) k))), some (.inl (.int (nI k)))] [] (ch_os m 9 0 B') 0 := by
      refine ch_down _ n ?_ ?_
      · intro B' r f0
        refine g_m_hops_25 g _ _ _ _ _ _ ?_
        have e21 : B' 0 21 = nI n := (f0 0 21 (by decide)).trans en
        simp only [ch_oi_iff, forall_eq, ch_os_at, ch_os_wr, e21, cc]
        refine ⟨fun _ => ⟨hc, ?_⟩, fun z => absurd (nI_le (Nat.le_refl n) (by omega)) z⟩
        obtain ⟨ct, ect⟩ : ∃ ct, ct = y_ct Y_ (nI c) (m (9, 0, 9)) n := ⟨_, rfl⟩
        rw [← ect] at ha ⊢
        refine ha _ ⟨?_, ?_, ?_⟩
        · rw [ch_bw1 (by decide)]
          have w1 := m_tr r hc5
          have r1 := m_rel_w (f := 1) (v := y_hk Y_ (nI c) (m (9, 0, 9)) n 4 c + ct) r (by omega) hc5
          have w2 := (m_ho r1 hc5).trans (ch_bw_c (by decide))
          have r2 := m_rel_w (f := 3) (v := y_hk Y_ (nI c) (m (9, 0, 9)) n 6 c + 1) r1 (by omega) hc5
          have w3 := (r2.1.2.2.2.1).trans ((ch_bw_c (by decide)).trans (ch_bw_c (by decide)))
          have r3 := m_rel_0 (i := 3) (v := y_hk Y_ (nI c) (m (9, 0, 9)) n 0 12 + ct) r2 (by omega)
          rw [w1, w2, w3]
          refine m_rel_cast r3 ?_
          unfold y_hopB
          rw [cc, ← ect]
          funext a i
          unfold ch_bw
          grind
        · exact ch_bw_at _ _ _ _
        · intro a i h1 h2
          have := f0 a i h1
          unfold ch_bw
          grind
      · intro k hk ih B' r f0
        obtain ⟨a1, a2, a3, a4⟩ := ch_kn hk (by omega)
        obtain ⟨hp1, hp2⟩ := m_ppS _ n hs (by omega) k hk
        have hp3 := (m_pp _ n hs (by omega) (k + 1) (by omega)).2.1
        obtain ⟨p, ep⟩ : ∃ p, p = y_pp (m (9, 0, 9)) (k + 1) - 1 := ⟨_, rfl⟩
        rw [← ep] at hp2
        have e21 : B' 0 21 = nI n := (f0 0 21 (by decide)).trans en
        have ef : B' 9 k = m (9, 0, 9) k := f0 9 k (by decide)
        have eps : ch_ps (m (9, 0, 9)) k + m (9, 0, 9) k = nI p := hp2
        have cp : (nI p).toNatClampNeg = p := nI_clamp (by omega)
        obtain ⟨far1, far2⟩ := y_hk_far Y_ (nI c) _ n hs (by omega) k (by omega) p (by omega)
        have owZ : ∀ i, i < 12 → y_hk Y_ (nI c) (m (9, 0, 9)) k 1 i = -1 ∨ vp_in (y_hk Y_ (nI c) (m (9, 0, 9)) k 1 i) 5 := by
          intro i h12
          rcases y_hk_1 Y_ (nI c) (m (9, 0, 9)) k i with h | h
          · exact Or.inl h
          · rw [h]
            exact y_iow hi i h12
        have eL : ch_lineB (y_hk Y_ (nI c) (m (9, 0, 9)) k) (nI c) (nI p) = ch_lineB Y_ (nI c) (nI p) := y_lineB_cg (by omega) far1
        refine g_m_hops_25 g _ _ _ _ _ _ ?_
        simp only [ch_oi_iff, forall_eq, ch_os_at, ch_os_wr, e21, a3, a4, ef, eps, cp]
        refine ⟨fun z => absurd z a1, fun _ => ⟨vp_in_nI (by omega) (by decide), y_hk Y_ (nI c) (m (9, 0, 9)) k, r, owZ, nI_pos (by omega), fun d => ?_, fun d => ?_⟩⟩
        · have hp12 : p < 12 := by
            by_cases h : p < 12
            · exact h
            · exact absurd (nI_le (a := 12) (by omega) (by omega)) d.2.1
          have hl : ch_lineB (y_hk Y_ (nI c) (m (9, 0, 9)) k) (nI c) (nI p) = true := (ch_lineB_iff _ _ _).mpr d
          obtain ⟨-, -, d3, -⟩ := d
          rw [cp, far1] at d3
          obtain ⟨hv2, hw⟩ := hi.2.1 p hp12
          obtain ⟨o, ho, eo, ev⟩ := hw.resolve_left (fun z => d3 z.1)
          have ho5 : o < 5 := by
            obtain ⟨z, hz, ez⟩ := vp_in_of (y_i8 hi) (by decide)
            rw [ez, nI_clamp (by omega)] at ho
            omega
          obtain ⟨v, hv, evv⟩ := vp_in_of hv2 (by decide)
          have hv0 : v ≠ 0 := fun z => ev (by rw [evv, z]; decide)
          obtain ⟨u, rfl⟩ : ∃ u, v = u + 1 := ⟨v - 1, by omega⟩
          have eoB : B' 1 (14 + 2 * p) - 1 = nI o := (m_ow r hp12).trans (far1.trans eo)
          have co : (nI o).toNatClampNeg = o := nI_clamp (by omega)
          obtain ⟨s1, s2, s3⟩ := m_hs_rel r hp12 ho5 (far1.trans eo) (far2.trans evv) (by omega) hl
          simp only [eoB, co, m_e14, m_e15', nI_clamp (show 15 + 2 * p < 2 ^ 31 by omega), nI_clamp (show 14 + 2 * p < 2 ^ 31 by omega), s1]
          have ect : y_ct Y_ (nI c) (m (9, 0, 9)) (k + 1) = y_ct Y_ (nI c) (m (9, 0, 9)) k + 1 := by
            rw [y_ct, if_pos (by rw [hp2, ← eL]; exact hl)]
          have ih2 : ∀ B' : ch_B, m_rel (y_hs (y_hk Y_ (nI c) (m (9, 0, 9)) k) (nI c) (nI p)) (B' 1) → (∀ a i, a ≠ 1 → B' a i = ch_ob m 9 0 a i) → _ := fun B' h1 h2 => ih B' (by
            show m_rel (y_hs _ _ (ch_ps _ (k + 1))) _
            rw [hp2]
            exact h1) h2
          rw [ect, hp2] at ih2
          refine ⟨vp_in_nI hp12 (by decide), vp_in_nI ho5 (by decide), vp_in_nI (by omega) (by decide), fun z => ih2 _ (s2 (fun y => z (by rw [y]; decide))) ?_, fun z => ih2 _ (s3 ?_) ?_⟩
          · intro a i h1
            rw [ch_bw_c h1, ch_bw_c h1]
            exact f0 a i h1
          · by_cases h : u = 0
            · exact h
            · exact absurd z (nI_ne0 (by omega) (by omega))
          · intro a i h1
            rw [ch_bw_c h1, ch_bw_c h1, ch_bw_c h1, ch_bw_c h1]
            exact f0 a i h1
        · have hl : ¬ ch_lineB (y_hk Y_ (nI c) (m (9, 0, 9)) k) (nI c) (nI p) = true := fun z => d ((ch_lineB_iff _ _ _).mp z)
          have ect : y_ct Y_ (nI c) (m (9, 0, 9)) (k + 1) = y_ct Y_ (nI c) (m (9, 0, 9)) k := by
            rw [y_ct, if_neg (by rw [hp2, ← eL]; exact hl)]
          have ez : y_hk Y_ (nI c) (m (9, 0, 9)) (k + 1) = y_hk Y_ (nI c) (m (9, 0, 9)) k := by
            show y_hs _ _ (ch_ps _ (k + 1)) = _
            rw [hp2]
            exact if_neg hl
          rw [ez, ect, hp2] at ih
          exact ih B' r f0
    have h0 := key 0 (by omega) (ch_ob m 9 0) hr (fun _ _ _ => rfl)
    rw [ch_os_self] at h0
    exact h0
  · rw [cn] at d ⊢
    simp only [ch_oi_iff, forall_eq, ch_os_wr, ch_wr_os, ch_ob_os, ch_os_os, ch_os_at]
    exact hb d
