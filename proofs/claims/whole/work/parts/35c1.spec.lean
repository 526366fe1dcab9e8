theorem rw_110 {Y K : ch_B} {f : Nat → Int32} {n : Int32} {N : Nat} (e : K 0 1 = 110) : r_w Y K f n = r_wn Y (K 0 4) ∧ (y_car Y K f N).2 = y_briB Y (K 0 4) := by
  unfold r_w y_car
  rw [e]
  exact ⟨rfl, rfl⟩
theorem rw_99 {Y K : ch_B} {f : Nat → Int32} {n : Int32} {N : Nat} (e : K 0 1 = 99) : r_w Y K f n = r_wc Y (K 0 2) (K 0 4) ∧ (y_car Y K f N).2 = y_chaB Y (K 0 2) (K 0 4) := by
  unfold r_w y_car
  rw [e]
  exact ⟨rfl, rfl⟩
theorem rw_104 {Y K : ch_B} {f : Nat → Int32} {n : Int32} {N : Nat} (e : K 0 1 = 104) : r_w Y K f n = r_wh Y (K 0 2) f n ∧ (y_car Y K f N).2 = y_hopB Y (K 0 2) f N := by
  unfold r_w y_car
  rw [e]
  exact ⟨rfl, rfl⟩
theorem rw_119 {Y K : ch_B} {f : Nat → Int32} {n : Int32} {N : Nat} (e : K 0 1 = 119) : r_w Y K f n = r_ww Y (K 0 2) ∧ (y_car Y K f N).2 = y_wriB Y (K 0 2) := by
  unfold r_w y_car
  rw [e]
  exact ⟨rfl, rfl⟩
theorem rw_115 {Y K : ch_B} {f : Nat → Int32} {n : Int32} {N : Nat} (e : K 0 1 = 115) : r_w Y K f n = r_ws Y (K 0 2) ∧ (y_car Y K f N).2 = y_strB Y (K 0 2) := by
  unfold r_w y_car
  rw [e]
  exact ⟨rfl, rfl⟩
theorem rw_114 {Y K : ch_B} {f : Nat → Int32} {n : Int32} {N : Nat} (e : K 0 1 = 114) : r_w Y K f n = r_wr Y (K 0 4) ∧ (y_car Y K f N).2 = y_washB Y (K 0 4) := by
  unfold r_w y_car
  rw [e]
  exact ⟨rfl, rfl⟩
theorem rw_116 {Y K : ch_B} {f : Nat → Int32} {n : Int32} {N : Nat} (e : K 0 1 = 116) : r_w Y K f n = r_wt Y ∧ (y_car Y K f N).2 = y_termB Y := by
  unfold r_w y_car
  rw [e]
  exact ⟨rfl, rfl⟩
theorem rw_103 {Y K : ch_B} {f : Nat → Int32} {n : Int32} {N : Nat} (e : K 0 1 = 103) : r_w Y K f n = r_wg Y (K 0 2) (K 0 3) (K 0 4) ∧ (y_car Y K f N).2 = y_givB Y (K 0 2) (K 0 3) (K 0 4) := by
  unfold r_w y_car
  rw [e]
  exact ⟨rfl, rfl⟩
set_option maxHeartbeats 1600000 in
theorem s_m_carries (g : ch_G) (q : Int32 → ch_M → Prop) (T_ : Nat) (Y_ : ch_B) (K_ : ch_B) (S_ : ch_B) (m : ch_M) (h : (m_rel Y_ (m (9, 0, 1))) ∧ (y_inv T_ Y_) ∧ (m_cmK K_ S_ (ch_ob m 9 0)) ∧ (((r_w Y_ K_ (S_ 1) (S_ 0 1)).1 = 0) → (∀ (B_ : ch_B), (m_rel (y_car Y_ K_ (S_ 1) (Int32.toNatClampNeg (S_ 0 1))).2 (B_ 1)) → (∀ a_ i_, a_ ≠ 1 → ¬ (a_ = 0 ∧ i_ = 18) → B_ a_ i_ = ch_ob m 9 0 a_ i_) → q 1 (ch_os m 9 0 B_))) ∧ ((¬ (r_w Y_ K_ (S_ 1) (S_ 0 1)).1 = 0) → q 0 (ch_os m 9 0 (m_refB (ch_ob m 9 0) (r_w Y_ K_ (S_ 1) (S_ 0 1)).1 (r_w Y_ K_ (S_ 1) (S_ 0 1)).2)))) : ch_C g m_m_carries [.inr (9, 0, 0)] m (ch_oi q) := by
  refine e_m_carries g _  m ?_
  obtain ⟨hr, hi, hk, ha, hb⟩ := h
  obtain ⟨kw, kd, k110, k99, k104, k119, k115, k114, k103⟩ := hk
  have kw : m (9, 0, 0) 12 = K_ 0 1 := kw
  have hB : m_rel Y_ (ch_ob m 9 0 1) := hr
  have h8 := y_i8 hi
  have g8 : vp_in (m (9, 0, 1) 0) 6 := by rw [m_co hr]; exact h8
  have dead : ∀ x : Int32, ¬ d_kd x → ∀ P : Prop, m (9, 0, 0) 12 = x → P := fun x hx P e => absurd (by rw [← e, kw]; exact kd) hx
  have hdid : ∀ (B Y1 : ch_B) a, m_did (ch_ob m 9 0) B Y1 a → ∀ a i, a ≠ 1 → ¬ (a = 0 ∧ i = 18) → B a i = ch_ob m 9 0 a i := fun B Y1 a h => h.2.2
  refine g_m_carries_0 g _ _ ?_
  simp only [forall_eq, ch_oi_iff, ch_wr_os, ch_ob_os, ch_os_os, ch_os_wr]
  have t8 : ∀ i, m (9, 0, 8) i = ch_ob m 9 0 8 i := fun i => rfl
  simp only [t8]
  refine ⟨fun e => ?_, dead _ (by unfold d_kd; decide) _, dead _ (by unfold d_kd; decide) _, dead _ (by unfold d_kd; decide) _, fun e => ?_, fun e => ?_, dead _ (by unfold d_kd; decide) _, dead _ (by unfold d_kd; decide) _, dead _ (by unfold d_kd; decide) _, dead _ (by unfold d_kd; decide) _, dead _ (by unfold d_kd; decide) _, fun e => ?_, dead _ (by unfold d_kd; decide) _, dead _ (by unfold d_kd; decide) _, dead _ (by unfold d_kd; decide) _, fun e => ?_, fun e => ?_, fun e => ?_, dead _ (by unfold d_kd; decide) _, dead _ (by unfold d_kd; decide) _, fun e => ?_, fun e => ?_⟩
  · have ek := kw.symm.trans e
    obtain ⟨w1, w2⟩ := rw_99 (Y := Y_) (f := S_ 1) (n := S_ 0 1) (N := (S_ 0 1).toNatClampNeg) ek
    obtain ⟨u1, u2⟩ := k99 ek
    rw [w1, w2] at ha
    rw [w1] at hb
    rw [u1, u2]
    exact ⟨T_, Y_, hr, hi, fun c B hd => ha c B hd.1 hd.2.2, fun c => hb c⟩
  · have ek := kw.symm.trans e
    obtain ⟨w1, w2⟩ := rw_103 (Y := Y_) (f := S_ 1) (n := S_ 0 1) (N := (S_ 0 1).toNatClampNeg) ek
    obtain ⟨u1, u2, u3⟩ := k103 ek
    rw [w1, w2] at ha
    rw [w1] at hb
    rw [u1, u2, u3]
    exact ⟨T_, Y_, hr, hi, fun c B hd => ha c B hd.1 hd.2.2, fun c => hb c⟩
  · have ek := kw.symm.trans e
    obtain ⟨w1, w2⟩ := rw_104 (Y := Y_) (f := S_ 1) (n := S_ 0 1) (N := (S_ 0 1).toNatClampNeg) ek
    obtain ⟨u1, n, hn1, hn12, en, b21, b9⟩ := k104 ek
    have cn : (S_ 0 1).toNatClampNeg = n := by rw [en, nI_clamp (by omega)]
    rw [w1, w2, cn] at ha
    rw [w1] at hb
    rw [u1]
    have f21 : m (9, 0, 0) 21 = nI n := b21
    have c21 : (m (9, 0, 0) 21).toNatClampNeg = n := by rw [f21, nI_clamp (by omega)]
    have hst : ∀ i, i < n → 1 ≤ S_ 1 i ∧ S_ 1 i ≤ 3 := fun i h => (b9 i h).2
    have h9 : ∀ i, i < n → m (9, 0, 9) i = S_ 1 i := fun i h => (b9 i h).1
    obtain ⟨v1, v2⟩ := y_mf_over _ n hst hn12 hn1
    have eO := y_mfO_cg (f := m (9, 0, 9)) (f' := S_ 1) (n := n) h9
    have eP := ch_ps_cg (f := m (9, 0, 9)) (f' := S_ 1) (n := n) h9
    unfold r_wh at ha hb
    have en0 : ¬ S_ 0 1 = 0 := by rw [en]; exact nI_ne0 (by omega) (by omega)
    refine ⟨g8, fun c => ?_, fun c => ?_, fun c => ?_⟩
    · have c1 : 0 ≤ K_ 0 2 ∧ K_ 0 2 < Y_ 0 8 := (m_chi h8).mp (by rw [← m_co hr]; exact c.1)
      have hv := m_chv h8 c1
      obtain ⟨k, hk5, ekk⟩ := vp_in_of hv (by decide)
      have ck : (K_ 0 2).toNatClampNeg = k := by rw [ekk, nI_clamp (by omega)]
      have c2 := c.2
      rw [ck, m_wa hr hk5] at c2
      rw [if_pos c1, ck, if_pos (by rw [c2]; decide), if_neg en0, cn] at ha hb
      rw [c21, eO, eP]
      refine ⟨T_, Y_, hr, hi, hv, by rw [f21]; exact vp_in_nI (by omega) (by decide), fun i h => by rw [h9 i h]; exact hst i h, fun ov B hd => ?_, fun ov => ?_⟩
      · rw [if_pos (v1.mpr ov)] at ha
        rw [y_hopB_cg h9] at hd
        exact ha rfl B hd.1 hd.2.2
      · have hne : ¬ y_mf (S_ 1) n = -1 := fun z => ov (v1.mp z)
        rw [if_neg hne, v2 hne] at hb
        exact hb (m_nz (by decide))
    · rw [if_neg (fun z => c (by rw [m_co hr]; exact (m_chi h8).mpr z))] at hb
      rw [m_co hr]
      exact hb (m_nz (by decide))
    · have c1 : 0 ≤ K_ 0 2 ∧ K_ 0 2 < Y_ 0 8 := (m_chi h8).mp (by rw [← m_co hr]; exact c.1)
      have hv := m_chv h8 c1
      obtain ⟨k, hk5, ekk⟩ := vp_in_of hv (by decide)
      have ck : (K_ 0 2).toNatClampNeg = k := by rw [ekk, nI_clamp (by omega)]
      have c2 := c.2
      rw [ck, m_wa hr hk5] at c2
      obtain ⟨w, hw, ew⟩ := vp_in_of (y_i5 hi hk5) (by decide)
      rw [if_pos c1, ck, if_neg (by
        rw [ew] at c2 ⊢
        exact nI_nle (by have : w ≠ 0 := fun z => c2 (by rw [z]; decide)
                         omega) (by omega))] at hb
      rw [ck, m_wa hr hk5]
      exact hb (m_nz (by decide))
  · have ek := kw.symm.trans e
    obtain ⟨w1, w2⟩ := rw_110 (Y := Y_) (f := S_ 1) (n := S_ 0 1) (N := (S_ 0 1).toNatClampNeg) ek
    rw [w1, w2] at ha
    rw [w1] at hb
    rw [k110 ek]
    exact ⟨T_, Y_, hr, hi, fun c B hd => ha c B hd.1 hd.2.2, fun c => hb c⟩
  · have ek := kw.symm.trans e
    obtain ⟨w1, w2⟩ := rw_114 (Y := Y_) (f := S_ 1) (n := S_ 0 1) (N := (S_ 0 1).toNatClampNeg) ek
    rw [w1, w2] at ha
    rw [w1] at hb
    rw [k114 ek]
    exact ⟨T_, Y_, hr, hi, fun c B hd => ha c B hd.1 hd.2.2, fun c => hb c⟩
  · have ek := kw.symm.trans e
    obtain ⟨w1, w2⟩ := rw_115 (Y := Y_) (f := S_ 1) (n := S_ 0 1) (N := (S_ 0 1).toNatClampNeg) ek
    rw [w1, w2] at ha
    rw [w1] at hb
    rw [k115 ek]
    exact ⟨T_, Y_, hr, hi, fun c B hd => ha c B hd.1 hd.2.2, fun c => hb c⟩
  · have ek := kw.symm.trans e
    obtain ⟨w1, w2⟩ := rw_116 (Y := Y_) (f := S_ 1) (n := S_ 0 1) (N := (S_ 0 1).toNatClampNeg) ek
    rw [w1, w2] at ha
    rw [w1] at hb
    unfold r_wt at ha hb
    obtain ⟨n, hn, en⟩ := vp_in_of h8 (by decide)
    have e0 : m (9, 0, 1) 0 = nI n := (m_co hr).trans en
    rw [e0]
    refine ⟨fun z => ?_, fun z => ⟨T_, Y_, hr, hi, fun B h1 h2 => ?_⟩⟩
    · have n0 : n = 0 := by
        by_cases l : n = 0
        · exact l
        · exact absurd z (nI_nle (by omega) (by omega))
      rw [if_pos (by rw [en, n0]; decide)] at hb
      exact hb (m_nz (by decide))
    · rw [if_neg (by rw [en]; exact fun y => z (by rw [y]; decide))] at ha
      refine ha rfl _ ?_ (fun a i h3 h4 => ?_)
      · rw [ch_bw1 (by decide)]
        exact h1
      · unfold ch_bw
        rw [if_neg h4]
        exact h2 a i h3
  · have ek := kw.symm.trans e
    obtain ⟨w1, w2⟩ := rw_119 (Y := Y_) (f := S_ 1) (n := S_ 0 1) (N := (S_ 0 1).toNatClampNeg) ek
    rw [w1, w2] at ha
    rw [w1] at hb
    rw [k119 ek]
    exact ⟨T_, Y_, hr, hi, fun c B hd => ha c B hd.1 hd.2.2, fun c => hb c⟩
  · exfalso
    rw [kw] at e
    unfold d_kd at kd
    rcases kd with h | h | h | h | h | h | h | h
    all_goals
      rw [h] at e
      revert e
      decide
