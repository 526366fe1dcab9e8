theorem ch_ps_cg {f f' : Nat → Int32} {n : Nat} (h : ∀ k, k < n → f k = f' k) : ch_ps f n = ch_ps f' n := by
  induction n with
  | zero => rfl
  | succ n ih =>
    show ch_ps f n + f n = ch_ps f' n + f' n
    rw [ih (fun k hk => h k (by omega)), h n (by omega)]
theorem y_mfO_cg {f f' : Nat → Int32} {n : Nat} (h : ∀ k, k < n → f k = f' k) : y_mfO f n = y_mfO f' n := by
  induction n with
  | zero => rfl
  | succ n ih =>
    rw [y_mfO, y_mfO, ih (fun k hk => h k (by omega)), ch_ps_cg (fun k hk => h k (by omega))]
theorem y_ct_cg {Y : ch_B} {c : Int32} {f f' : Nat → Int32} {n : Nat} (h : ∀ k, k < n → f k = f' k) : y_ct Y c f n = y_ct Y c f' n := by
  induction n with
  | zero => rfl
  | succ n ih =>
    rw [y_ct, y_ct, ih (fun k hk => h k (by omega)), ch_ps_cg h]
theorem y_hk_cg {Y : ch_B} {c : Int32} {f f' : Nat → Int32} {n : Nat} (h : ∀ k, k < n → f k = f' k) : y_hk Y c f n = y_hk Y c f' n := by
  induction n with
  | zero => rfl
  | succ n ih =>
    rw [y_hk, y_hk, ih (fun k hk => h k (by omega)), ch_ps_cg h]
theorem y_hopB_cg {Y : ch_B} {c : Int32} {f f' : Nat → Int32} {n : Nat} (h : ∀ k, k < n → f k = f' k) : y_hopB Y c f n = y_hopB Y c f' n := by
  unfold y_hopB
  rw [y_hk_cg h, y_ct_cg h]
theorem y_mf_over (f : Nat → Int32) (n : Nat) (h : ∀ i, i < n → 1 ≤ f i ∧ f i ≤ 3) (hn : n ≤ 12) (h1 : 1 ≤ n) : (y_mf f n = -1 ↔ ¬ y_mfO f n = true ∧ ¬ ch_ps f n < 11) ∧ (¬ y_mf f n = -1 → y_mf f n = if y_mfO f n = true then 12 else ch_ps f n) := by
  obtain ⟨a, b, e⟩ := m_pp f n h hn n (Nat.le_refl n)
  have hp : ¬ ch_ps f n = -1 := by
    rw [e]
    obtain ⟨j, ej⟩ : ∃ j, y_pp f n = j + 1 := ⟨y_pp f n - 1, by omega⟩
    rw [ej, nI_pred]
    exact fun z => nI_pos (n := j) (by omega) (by rw [z]; decide)
  unfold y_mf
  by_cases hO : y_mfO f n = true
  · rw [if_pos hO]
    exact ⟨⟨fun z => absurd z (by decide), fun z => absurd hO z.1⟩, fun _ => (if_pos hO).symm⟩
  · rw [if_neg hO]
    by_cases l : ch_ps f n < 11
    · rw [if_pos l]
      exact ⟨⟨fun z => absurd z hp, fun z => absurd l z.2⟩, fun _ => (if_neg hO).symm⟩
    · rw [if_neg l]
      exact ⟨⟨fun _ => ⟨hO, l⟩, fun _ => rfl⟩, fun z => absurd rfl z⟩
theorem s_rfB_st (A : ch_B) (x : Int32) : ∃ n, n < 10 ∧ s_rfB A x 0 1 = nI n ∧ ∀ k, k < n → 1 ≤ s_rfB A x 1 k ∧ s_rfB A x 1 k ≤ 3 := by
  have hl := s_rc_le x
  have e : s_rfB A x 0 1 = (if s_ok (s_rf A x) (s_rc x) = true then nI (s_rc x) else 0) := rfl
  rw [e]
  by_cases h : s_ok (s_rf A x) (s_rc x) = true
  · rw [if_pos h]
    exact ⟨s_rc x, by omega, rfl, (s_ok_iff _ _).mp h⟩
  · rw [if_neg h]
    exact ⟨0, by omega, rfl, fun k hk => absurd hk (by omega)⟩
theorem ch_os_p (m : ch_M) (ci j c : Nat) (B : ch_B) : ch_os m ci j B (ci, j, c) = B c := by
  funext k
  exact ch_os_at m ci j c k B
theorem m_done_of2 {B B2 Y' : ch_B} (h1 : m_rel Y' (B2 1)) (h3 : ∀ c k, c ≠ 1 → c ≠ 9 → ¬ (c = 0 ∧ (k = 18 ∨ k = 21)) → B2 c k = m_trB B c k) : m_done B (m_kB B2) Y' := by
  have o : ∀ c k, c ≠ 1 → c ≠ 2 → c ≠ 9 → ¬ (c = 0 ∧ (k = 18 ∨ k = 19 ∨ k = 21)) → B2 c k = B c k := fun c k h5 h6 h8 h7 => (h3 c k h5 h8 (by omega)).trans (m_trB_o (by omega) h6)
  refine ⟨?_, ?_, m_kB_push (o 0 4 (by decide) (by decide) (by decide) (by omega)) (fun i hi => (h3 2 i (by decide) (by decide) (by omega)).trans (m_trB_2 hi)) (fun i => o 4 i (by decide) (by decide) (by decide) (by omega)), ⟨fun a i ha => ?_, fun i hi => ?_⟩, ?_, ?_, ?_⟩
  · have : m_kB B2 1 = B2 1 := by
      funext i
      exact m_kB_o (by omega) (by decide)
    rw [this]
    exact h1
  · rw [m_kB_o (by omega) (by decide), h3 0 19 (by decide) (by decide) (by omega)]
    unfold m_trB m_trK
    rw [if_pos ⟨rfl, rfl⟩]
  · rw [m_kB_o (by omega) (by omega)]
    exact o a i (by omega) (by omega) (by omega) (by omega)
  · rw [m_kB_o (by omega) (by omega)]
    exact o 0 i (by omega) (by omega) (by omega) (by omega)
  · rw [m_kB_o (by omega) (by omega)]
    exact o 0 15 (by omega) (by omega) (by omega) (by omega)
  · rw [m_kB_o (by omega) (by omega)]
    exact o 0 16 (by omega) (by omega) (by omega) (by omega)
  · rw [m_kB_o (by omega) (by omega)]
    exact o 0 17 (by omega) (by omega) (by omega) (by omega)
theorem m_rfd_of2 {B B8 : ch_B} (w d : Int32) (h3 : ∀ c k, c ≠ 9 → ¬ (c = 0 ∧ k = 21) → B8 c k = m_trB B c k) : m_rfd B (ch_bw (m_refB B8 w d) 0 19 1) w d := by
  have o : ∀ c k, c ≠ 2 → c ≠ 9 → ¬ (c = 0 ∧ (k = 15 ∨ k = 16 ∨ k = 17 ∨ k = 19 ∨ k = 21)) → ch_bw (m_refB B8 w d) 0 19 1 c k = B c k := by
    intro c k h1 h4 h2
    unfold m_refB
    unfold ch_bw
    rw [if_neg (by omega), if_neg (by omega), if_neg (by omega), if_neg (by omega)]
    exact (h3 c k h4 (by omega)).trans (m_trB_o (by omega) h1)
  refine ⟨fun i => o 1 i (by omega) (by omega) (by omega), ch_bw_at _ _ _ _, ⟨?_, ?_, ?_⟩, ⟨o 0 4 (by omega) (by omega) (by omega), fun i => o 4 i (by omega) (by omega) (by omega)⟩, fun a i ha => o a i (by omega) (by omega) (by omega), fun i hi => o 0 i (by omega) (by omega) (by omega)⟩
  · unfold m_refB ch_bw
    simp
  · unfold m_refB ch_bw
    simp
  · unfold m_refB ch_bw
    simp
set_option maxHeartbeats 1600000 in
theorem s_m_hop (g : ch_G) (q : Int32 → ch_M → Prop) (T_ : Nat) (Y_ : ch_B) (A_ : ch_B) (p1 : Int32) (p2 : Int32) (m : ch_M) (h : (m_rel Y_ (m (9, 0, 1))) ∧ (y_inv T_ Y_) ∧ (vp_in (m (9, 0, 0) 4) 9) ∧ (((r_wh Y_ p1 (s_rfB A_ p2 1) (s_rfB A_ p2 0 1)).1 = 0) → (∀ (B_ : ch_B), (m_done (ch_ob m 9 0) B_ (y_hopB Y_ p1 (s_rfB A_ p2 1) (Int32.toNatClampNeg (s_rfB A_ p2 0 1)))) → q (y_ct Y_ p1 (s_rfB A_ p2 1) (Int32.toNatClampNeg (s_rfB A_ p2 0 1))) (ch_os m 9 0 B_))) ∧ ((¬ (r_wh Y_ p1 (s_rfB A_ p2 1) (s_rfB A_ p2 0 1)).1 = 0) → (∀ (B_ : ch_B), (m_rfd (ch_ob m 9 0) B_ (r_wh Y_ p1 (s_rfB A_ p2 1) (s_rfB A_ p2 0 1)).1 (r_wh Y_ p1 (s_rfB A_ p2 1) (s_rfB A_ p2 0 1)).2) → q 0 (ch_os m 9 0 B_)))) : ch_C g m_m_hop [.inr (9, 0, 0), .inl (.int p1), .inl (.int p2)] m (ch_oi q) := by
  refine e_m_hop g _ p1 p2 m ?_
  obtain ⟨hr, hi, h4, ha, hb⟩ := h
  have e1 : m_trB (ch_ob m 9 0) 1 = ch_ob m 9 0 1 := m_trB_1 _
  have e0 : ch_ob m 9 0 1 0 = Y_ 0 8 := m_co hr
  have hB : m_rel Y_ (ch_ob m 9 0 1) := hr
  have h8 := y_i8 hi
  have e4 : m_trB (ch_ob m 9 0) 0 4 = m (9, 0, 0) 4 := m_trB_o (by omega) (by omega)
  unfold r_wh at ha hb
  refine g_m_hop_0 g _ _ _ _ ?_
  simp only [forall_eq, ch_oi_iff, ch_ob_os, ch_os_os, ch_os_p, e1, e0, ch_wr_os, ch_os_wr]
  refine ⟨h8, fun c => ⟨A_, fun d B8 f1 f2 f3 => ?_, fun d B8 f1 => ?_⟩, fun c => ?_, fun c => ?_⟩
  · have c1 : 0 ≤ p1 ∧ p1 < Y_ 0 8 := (m_chi h8).mp c.1
    have hv := m_chv h8 c1
    obtain ⟨k, hk, rfl⟩ := vp_in_of hv (by decide)
    have ck : (nI k).toNatClampNeg = k := nI_clamp (by omega)
    have c2 := c.2
    rw [ck, m_wa hB hk] at c2
    obtain ⟨n, hn, en, hst⟩ := s_rfB_st A_ p2
    have cn : (s_rfB A_ p2 0 1).toNatClampNeg = n := by rw [en, nI_clamp (by omega)]
    have hn1 : 1 ≤ n := by
      by_cases l : 1 ≤ n
      · exact l
      · exact absurd (by rw [en, show n = 0 by omega]; decide) d
    rw [cn] at f3
    rw [if_pos c1, ck, if_pos (by rw [c2]; decide), if_neg d, cn] at ha hb
    have e8 : B8 1 = ch_ob m 9 0 1 := by
      funext i
      rw [f1 1 i (by decide) (by omega), e1]
    have o8 : ∀ c k, c ≠ 9 → ¬ (c = 0 ∧ k = 21) → B8 c k = m_trB (ch_ob m 9 0) c k := f1
    have c21 : (B8 0 21).toNatClampNeg = n := by rw [f2, cn]
    obtain ⟨v1, v2⟩ := y_mf_over _ n hst (by omega) hn1
    have eO := y_mfO_cg (f := B8 9) (f' := s_rfB A_ p2 1) (n := n) f3
    have eP := ch_ps_cg (f := B8 9) (f' := s_rfB A_ p2 1) (n := n) f3
    have eC := y_ct_cg (Y := Y_) (c := nI k) (f := B8 9) (f' := s_rfB A_ p2 1) (n := n) f3
    have eH := y_hopB_cg (Y := Y_) (c := nI k) (f := B8 9) (f' := s_rfB A_ p2 1) (n := n) f3
    rw [c21, eO, eP]
    refine ⟨T_, Y_, by rw [e8]; exact hB, hi, hv, by rw [f2, en]; exact vp_in_nI (by omega) (by decide), fun i h => by rw [f3 i h]; exact hst i h, fun ov B hd => ⟨?_, ?_⟩, fun ov => ?_⟩
    · rw [hd.2.2 0 4 (by decide) (by omega), o8 0 4 (by decide) (by omega), e4]
      exact h4
    · rw [if_pos (v1.mpr ov)] at ha
      rw [eC, eH] at hd
      rw [hd.2.1]
      refine ha rfl _ (m_done_of2 hd.1 (fun a i h5 h6 h7 => (hd.2.2 a i h5 (by omega)).trans (o8 a i h6 (by omega))))
    · have hne : ¬ y_mf (s_rfB A_ p2 1) n = -1 := fun z => ov (v1.mp z)
      rw [if_neg hne, v2 hne] at hb
      exact hb (m_nz (by decide)) _ (m_rfd_of2 _ _ o8)
  · have c1 : 0 ≤ p1 ∧ p1 < Y_ 0 8 := (m_chi h8).mp c.1
    have hv := m_chv h8 c1
    obtain ⟨k, hk, rfl⟩ := vp_in_of hv (by decide)
    have ck : (nI k).toNatClampNeg = k := nI_clamp (by omega)
    have c2 := c.2
    rw [ck, m_wa hB hk] at c2
    rw [if_pos c1, ck, if_pos (by rw [c2]; decide), if_pos d] at hb
    exact hb (m_nz (by decide)) _ (m_rfd_of2 1 0 f1)
  · rw [if_neg (fun z => c ((m_chi h8).mpr z))] at hb
    exact hb (m_nz (by decide)) _ (m_rfd_of _ _ _)
  · have c1 : 0 ≤ p1 ∧ p1 < Y_ 0 8 := (m_chi h8).mp c.1
    have hv := m_chv h8 c1
    obtain ⟨k, hk, rfl⟩ := vp_in_of hv (by decide)
    have ck : (nI k).toNatClampNeg = k := nI_clamp (by omega)
    have c2 := c.2
    rw [ck, m_wa hB hk] at c2
    obtain ⟨w, hw, ew⟩ := vp_in_of (y_i5 hi hk) (by decide)
    rw [ck, m_wa hB hk]
    rw [if_pos c1, ck, if_neg (by
      rw [ew] at c2 ⊢
      exact nI_nle (by have : w ≠ 0 := fun z => c2 (by rw [z]; decide)
                       omega) (by omega))] at hb
    exact hb (m_nz (by decide)) _ (m_rfd_of _ _ _)
