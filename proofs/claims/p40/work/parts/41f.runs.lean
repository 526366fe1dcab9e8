/-- the texts of the law that are run as they stand -/
def l_tx (g : ch_G) : Prop := (ch_tx g).getD 3 [] = [113] ∧ (ch_tx g).getD 4 [] = [116, 59, 116, 59, 115, 57] ∧ (ch_tx g).getD 5 [] = [116, 59, 103, 49, 62, 49, 42, 49]
theorem l_hc (l : List Int32) (h : (List.range l.length).all (fun i => decide (vp_nar .char (k_ch (l.getD i 0)) = l.getD i 0)) = true) : ∀ i, i < l.length → vp_nar .char (k_ch (l.getD i 0)) = l.getD i 0 := fun i hi => of_decide_eq_true (List.all_eq_true.mp h i (List.mem_range.mpr hi))
theorem r3_l_runs (g : ch_G) (q : Int32 → ch_M → Prop) (A_ : a_G) (Y_ : ch_B) (R_ : Int32 × Int32 × Int32) (j1 : Nat) (m : ch_M) (h : (a_W A_ Y_ R_ m) ∧ (j1 = 3) ∧ (l_tx g) ∧ (∀ (M_ : ch_M), (a_W A_ Y_ (M_ (3, 0, 0) 0, M_ (3, 0, 0) 1, M_ (3, 0, 0) 2) M_) → (M_ (0, 0, 0) 13 = 0) → q (-1001) (M_))) : ch_C g m_l_runs [.inr (0, 0, 0), .inr (12, j1, 0)] m (ch_oi q) := by
  obtain ⟨hW, rfl, ht, hq⟩ := h
  have h0 : m (6, 0, 0) 1 = 0 := hW.1.2.2.2.2.1.trans hW.2.1.1
  have hF : (x_F (l_tM g m 3)).1 = 0 := by
    rw [x_F_cb (l_txt_eq ht.1 (by decide) h0 (l_hc _ (by decide +kernel)))]
    decide +kernel
  have hn : ch_tn g 3 ≤ 60 := by
    unfold ch_tn
    rw [ht.1]
    decide
  refine s_l_runs g q A_ 3 m ⟨hW.1, hW.2.1.1, hW.2.1.2.1, hW.2.1.2.2, hn, fun z => absurd z.1 (by rw [hF]; decide), fun z M h1 h2 h3 _ => ?_, fun z => absurd z.1 (by rw [hF]; decide)⟩
  exact hq M ⟨h1, hW.2.1, by rw [h2]; exact hW.2.2.1, rfl, rfl, rfl⟩ (h3.trans hF)
theorem x_cc_at (X : ch_M) : ∃ K S, x_p0 (x_b X) = d_mk (ch_os (x_b X) 1 0 (ch_ob X 1 0)) K S 0 ∧ ch_ob (x_b X) 6 0 = ch_ob X 6 0 := by
  have e1 : ch_ob (x_b X) 1 0 = ch_ob X 1 0 := x_b_ob (by omega) (by omega) (by omega) (by omega) (by omega)
  refine ⟨ch_ob (x_b X) 4 0, ch_ob (x_b X) 5 0, ?_, x_b_ob (by omega) (by omega) (by omega) (by omega) (by omega)⟩
  rw [x_p0_mk, ← e1, ch_os_self]
theorem r4_l_runs (g : ch_G) (q : Int32 → ch_M → Prop) (A_ : a_G) (Y_ : ch_B) (R_ : Int32 × Int32 × Int32) (j1 : Nat) (m : ch_M) (h : (a_W A_ Y_ R_ m) ∧ (j1 = 4) ∧ (l_tx g) ∧ ((2 : Int32) ≤ Y_ 0 8) ∧ (∀ (M_ : ch_M), (a_W A_ Y_ (3, Y_ 0 8, 2) M_) → q (-1002) (M_))) : ch_C g m_l_runs [.inr (0, 0, 0), .inr (12, j1, 0)] m (ch_oi q) := by
  obtain ⟨hW, rfl, ht, h2, hq⟩ := h
  have h0 : m (6, 0, 0) 1 = 0 := hW.1.2.2.2.2.1.trans hW.2.1.1
  have hT := l_txt_eq ht.2.1 (by decide) h0 (l_hc _ (by decide +kernel))
  have hF : (x_F (l_tM g m 4)).1 = -1 := by
    rw [x_F_cb hT]
    decide +kernel
  have hn : ch_tn g 4 ≤ 60 := by
    unfold ch_tn
    rw [ht.2.1]
    decide
  obtain ⟨N, hN, eN⟩ := vp_in_of (y_i8 hW.1.1) (by decide)
  have eN8 : m (1, 0, 0) 8 = nI N := eN
  have e8 : Y_ 0 8 = nI N := (a_W_8 hW).symm.trans eN8
  have e10 : ch_ob (l_tM g m 4) 1 0 = ch_ob m 1 0 := ch_ob_ne (by omega)
  obtain ⟨K, S, ep, e6⟩ := x_cc_at (l_tM g m 4)
  have hs := d_sg_eq hT
  rw [← e6] at hs
  have hd : ∀ p, d_dg (ch_ob (x_b (l_tM g m 4)) 6 0) p = d_dg (l_cb [116, 59, 116, 59, 115, 57]) p := fun p => by
    unfold d_dg
    rw [hs]
  have hz : ¬ ch_ob m 1 0 0 8 = 0 := fun z => by
    rw [e8] at h2
    rw [eN] at z
    rw [z] at h2
    exact absurd h2 (by decide)
  have hc : (x_cc (l_tM g m 4)).1 = 0 ∧ (x_cc (l_tM g m 4)).2 (3, 0, 0) 0 = 3 ∧ (x_cc (l_tM g m 4)).2 (3, 0, 0) 1 = nI N ∧ (x_cc (l_tM g m 4)).2 (3, 0, 0) 2 = 2 := by
    unfold x_cc
    rw [ep, e10, show (60 : Nat) = 57 + 1 + 1 + 1 from rfl, x_ct_t (by rw [← hs]; decide +kernel) (by rw [← hs]; decide +kernel) hz, x_ct_t (by rw [← hs]; decide +kernel) (by rw [← hs]; decide +kernel) (by rw [y_termB_8]; exact hz)]
    exact x_ct_s (by rw [← hs]; decide +kernel) (by rw [hd]; decide +kernel) (by rw [y_termB_8, y_termB_8]; exact eN) (by omega)
  refine s_l_runs g q A_ 4 m ⟨hW.1, hW.2.1.1, hW.2.1.2.1, hW.2.1.2.2, hn, fun z => absurd hc.1 z.2, fun z => absurd hF z, fun z M h1 h2 h3 h4 _ => ?_⟩
  exact hq M ⟨h1, hW.2.1, y_sm_tr hW.2.2.1 h2, (h4 0).trans hc.2.1, ((h4 1).trans hc.2.2.1).trans e8.symm, (h4 2).trans hc.2.2.2⟩
theorem r5_l_runs (g : ch_G) (q : Int32 → ch_M → Prop) (A_ : a_G) (Y_ : ch_B) (R_ : Int32 × Int32 × Int32) (j1 : Nat) (m : ch_M) (h : (a_W A_ Y_ R_ m) ∧ (j1 = 5) ∧ (l_tx g) ∧ ((2 : Int32) ≤ Y_ 0 8) ∧ (∀ (M_ : ch_M), (a_W A_ Y_ (11, 1, 1) M_) → (M_ (0, 0, 0) 13 = -1) → q (-1002) (M_))) : ch_C g m_l_runs [.inr (0, 0, 0), .inr (12, j1, 0)] m (ch_oi q) := by
  obtain ⟨hW, rfl, ht, h2, hq⟩ := h
  have h0 : m (6, 0, 0) 1 = 0 := hW.1.2.2.2.2.1.trans hW.2.1.1
  have hT := l_txt_eq ht.2.2 (by decide) h0 (l_hc _ (by decide +kernel))
  have hF : (x_F (l_tM g m 5)).1 = -1 := by
    rw [x_F_cb hT]
    decide +kernel
  have hn : ch_tn g 5 ≤ 60 := by
    unfold ch_tn
    rw [ht.2.2]
    decide
  obtain ⟨N, hN, eN⟩ := vp_in_of (y_i8 hW.1.1) (by decide)
  have eN8 : m (1, 0, 0) 8 = nI N := eN
  have e8 : Y_ 0 8 = nI N := (a_W_8 hW).symm.trans eN8
  have hN2 : 2 ≤ N := by
    rw [e8] at h2
    exact (nI_leI (a := 2) (b := N) (by decide) (by omega)).mp h2
  have e10 : ch_ob (l_tM g m 5) 1 0 = ch_ob m 1 0 := ch_ob_ne (by omega)
  obtain ⟨K, S, ep, e6⟩ := x_cc_at (l_tM g m 5)
  have hs := d_sg_eq hT
  rw [← e6] at hs
  have hd : ∀ p, d_dg (ch_ob (x_b (l_tM g m 5)) 6 0) p = d_dg (l_cb [116, 59, 103, 49, 62, 49, 42, 49]) p := fun p => by
    unfold d_dg
    rw [hs]
  have hz : ¬ ch_ob m 1 0 0 8 = 0 := fun z => by
    rw [eN] at z
    exact nI_ne0 (by omega) (by omega) z
  have hc : (x_cc (l_tM g m 5)).1 = 0 ∧ (x_cc (l_tM g m 5)).2 (3, 0, 0) 0 = 11 ∧ (x_cc (l_tM g m 5)).2 (3, 0, 0) 1 = 1 ∧ (x_cc (l_tM g m 5)).2 (3, 0, 0) 2 = 1 := by
    unfold x_cc
    rw [ep, e10, show (60 : Nat) = 58 + 1 + 1 from rfl, x_ct_t (by rw [← hs]; decide +kernel) (by rw [← hs]; decide +kernel) hz]
    exact x_ct_g (by rw [← hs]; decide +kernel) (by rw [hd]; decide +kernel) (by rw [← hs]; decide +kernel) (by rw [hd]; decide +kernel) (by rw [← hs]; decide +kernel) (by rw [hd]; decide +kernel) (by rw [hd]; decide +kernel) (by rw [y_termB_8]; exact eN) hN2 (by omega)
  refine s_l_runs g q A_ 5 m ⟨hW.1, hW.2.1.1, hW.2.1.2.1, hW.2.1.2.2, hn, fun z => absurd hc.1 z.2, fun z => absurd hF z, fun z M h1 h2 h3 h4 _ => ?_⟩
  exact hq M ⟨h1, hW.2.1, y_sm_tr hW.2.2.1 h2, (h4 0).trans hc.2.1, (h4 1).trans hc.2.2.1, (h4 2).trans hc.2.2.2⟩ h3
