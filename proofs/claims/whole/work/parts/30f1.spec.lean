set_option maxHeartbeats 1600000 in
theorem s_m_chalks (g : ch_G) (q : Int32 → ch_M → Prop) (T_ : Nat) (Y_ : ch_B) (p1 : Int32) (p2 : Int32) (m : ch_M) (h : (m_rel Y_ (m (9, 0, 1))) ∧ (y_inv T_ Y_) ∧ (((r_wc Y_ p1 p2).1 = 0) → (∀ (B_ : ch_B), (m_did (ch_ob m 9 0) B_ (y_chaB Y_ p1 p2) (y_chv Y_ p2)) → q 1 (ch_os m 9 0 B_))) ∧ ((¬ (r_wc Y_ p1 p2).1 = 0) → q 0 (ch_os m 9 0 (m_refB (ch_ob m 9 0) (r_wc Y_ p1 p2).1 (r_wc Y_ p1 p2).2)))) : ch_C g m_m_chalks [.inr (9, 0, 0), .inl (.int p1), .inl (.int p2)] m (ch_oi q) := by
  refine e_m_chalks g _ p1 p2 m ?_
  obtain ⟨hr, hi, ha, hb⟩ := h
  have hB : m_rel Y_ (ch_ob m 9 0 1) := hr
  have h8 := y_i8 hi
  unfold r_wc at ha hb
  refine g_m_chalks_0 g _ _ _ _ ⟨fun c => ?_, fun c => ?_⟩
  · have c1 : 0 ≤ p1 ∧ p1 < Y_ 0 8 := (m_chi h8).mp (by rw [← m_co hr]; exact c)
    have hv := m_chv h8 c1
    obtain ⟨k, hk, rfl⟩ := vp_in_of hv (by decide)
    refine ⟨fun d => ?_, fun d => ?_⟩
    · have hw := ch_11 d
      obtain ⟨p, hp, rfl⟩ := vp_in_of hw (by decide)
      have ck : (nI k).toNatClampNeg = k := nI_clamp (by omega)
      have cp : (nI p).toNatClampNeg = p := nI_clamp (by omega)
      rw [if_pos c1, if_pos d, ck, cp] at ha hb
      have eo : m (9, 0, 1) (14 + 2 * p) - 1 = Y_ 1 p := m_ow hr hp
      have er : m (9, 0, 1) (15 + 2 * p) = Y_ 2 p := m_ck hr hp
      have ep : m (9, 0, 1) (38 + 5 * k + 0) = Y_ 3 k := m_pe hr hk
      have go : (Y_ 1 p = -1 ∨ Y_ 1 p = nI k) → ch_J g m_m_chalks (ch_rm m_m_chalks) (ch_E g m_m_chalks (ch_oi q)) 55 [some (.inr (9, 0, 0)), some (.inl (.int (nI k))), some (.inl (.int (nI p)))] [] m 0 := by
        intro f
        rw [if_pos f] at ha hb
        refine g_m_chalks_55 g _ _ _ _ ?_
        have r1 := m_pay_rel hB hk 1
        have eo1 : m_payB (ch_ob m 9 0) k 1 1 (14 + 2 * p) - 1 = Y_ 1 p := (m_ow r1 hp).trans ((ch_bw_c (by decide)).trans (ch_bw_c (by decide)))
        have er1 : m_payB (ch_ob m 9 0) k 1 1 (15 + 2 * p) = Y_ 2 p := (m_ck r1 hp).trans ((ch_bw_c (by decide)).trans (ch_bw_c (by decide)))
        simp only [ch_oi_iff, ck, cp, m_e14, m_e15', nI_clamp (show 14 + 2 * p < 2 ^ 31 by omega), nI_clamp (show 15 + 2 * p < 2 ^ 31 by omega), forall_eq, ch_os_wr, ch_wr_os, ch_ob_os, ch_os_os, ch_os_at, eo1, er1, er, ep]
        have v14 : vp_in (nI (14 + 2 * p)) 63 := vp_in_nI (by omega) (by decide)
        have v15 : vp_in (nI (15 + 2 * p)) 63 := vp_in_nI (by omega) (by decide)
        obtain ⟨x, hx, ex⟩ := vp_in_of (y_i2 hi hp) (by decide)
        have fin : ∀ v : Int32, v = y_chv Y_ (nI p) → (∀ B_ : ch_B, m_did (ch_ob m 9 0) B_ (y_chaB Y_ (nI k) (nI p)) (y_chv Y_ (nI p)) → q 1 (ch_os m 9 0 B_)) → q 1 (ch_os m 9 0 (ch_bw (ch_bw (ch_bw (m_payB (ch_ob m 9 0) k 1) 1 (15 + 2 * p) v) 1 (14 + 2 * p) (nI k + 1)) 0 18 (ch_bw (ch_bw (m_payB (ch_ob m 9 0) k 1) 1 (15 + 2 * p) v) 1 (14 + 2 * p) (nI k + 1) 1 (15 + 2 * p)))) := by
          intro v ev hq
          refine hq _ ⟨?_, ?_, ?_⟩
          · rw [ch_bw1 (by decide)]
            have r2 := m_rel_1 (v := nI k) (w := nI k + 1) (m_rel_2 (v := v) r1 hp) hp rfl
            unfold y_chaB
            rw [ck, cp, ← ev]
            exact r2
          · rw [ch_bw_at, ch_bw_k (by omega), ch_bw_at, ev]
          · intro a i h1 h2
            unfold m_payB ch_bw
            grind
        refine ⟨hw, fun n9 => ⟨hv, fun n5 => ⟨fun f2 => ⟨v15, v14, ?_⟩, fun f2 => ⟨v15, v14, ?_⟩⟩, fun n5 => ?_⟩, fun n9 => ?_⟩
        · have l9 : Y_ 2 p < 9 := by
            rw [ex] at n9 ⊢
            exact nI_lt (b := 9) (by have : x ≠ 9 := fun z => n9 (by rw [z]; decide)
                                     omega) (by decide)
          rw [if_pos l9, if_pos n5] at ha
          refine fin _ ?_ (ha rfl)
          unfold y_chv
          rw [cp]
          exact (if_pos (f.resolve_right f2)).symm
        · have l9 : Y_ 2 p < 9 := by
            rw [ex] at n9 ⊢
            exact nI_lt (b := 9) (by have : x ≠ 9 := fun z => n9 (by rw [z]; decide)
                                     omega) (by decide)
          rw [if_pos l9, if_pos n5] at ha
          refine fin _ ?_ (ha rfl)
          have hm : ¬ Y_ 1 p = -1 := by
            intro z
            rw [z] at f2
            exact nI_pos (n := k) (by omega) (by rw [← f2]; decide)
          unfold y_chv
          rw [cp, if_neg hm]
          exact m_mn _ _
        · have l9 : Y_ 2 p < 9 := by
            rw [ex] at n9 ⊢
            exact nI_lt (b := 9) (by have : x ≠ 9 := fun z => n9 (by rw [z]; decide)
                                     omega) (by decide)
          rw [if_pos l9, if_neg n5] at hb
          exact hb (m_nz (by decide))
        · rw [if_neg (by rw [n9]; decide)] at hb
          exact hb (m_nz (by decide))
      rw [cp]
      simp only [ch_oi_iff, forall_eq, ch_os_wr, ch_wr_os, ch_ob_os, ch_os_os, ch_os_at, eo]
      refine ⟨hw, fun e => go ((y_iow hi p hp).imp id (fun w => absurd e (by obtain ⟨j, hj, ej⟩ := vp_in_of w (by decide); rw [ej]; exact nI_pos (by omega)))), fun e => ⟨fun f => go (Or.inr f), fun f => ?_⟩⟩
      rw [if_neg (fun z => z.elim (fun y => e (by rw [y]; decide)) f)] at hb
      exact hb (m_nz (by decide))
    · rw [if_pos c1, if_neg d] at hb
      simp only [ch_oi_iff, forall_eq, ch_os_wr, ch_wr_os, ch_ob_os, ch_os_os, ch_os_at]
      exact hb (m_nz (by decide))
  · rw [if_neg (fun z => c (by rw [m_co hr]; exact (m_chi h8).mpr z))] at hb
    simp only [ch_oi_iff, forall_eq, ch_os_wr, ch_wr_os, ch_ob_os, ch_os_os, ch_os_at, m_co hr]
    exact hb (m_nz (by decide))
set_option maxHeartbeats 1600000 in
theorem s_m_gives (g : ch_G) (q : Int32 → ch_M → Prop) (T_ : Nat) (Y_ : ch_B) (p1 : Int32) (p2 : Int32) (p3 : Int32) (m : ch_M) (h : (m_rel Y_ (m (9, 0, 1))) ∧ (y_inv T_ Y_) ∧ (((r_wg Y_ p1 p2 p3).1 = 0) → (∀ (B_ : ch_B), (m_did (ch_ob m 9 0) B_ (y_givB Y_ p1 p2 p3) (y_givB Y_ p1 p2 p3 3 (Int32.toNatClampNeg p1))) → q 1 (ch_os m 9 0 B_))) ∧ ((¬ (r_wg Y_ p1 p2 p3).1 = 0) → q 0 (ch_os m 9 0 (m_refB (ch_ob m 9 0) (r_wg Y_ p1 p2 p3).1 (r_wg Y_ p1 p2 p3).2)))) : ch_C g m_m_gives [.inr (9, 0, 0), .inl (.int p1), .inl (.int p2), .inl (.int p3)] m (ch_oi q) := by
  refine e_m_gives g _ p1 p2 p3 m ?_
  obtain ⟨hr, hi, ha, hb⟩ := h
  have hB : m_rel Y_ (ch_ob m 9 0 1) := hr
  have h8 := y_i8 hi
  unfold r_wg at ha hb
  refine g_m_gives_0 g _ _ _ _ _ ⟨fun c => ?_, fun c => ?_⟩
  · have c1 : 0 ≤ p1 ∧ p1 < Y_ 0 8 := (m_chi h8).mp (by rw [← m_co hr]; exact c)
    have hv := m_chv h8 c1
    obtain ⟨k, hk, rfl⟩ := vp_in_of hv (by decide)
    have ck : (nI k).toNatClampNeg = k := nI_clamp (by omega)
    rw [if_pos c1, ck] at ha hb
    refine ⟨fun d => ?_, fun d => ?_⟩
    · have d1 : 0 ≤ p2 ∧ p2 < Y_ 0 8 := (m_chi h8).mp (by rw [← m_co hr]; exact d)
      have hw := m_chv h8 d1
      obtain ⟨l, hl, rfl⟩ := vp_in_of hw (by decide)
      have cl : (nI l).toNatClampNeg = l := nI_clamp (by omega)
      rw [if_pos d1] at ha hb
      have ep : m (9, 0, 1) (38 + 5 * k + 0) = Y_ 3 k := m_pe hr hk
      have eb : ch_ob m 9 0 1 (38 + 5 * k + 0) = Y_ 3 k := m_pe hr hk
      have r1 : m_rel _ (ch_bw (ch_ob m 9 0) 1 (38 + 5 * k + 0) (Y_ 3 k - p3) 1) := m_rel_w (f := 0) (v := Y_ 3 k - p3) hB (by omega) hk
      have el := m_pe r1 hl
      simp only [ch_oi_iff, ck, cl, forall_eq, ch_os_wr, ch_wr_os, ch_ob_os, ch_os_os, ch_os_at, ep, el]
      refine ⟨fun e => ⟨fun f => ⟨hv, fun i => ⟨hw, ?_⟩, fun i => ?_⟩, fun f => ?_⟩, fun e => ?_⟩
      · rw [if_neg e, if_pos f, if_pos i] at ha
        have r2 := m_rel_w (f := 0) (v := ch_bw Y_ (3 + 0) k (Y_ 3 k - p3) 3 l + p3) r1 (by omega) hl
        refine ha rfl _ ⟨?_, ?_, ?_⟩
        · rw [ch_bw1 (by decide)]
          unfold y_givB
          rw [ck, cl]
          exact r2
        · rw [ch_bw_at]
          unfold y_givB
          rw [ck, cl]
          exact m_pe r2 hk
        · intro a i h1 h2
          unfold ch_bw
          grind
      · rw [if_neg e, if_pos f, if_neg i] at hb
        exact hb (m_nz (by decide))
      · rw [if_neg e, if_neg f] at hb
        exact hb (m_nz (by decide))
      · rw [if_pos e] at hb
        exact hb (m_nz (by decide))
    · rw [if_neg (fun z => d (by rw [m_co hr]; exact (m_chi h8).mpr z))] at hb
      simp only [ch_oi_iff, forall_eq, ch_os_wr, ch_wr_os, ch_ob_os, ch_os_os, ch_os_at, m_co hr]
      exact hb (m_nz (by decide))
  · rw [if_neg (fun z => c (by rw [m_co hr]; exact (m_chi h8).mpr z))] at hb
    simp only [ch_oi_iff, forall_eq, ch_os_wr, ch_wr_os, ch_ob_os, ch_os_os, ch_os_at, m_co hr]
    exact hb (m_nz (by decide))
theorem m_rel_o {Y B : ch_B} (h : m_rel Y (B 1)) {s : Nat} (hs : Y 0 9 = nI s) (h5 : s < 5) (c : Int32) : m_rel (ch_bw (ch_bw Y 8 s c) 0 9 (nI s + 1)) (ch_bw (ch_bw B 1 8 (nI s + 1)) 1 (9 + s) c 1) := by
  obtain ⟨⟨a0, a1, a2, a3, a4, a5, a6, a7, a8⟩, h2, h3, h4⟩ := h
  rw [hs, nI_clamp (by omega)] at h2
  have e : (nI s + 1).toNatClampNeg = s + 1 := by rw [nI_1, nI_clamp (by omega)]
  unfold m_rel
  rw [ch_bw_at, e]
  unfold ch_bw
  refine ⟨⟨?_, ?_, ?_, ?_, ?_, ?_, ?_, ?_, ?_⟩, fun k hk5 hk => ?_, fun k hk => ⟨?_, ?_⟩, fun d hd => ⟨?_, ?_, ?_, ?_, ?_⟩⟩ <;> grind
set_option maxHeartbeats 1600000 in
theorem s_m_writes (g : ch_G) (q : Int32 → ch_M → Prop) (T_ : Nat) (Y_ : ch_B) (p1 : Int32) (m : ch_M) (h : (m_rel Y_ (m (9, 0, 1))) ∧ (y_inv T_ Y_) ∧ (((r_ww Y_ p1).1 = 0) → (∀ (B_ : ch_B), (m_did (ch_ob m 9 0) B_ (y_wriB Y_ p1) ((if 9 < Y_ 4 (Int32.toNatClampNeg p1) then 9 else Y_ 4 (Int32.toNatClampNeg p1)))) → q 1 (ch_os m 9 0 B_))) ∧ ((¬ (r_ww Y_ p1).1 = 0) → q 0 (ch_os m 9 0 (m_refB (ch_ob m 9 0) (r_ww Y_ p1).1 (r_ww Y_ p1).2)))) : ch_C g m_m_writes [.inr (9, 0, 0), .inl (.int p1)] m (ch_oi q) := by
  refine e_m_writes g _ p1 m ?_
  obtain ⟨hr, hi, ha, hb⟩ := h
  have hB : m_rel Y_ (ch_ob m 9 0 1) := hr
  have h8 := y_i8 hi
  have g8 : vp_in (m (9, 0, 1) 0) 6 := by rw [m_co hr]; exact h8
  unfold r_ww at ha hb
  refine g_m_writes_0 g _ _ _ ⟨g8, fun c => ?_, fun c => ?_, fun c => ?_⟩
  · have c1 : 0 ≤ p1 ∧ p1 < Y_ 0 8 := (m_chi h8).mp (by rw [← m_co hr]; exact c.1)
    have hv := m_chv h8 c1
    obtain ⟨k, hk, rfl⟩ := vp_in_of hv (by decide)
    have ck : (nI k).toNatClampNeg = k := nI_clamp (by omega)
    have c2 := c.2
    rw [ck, m_wa hr hk] at c2
    obtain ⟨s, hs, es⟩ := vp_in_of (y_i9w hi hk c2) (by decide)
    rw [if_pos c1, ck, if_pos (by rw [c2]; decide)] at ha hb
    have et : m (9, 0, 1) (38 + 5 * k + 1) = Y_ 4 k := m_tr hr hk
    have eb : ch_ob m 9 0 1 (38 + 5 * k + 1) = Y_ 4 k := m_tr hr hk
    have r1 := m_rel_w (f := 1) (v := 0) (m_rel_w (f := 2) (v := if Y_ 4 k < 9 then Y_ 4 k else 9) hB (by omega) hk) (by omega) hk
    have e8 := m_st r1
    have e8' : ch_bw (ch_bw Y_ (3 + 2) k (if Y_ 4 k < 9 then Y_ 4 k else 9)) (3 + 1) k 0 0 9 = nI s := ((ch_bw_c (by decide)).trans (ch_bw_c (by decide))).trans es
    rw [e8'] at e8
    have e9 : (9 : Int32) + nI s = nI (9 + s) := nI_add 9 s
    simp only [ch_oi_iff, ck, forall_eq, ch_os_wr, ch_wr_os, ch_ob_os, ch_os_os, ch_os_at, et, e8, e9, nI_clamp (show 9 + s < 2 ^ 31 by omega)]
    refine ⟨hv, fun e => ⟨vp_in_nI (by omega) (by decide), ?_⟩, fun e => ?_⟩
    · rw [if_pos e] at ha
      have r2 := m_rel_o r1 e8' (by omega) (nI k)
      have e4 := r2.1.2.2.2.2.1
      have r3 := m_rel_0 (i := 4) (v := ch_bw (ch_bw (ch_bw (ch_bw (ch_ob m 9 0) 1 (38 + 5 * k + 2) (if Y_ 4 k < 9 then Y_ 4 k else 9)) 1 (38 + 5 * k + 1) 0) 1 8 (nI s + 1)) 1 (9 + s) (nI k) 1 4 + 1) r2 (by omega)
      have em : (if Y_ 4 k < 9 then Y_ 4 k else 9) = (if 9 < Y_ 4 k then 9 else Y_ 4 k) := m_mn _ _
      refine ha rfl _ ⟨?_, ?_, ?_⟩
      · rw [ch_bw1 (by decide)]
        unfold y_wriB
        rw [ck, es, nI_clamp (by omega), ← em]
        rw [e4] at r3 ⊢
        exact r3
      · rw [ch_bw_at, m_wa r3 hk, ← em, ch_bw_c (by decide), ch_bw_c (by decide), ch_bw_c (by decide), ch_bw_c (by decide)]
        exact ch_bw_at _ _ _ _
      · intro a i h1 h2
        unfold ch_bw
        grind
    · rw [if_neg e] at hb
      exact hb (m_nz (by decide))
  · rw [if_neg (fun z => c (by rw [m_co hr]; exact (m_chi h8).mpr z))] at hb
    simp only [ch_oi_iff, forall_eq, m_co hr]
    exact hb (m_nz (by decide))
  · have c1 : 0 ≤ p1 ∧ p1 < Y_ 0 8 := (m_chi h8).mp (by rw [← m_co hr]; exact c.1)
    have hv := m_chv h8 c1
    obtain ⟨k, hk, rfl⟩ := vp_in_of hv (by decide)
    have ck : (nI k).toNatClampNeg = k := nI_clamp (by omega)
    have c2 := c.2
    rw [ck, m_wa hr hk] at c2
    obtain ⟨w, hw, ew⟩ := vp_in_of (y_i5 hi hk) (by decide)
    rw [if_pos c1, ck, if_neg (by
      rw [ew] at c2 ⊢
      exact nI_nle (by have : w ≠ 0 := fun z => c2 (by rw [z]; decide)
                       omega) (by omega))] at hb
    simp only [ch_oi_iff, forall_eq, ck, m_wa hr hk]
    exact hb (m_nz (by decide))
