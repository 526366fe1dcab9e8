theorem ch_lw_ex (w : Int64) : ∃ y z : Int32, ch_lw y z = w := by
  refine ⟨(UInt32.ofNat (w.toUInt64.toNat / 4294967296)).toInt32, (UInt32.ofNat (w.toUInt64.toNat % 4294967296)).toInt32, ?_⟩
  have h := w.toUInt64.toNat_lt
  unfold ch_lw
  rw [UInt32.toUInt32_toInt32, UInt32.toUInt32_toInt32, UInt32.toNat_ofNat', UInt32.toNat_ofNat', Nat.mod_eq_of_lt (by omega), Nat.mod_eq_of_lt (by omega)]
  rw [show w.toUInt64.toNat / 4294967296 * 4294967296 + w.toUInt64.toNat % 4294967296 = w.toUInt64.toNat by omega, UInt64.ofNat_toNat]
  exact Int64.toInt64_toUInt64 w
theorem a_W_14 {A : a_G} {Y : ch_B} {R : Int32 × Int32 × Int32} {m : ch_M} (h : a_W A Y R m) (k : Nat) (v : Int32) : a_W A Y R (ch_wr m (14, 0, 1) k v) := by
  have e : ∀ a j c i, a ≠ 14 → ch_wr m (14, 0, 1) k v (a, j, c) i = m (a, j, c) i := fun a j c i ha => by
    rw [ch_wr_ne (fun z => ha (congrArg Prod.fst z))]
  obtain ⟨b1, b2, b3, b4, b5, b6⟩ := h
  have e10 : ch_ob (ch_wr m (14, 0, 1) k v) 1 0 = ch_ob m 1 0 := by
    funext c i
    exact e 1 0 c i (by decide)
  refine ⟨a_S_kp b1 (fun a j c i z _ => e a j c i (by omega)) ⟨by rw [e 6 1 0 1 (by decide)]; exact b1.2.1.1, fun i hi => by rw [e 6 1 1 i (by decide)]; exact b1.2.1.2 i hi⟩ (by rw [e 5 0 0 1 (by decide)]; exact b1.2.2.2.2.2), b2, by rw [e10]; exact b3, by rw [e 3 0 0 0 (by decide)]; exact b4, by rw [e 3 0 0 1 (by decide)]; exact b5, by rw [e 3 0 0 2 (by decide)]; exact b6⟩
/-- the row keeps what was answered before each change -/
def f_row (A : a_G) (d : Nat) (m : ch_M) : Prop := ∀ t, t < d → ch_lw (m (14, 0, 1) (2 * t)) (m (14, 0, 1) (2 * t + 1)) = a_V (y_can (A.2.2.1 (d - 1 - t)))
theorem f_row_k {A : a_G} {d : Nat} {m M : ch_M} (h : f_row A d m) (hd : d ≤ 8) (e : ∀ k, k < 18 → M (14, 0, 1) k = m (14, 0, 1) k) : f_row A d M := fun t ht => by
  rw [e (2 * t) (by omega), e (2 * t + 1) (by omega)]
  exact h t ht
section SECOND
variable {g : ch_G} {R : Room} {E : ch_En} {o1 : Option ch_V} {Y : ch_B}
noncomputable abbrev f_L (o1 : Option ch_V) (Y : ch_B) (o6 o7 o8 o9 o10 : Option ch_V) : ch_LT := [some (.inr (11, 0, 0)), o1, some (.inr (0, 0, 0)), some (.inl (.long (a_V (y_can Y)))), none, some (.inl (.int (Y 0 8))), o6, o7, o8, o9, o10]
theorem f_705 (hR : ch_RR R 18) (hC : 120000 ≤ R.cells ∧ 720000 ≤ R.slots) (hend : ∀ m k ls, k ≤ 119000 → ch_J g m_l_law R E 737 ls [.inl (.int 1)] m k) {A : a_G} {Q : Int32 × Int32 × Int32} (x7 x8 : Int32) (o9 o10 : Option ch_V) (m : ch_M) (k : Nat) (hf : ¬ A.2.2.2.1.1 = 0) (hZ : A.2.2.2.1.2 = Y) (hW : a_W A Y Q m) (hk : k ≤ 100000) : ch_J g m_l_law R E 705 (f_L o1 Y (some (.inr (14, 0, 1))) (some (.inl (.int x7))) (some (.inl (.int x8))) o9 o10) [] m k := by
  refine g_l_law_705 g R E k hR hC (by omega) _ _ _ _ _ _ _ m ⟨_, _, _, hW, fun M1 h1 _ m1 e1 => ?_⟩
  subst e1
  refine ⟨fun z => absurd (lg_cmp0 _) z, fun _ => ?_⟩
  refine ⟨_, _, _, h1, hf, fun M2 h2 _ m2 e2 => ?_⟩
  subst e2
  rw [hZ] at h2 ⊢
  refine ⟨fun z => absurd rfl z, fun _ => ?_⟩
  refine ⟨_, _, _, h2, fun M3 h3 _ m3 e3 => ?_⟩
  subst e3
  exact ⟨fun z => absurd (lg_cmp0 _) z, fun _ => hend _ _ _ (by omega)⟩
theorem f_686 (hR : ch_RR R 18) (hC : 120000 ≤ R.cells ∧ 720000 ≤ R.slots) (hend : ∀ m k ls, k ≤ 119000 → ch_J g m_l_law R E 737 ls [.inl (.int 1)] m k) {A : a_G} {Y' : ch_B} {Q : Int32 × Int32 × Int32} (x7 x8 : Int32) (o9 o10 : Option ch_V) (m : ch_M) (k : Nat) (hf : ¬ A.2.2.2.1.1 = 0) (hZ : A.2.2.2.1.2 = Y) (hW : a_W A Y' Q m) (hk : k ≤ 99000) : ch_J g m_l_law R E 686 (f_L o1 Y (some (.inr (14, 0, 1))) (some (.inl (.int x7))) (some (.inl (.int x8))) o9 o10) [] m k := by
  refine g_l_law_686 g R E k hR hC (by omega) _ _ _ _ _ _ _ m ⟨_, _, _, hW, hf, fun M1 h1 _ m1 e1 => ?_⟩
  subst e1
  rw [hZ] at h1 ⊢
  refine ⟨fun z => absurd rfl z, fun _ => ?_⟩
  refine g_l_law_695 g R E (k + 1) hR hC (by omega) _ _ _ _ _ _ _ m1 ⟨_, _, _, h1, rfl, ?_⟩
  exact f_705 hR hC hend (A := a_re A) _ _ _ _ m1 _ hf hZ h1 (by omega)
theorem nI_sub {a b : Nat} (h : b ≤ a) : nI a - nI b = nI (a - b) := by
  rw [show nI a = nI (a - b) + nI b from by rw [nI_add, show a - b + b = a by omega]]
  exact Int32.add_sub_cancel _ _
theorem f_629 (hR : ch_RR R 18) (hC : 120000 ≤ R.cells ∧ 720000 ≤ R.slots) (hend : ∀ m k ls, k ≤ 119000 → ch_J g m_l_law R E 737 ls [.inl (.int 1)] m k) {d : Nat} (hd : d ≤ 8) : ∀ n, n ≤ d → ∀ (A : a_G) (Y' : ch_B) (Q : Int32 × Int32 × Int32) (o9 o10 : Option ch_V) (m : ch_M) (k : Nat), ¬ A.2.2.2.1.1 = 0 → A.2.2.2.1.2 = Y → d - n ≤ A.2.1 → A.2.1 ≤ 8 - n → f_row A (d - n) m → a_W A Y' Q m → k ≤ 80000 + 1300 * n → ch_J g m_l_law R E 629 (f_L o1 Y (some (.inr (14, 0, 1))) (some (.inl (.int (nI d)))) (some (.inl (.int (nI (n + 1))))) o9 o10) [] m k := by
  refine ch_down (fun n => ∀ (A : a_G) (Y' : ch_B) (Q : Int32 × Int32 × Int32) (o9 o10 : Option ch_V) (m : ch_M) (k : Nat), ¬ A.2.2.2.1.1 = 0 → A.2.2.2.1.2 = Y → d - n ≤ A.2.1 → A.2.1 ≤ 8 - n → f_row A (d - n) m → a_W A Y' Q m → k ≤ 80000 + 1300 * n → ch_J g m_l_law R E 629 (f_L o1 Y (some (.inr (14, 0, 1))) (some (.inl (.int (nI d)))) (some (.inl (.int (nI (n + 1))))) o9 o10) [] m k) d ?_ ?_
  · intro A Y' Q o9 o10 m k hf hZ h1 h2 hr hW hk
    refine g_l_law_629 g R E k hR hC (by omega) _ _ _ _ _ _ _ m ⟨fun _ => ?_, fun z => absurd (nI_lt (a := d) (b := d + 1) (by omega) (by omega)) z⟩
    exact f_686 hR hC hend _ _ _ _ m k hf hZ hW (by omega)
  · intro n hn ih A Y' Q o9 o10 m k hf hZ h1 h2 hr hW hk
    refine g_l_law_629 g R E k hR hC (by omega) _ _ _ _ _ _ _ m ⟨fun z => absurd z (nI_nlt (a := d) (b := n + 1) (by omega) (by omega)), fun _ => ?_⟩
    have e8 : (8 : Int32) - nI (n + 1) = nI (8 - (n + 1)) := nI_sub (a := 8) (by omega)
    rw [nI_sub (show n + 1 ≤ d by omega), e8]
    refine ⟨_, _, _, hW, (show ¬ A.2.1 = 0 by omega), fun M1 w1 k1 m1 e1 => ?_⟩
    subst e1
    refine ⟨fun z => absurd z (nI_nlt (a := A.2.1 - 1) (b := d - (n + 1)) (by omega) (by omega)), fun _ => ⟨fun z => absurd z (nI_nlt (a := 8 - (n + 1)) (b := A.2.1 - 1) (by omega) (by omega)), fun _ => ?_⟩⟩
    refine ⟨_, _, _, w1, fun M2 w2 k2 m2 e2 => ?_⟩
    subst e2
    refine ⟨vp_in_nI (by omega) (by decide), ?_⟩
    have r2 : ∀ k, k < 18 → m2 (14, 0, 1) k = m (14, 0, 1) k := fun k hk => (k2 k hk).trans (k1 k)
    have hv := hr (d - (n + 1)) (by omega)
    rw [show d - n - 1 - (d - (n + 1)) = 0 by omega] at hv
    rw [nI_clamp (by omega), r2 _ (by omega), r2 _ (by omega), hv, nI_1]
    refine ⟨fun _ => ?_, fun z => absurd (lg_cmp0 _) z⟩
    refine ih (a_dn A) _ _ _ _ m2 _ hf hZ (show d - (n + 1) ≤ A.2.1 - 1 by omega) (show A.2.1 - 1 ≤ 8 - (n + 1) by omega) (fun t ht => ?_) w2 (by omega)
    rw [r2 _ (by omega), r2 _ (by omega), hr t (by omega)]
    show a_V (y_can (A.2.2.1 (d - n - 1 - t))) = a_V (y_can (A.2.2.1 (d - (n + 1) - 1 - t + 1)))
    rw [show d - n - 1 - t = d - (n + 1) - 1 - t + 1 by omega]
theorem f_559 (hR : ch_RR R 18) (hC : 120000 ≤ R.cells ∧ 720000 ≤ R.slots) (hch : l_CH g) (hl : (ch_scr g).2.1 < 2 ^ 31) (hend : ∀ m k ls, k ≤ 119000 → ch_J g m_l_law R E 737 ls [.inl (.int 1)] m k) : ∀ i, i ≤ 8 → ∀ (d : Nat) (A : a_G) (Y' : ch_B) (Q : Int32 × Int32 × Int32) (o9 o10 : Option ch_V) (m : ch_M) (k : Nat), d ≤ i → A.1 ≤ 1000 + 720 * i → ¬ A.2.2.2.1.1 = 0 → A.2.2.2.1.2 = Y → d ≤ A.2.1 → A.2.1 ≤ 8 → f_row A d m → a_W A Y' Q m → k ≤ 55000 + 2600 * i → ch_J g m_l_law R E 559 (f_L o1 Y (some (.inr (14, 0, 1))) (some (.inl (.int (nI d)))) (some (.inl (.int (nI i)))) o9 o10) [] m k := by
  refine ch_down (fun i => ∀ (d : Nat) (A : a_G) (Y' : ch_B) (Q : Int32 × Int32 × Int32) (o9 o10 : Option ch_V) (m : ch_M) (k : Nat), d ≤ i → A.1 ≤ 1000 + 720 * i → ¬ A.2.2.2.1.1 = 0 → A.2.2.2.1.2 = Y → d ≤ A.2.1 → A.2.1 ≤ 8 → f_row A d m → a_W A Y' Q m → k ≤ 55000 + 2600 * i → ch_J g m_l_law R E 559 (f_L o1 Y (some (.inr (14, 0, 1))) (some (.inl (.int (nI d)))) (some (.inl (.int (nI i)))) o9 o10) [] m k) 8 ?_ ?_
  · intro d A Y' Q o9 o10 m k hd hT hf hZ h1 h2 hr hW hk
    refine g_l_law_559 g R E k hR hC (by omega) hch _ _ _ _ _ _ _ m ⟨fun _ => ?_, fun z => absurd (Int32.le_refl _) z⟩
    exact f_629 hR hC hend hd 0 (by omega) A Y' Q o9 o10 m k hf hZ h1 h2 hr hW (by omega)
  · intro i hi ih d A Y' Q o9 o10 m k hd hT hf hZ h1 h2 hr hW hk
    refine g_l_law_559 g R E k hR hC (by omega) hch _ _ _ _ _ _ _ m ⟨fun z => absurd z (nI_ge (b := 8) hi (by decide)), fun _ => ?_⟩
    refine ⟨_, _, _, hW, fun M1 w1 k1 m1 e1 => ?_⟩
    subst e1
    refine ⟨l_nn 20 i (by omega), hl, ?_⟩
    refine ⟨_, _, _, w1, by omega, fun M2 w2 k2 m2 e2 => ?_, fun M2 w2 k2 m2 e2 => ?_⟩
    · subst e2
      obtain ⟨y, z, hyz⟩ := ch_lw_ex (a_V (y_can Y'))
      refine ⟨vp_in_nI (by omega) (by decide), y, z, hyz, fun m3 e3 => ?_⟩
      rw [nI_clamp (by omega)] at e3
      have w3 := a_W_14 (a_W_14 w2 (2 * d) y) (2 * d + 1) z
      rw [← e3] at w3
      rw [nI_1, nI_1]
      refine ih (d + 1) (a_up A (A.1 + 720) Y') _ _ _ _ m3 _ (by omega) (show A.1 + 720 ≤ 1000 + 720 * (i + 1) by omega) hf hZ (show d + 1 ≤ min (A.2.1 + 1) 8 by omega) (show min (A.2.1 + 1) 8 ≤ 8 by omega) (fun t ht => ?_) w3 (by omega)
      have e4 : ∀ j, j ≠ 2 * d → j ≠ 2 * d + 1 → j < 18 → m3 (14, 0, 1) j = m (14, 0, 1) j := fun j a1 a2 a3 => by
        rw [e3, ch_wr_k a2, ch_wr_k a1, k2 j a3, k1 j a3]
      by_cases e : t = d
      · subst e
        have f1 : m3 (14, 0, 1) (2 * t) = y := by rw [e3, ch_wr_k (by omega), ch_wr_v]
        have f2 : m3 (14, 0, 1) (2 * t + 1) = z := by rw [e3, ch_wr_v]
        rw [f1, f2, hyz, show t + 1 - 1 - t = 0 by omega]
        rfl
      · rw [e4 _ (by omega) (by omega) (by omega), e4 _ (by omega) (by omega) (by omega), hr t (by omega)]
        show a_V (y_can (A.2.2.1 (d - 1 - t))) = a_V (y_can (a_pu Y' A.2.2.1 (d + 1 - 1 - t)))
        have e5 : a_pu Y' A.2.2.1 (d + 1 - 1 - t) = A.2.2.1 (d - 1 - t) := by
          unfold a_pu
          rw [if_neg (by omega), show d + 1 - 1 - t - 1 = d - 1 - t by omega]
        rw [e5]
    · subst e2
      refine ⟨_, _, _, w2, fun M3 w3 k3 m3 e3 => ?_⟩
      subst e3
      refine ⟨fun _ => ?_, fun z => absurd (lg_cmp0 _) z⟩
      rw [nI_1]
      exact ih d A Y' _ _ _ m3 _ (by omega) (by omega) hf hZ h1 h2 (f_row_k hr (by omega) (fun j hj => (k3 j hj).trans ((k2 j hj).trans (k1 j hj)))) w3 (by omega)
/-- the third part, behind the row -/
theorem f_553 (hR : ch_RR R 18) (hC : 120000 ≤ R.cells ∧ 720000 ≤ R.slots) (hch : l_CH g) (hl : (ch_scr g).2.1 < 2 ^ 31) (hend : ∀ m k ls, k ≤ 119000 → ch_J g m_l_law R E 737 ls [.inl (.int 1)] m k) {A : a_G} {Q : Int32 × Int32 × Int32} (o7 o8 o9 o10 : Option ch_V) (m : ch_M) (k : Nat) (hT : A.1 ≤ 1000) (hf : ¬ A.2.2.2.1.1 = 0) (hZ : A.2.2.2.1.2 = Y) (hW : a_W A Y Q m) (hk : k ≤ 55000) : ch_J g m_l_law R E 553 (f_L o1 Y (some (.inr (14, 0, 1))) o7 o8 o9 o10) [] m k := by
  refine g_l_law_553 g R E k hR hC (by omega) _ _ _ _ _ _ _ m ?_
  exact f_559 hR hC hch hl hend 0 (by omega) 0 A Y Q _ _ m k (by omega) (by omega) hf hZ (by omega) hW.1.2.2.1.1.1 (fun t ht => absurd ht (by omega)) hW (by omega)
/-- the second part: the object is made, asked, refused, saved -/
theorem f_487 (hR : ch_RR R 18) (hC : 120000 ≤ R.cells ∧ 720000 ≤ R.slots) (hl : (ch_scr g).2.1 < 2 ^ 31) (ht : l_tx g) {o3 o4 o5 o6 o7 o8 o9 o10 : Option ch_V}
    (nx : ∀ (A : a_G) (Y : ch_B) (Q : Int32 × Int32 × Int32) (m : ch_M) (k : Nat), A.1 ≤ 1000 → ¬ A.2.2.2.1.1 = 0 → A.2.2.2.1.2 = Y → a_W A Y Q m → k ≤ 54000 → ch_J g m_l_law R E 547 (f_L o1 Y o6 o7 o8 o9 o10) [] m k)
    {A : a_G} (m : ch_M) (k : Nat) (hT : A.1 ≤ 100) (hT0 : 0 < A.1) (hx : A.2.2.2.2 = 0) (h8 : m (1, 0, 0) 8 = 0) (hA : a_S A m) (hk : k ≤ 40500) : ch_J g m_l_law R E 487 [some (.inr (11, 0, 0)), o1, some (.inr (0, 0, 0)), o3, o4, o5, o6, o7, o8, o9, o10] [] m k := by
  refine g_l_law_487 g R E k hR hC (by omega) _ _ _ _ _ _ _ _ _ m ⟨A, hA, by omega, hT0, hl, h8, fun M1 B1 h1 t1 t2 t3 c2 m1 e1 => ?_⟩
  subst e1
  have hW : a_W B1 (ch_ob m1 1 0) (m1 (3, 0, 0) 0, m1 (3, 0, 0) 1, m1 (3, 0, 0) 2) m1 := ⟨h1, ⟨by rw [t3]; exact hx, by omega, by omega⟩, y_sm_refl _, rfl, rfl, rfl⟩
  generalize ch_ob m1 1 0 = Y at hW
  have h28 : (2 : Int32) ≤ Y 0 8 := by
    rw [← a_W_8 hW]
    exact c2
  refine g_l_law_497 g R E (k + 400) hR hC (by omega) _ _ _ _ _ _ _ _ _ m1 ⟨_, _, _, hW, fun M2 h2 _ m2 e2 => ?_⟩
  subst e2
  refine ⟨_, _, _, h2, fun M3 h3 _ m3 e3 => ?_⟩
  subst e3
  refine ⟨fun z => absurd (lg_cmp0 _) z, fun _ => ?_⟩
  refine ⟨_, _, _, h3, ht, h28, fun Q4 M4 h4 m4 e4 => ?_⟩
  subst e4
  refine g_l_law_520 g R E (k + 400 + 8400) hR hC (by omega) _ _ _ _ _ _ _ _ m4 ⟨_, _, _, h4, fun M5 h5 m5 e5 => ?_⟩
  subst e5
  refine ⟨_, _, _, h5, ⟨by decide, by decide⟩, fun M6 h6 m6 e6 => ?_⟩
  subst e6
  rw [x_acR0]
  refine ⟨fun z => absurd rfl z, fun _ => ?_⟩
  refine ⟨_, _, _, h6, fun M7 h7 _ m7 e7 => ?_⟩
  subst e7
  exact ⟨fun _ => nx (a_sv B1 Y) Y _ m7 _ (show B1.1 ≤ 1000 by omega) (show ¬ (1 : Int32) = 0 by decide) rfl h7 (by omega), fun z => absurd (lg_cmp0 _) z⟩
end SECOND
