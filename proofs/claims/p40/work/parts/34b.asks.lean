/-! asks: a number of the yard alone -/
def a_f (f : Nat → Int32) : Nat → Int64 → Int64
  | 0, x => x
  | n + 1, x => 31 * a_f f n x + Int32.toInt64 (f n)
theorem a_f_0 (f : Nat → Int32) (x : Int64) : a_f f 0 x = x := rfl
noncomputable def a_7 (Y : ch_B) (c : Int32) (x : Int64) : Int64 := (31 * ((31 * ((31 * ((31 * ((31 * ((31 * ((31 * x) + (Int32.toInt64 (y_ofS (Y 1) c 0 12)))) + (Int32.toInt64 (w_fl z_B (w_l Y c) 12 1 0)))) + (Int32.toInt64 ((w_fo z_B (w_l Y c) 14).2)))) + (Int32.toInt64 ((y_lr (Y 1) c 12).1)))) + (Int32.toInt64 (V_rf Y c)))) + (Int32.toInt64 (V_wl Y c)))) + (Int32.toInt64 (V_tf Y c))
noncomputable def a_c (Y : ch_B) (c : Int32) (x : Int64) : Int64 := a_f (fun q => V_rk Y (nI q) c) 4 (a_f (fun k => V_st Y c (nI k)) 6 (a_7 Y c (a_f (fun w => x_coR Y c (nI w)) 7 x)))
noncomputable def a_cs (Y : ch_B) : Nat → Int64 → Int64
  | 0, x => x
  | n + 1, x => a_c Y (nI n) (a_cs Y n x)
def a_1 (Y : ch_B) : Int64 := (31 * (u_dl (V_mc Y))) + (Int32.toInt64 (f_fi (V_os Y)))
def a_2 (Y : ch_B) : Int64 := a_f (fun w => x_acR Y 0 0 (nI w)) 10 (a_1 Y)
noncomputable def a_3 (Y : ch_B) : Int64 := a_cs Y (Y 0 8).toNatClampNeg (a_2 Y)
noncomputable def a_4 (Y : ch_B) : Int64 := a_f (fun r => y_washR Y (nI (r + 1))) 9 (a_3 Y)
noncomputable def a_5 (Y : ch_B) : Int64 := a_f (fun p => V_wa Y (nI p)) 5 (a_4 Y)
noncomputable def a_6 (Y : ch_B) : Int64 := a_f (fun i => x_ln Y z_B 12 1 i) (x_ln Y z_B 12 0 1).toNatClampNeg (a_5 Y)
noncomputable def a_8 (Y : ch_B) : Int64 := a_f (fun i => V_wn Y 1 i) (V_wn Y 0 1).toNatClampNeg (a_6 Y)
noncomputable def a_V (Y : ch_B) : Int64 := (31 * a_8 Y) + (Int32.toInt64 ((y_lr (Y 1) (-1) 12).1))
/-- between two queries -/
def a_I (T : Nat) (Y : ch_B) (m0 m : ch_M) : Prop := a_inv T m ∧ y_can (ch_ob m 1 0) = Y ∧ a_same m0 m
theorem a_I_s {T : Nat} {Y : ch_B} {m0 m M : ch_M} (h : a_I T Y m0 m) (e : a_same m M) (hw : a_wr M) : a_I T Y m0 M :=
  ⟨a_inv_same h.1 e hw, (y_can_sm (a_same_sm e (by decide))).trans h.2.1, a_same_tr h.2.2 e⟩
abbrev a_L (x : Int64) (i : Int32) (o4 : Option ch_V) : ch_LT := [some (.inr (0, 0, 0)), some (.inl (.long x)), none, some (.inl (.int i)), o4]
abbrev a_J (g : ch_G) (q : Int64 → ch_M → Prop) (pc : Nat) (ls : ch_LT) (m : ch_M) (k : Nat) : Prop := ch_J g m_l_asks (ch_rm m_l_asks) (ch_E g m_l_asks (ch_ol q)) pc ls [] m k
section ASK
variable {g : ch_G} {q : Int64 → ch_M → Prop} {T : Nat} {Y : ch_B} {m0 : ch_M}
theorem x_ln_60 (Y : ch_B) : ∃ n, n ≤ 60 ∧ x_ln Y z_B 12 0 1 = nI n := by
  obtain ⟨n, hn, e, -⟩ := t_eq_ln Y z_B z_B 12
  exact ⟨n, hn, e⟩
theorem V_wn_60 (Y : ch_B) : ∃ n, n ≤ 60 ∧ V_wn Y 0 1 = nI n := by
  obtain ⟨n, hn, e, -⟩ := t_eq_wn Y z_B z_B (Y 0 9).toNatClampNeg
  exact ⟨n, hn, e⟩
theorem a_333 (hq : ∀ m, a_I T Y m0 m → q (a_V Y) m) {n : Nat} (hn : n ≤ 60) (en : V_wn Y 0 1 = nI n) : ∀ i, i ≤ n → ∀ m kk, a_I T Y m0 m → m (6, 1, 0) 1 = nI n → (∀ k, k < n → m (6, 1, 1) k = V_wn Y 1 k) → kk ≤ 1100 + i →
    a_J g q 333 [some (.inr (0, 0, 0)), some (.inl (.long (a_f (fun i => V_wn Y 1 i) i (a_6 Y)))), none, some (.inl (.int (nI n))), some (.inl (.int (nI i)))] m kk := by
  refine ch_down (fun i => ∀ m kk, a_I T Y m0 m → m (6, 1, 0) 1 = nI n → (∀ k, k < n → m (6, 1, 1) k = V_wn Y 1 k) → kk ≤ 1100 + i → a_J g q 333 [some (.inr (0, 0, 0)), some (.inl (.long (a_f (fun i => V_wn Y 1 i) i (a_6 Y)))), none, some (.inl (.int (nI n))), some (.inl (.int (nI i)))] m kk) n ?_ ?_
  · intro m kk hI e1 e2 hk
    refine g_l_asks_333 g _ kk (by omega) _ _ _ m ⟨fun _ => ⟨T, hI.1, fun M_ hs hw M e4 => ?_⟩, fun z => absurd (Int32.le_refl _) z⟩
    subst e4
    rw [hI.2.1]
    have h := hq _ (a_I_s hI hs hw)
    unfold a_V a_8 at h
    rw [en, nI_clamp (by omega)] at h
    exact ch_ol_iff.mpr h
  · intro i hi ih m kk hI e1 e2 hk
    refine g_l_asks_333 g _ kk (by omega) _ _ _ m ⟨fun z => absurd z (nI_ge hi (by omega)), fun _ => ⟨T, hI.1, ⟨nI_pos' (by omega), by rw [e1]; exact nI_lt hi (by omega)⟩, ?_⟩⟩
    rw [nI_clamp (by omega), e2 i hi, nI_1]
    exact ih m (kk + 1) hI e1 e2 (by omega)
theorem a_299 (hq : ∀ m, a_I T Y m0 m → q (a_V Y) m) {n : Nat} (hn : n ≤ 60) (en : x_ln Y z_B 12 0 1 = nI n) : ∀ i, i ≤ n → ∀ m kk, a_I T Y m0 m → m (6, 1, 0) 1 = nI n → (∀ k, k < n → m (6, 1, 1) k = x_ln Y z_B 12 1 k) → kk ≤ 1000 + i →
    a_J g q 299 [some (.inr (0, 0, 0)), some (.inl (.long (a_f (fun i => x_ln Y z_B 12 1 i) i (a_5 Y)))), none, some (.inl (.int (nI n))), some (.inl (.int (nI i)))] m kk := by
  refine ch_down (fun i => ∀ m kk, a_I T Y m0 m → m (6, 1, 0) 1 = nI n → (∀ k, k < n → m (6, 1, 1) k = x_ln Y z_B 12 1 k) → kk ≤ 1000 + i → a_J g q 299 [some (.inr (0, 0, 0)), some (.inl (.long (a_f (fun i => x_ln Y z_B 12 1 i) i (a_5 Y)))), none, some (.inl (.int (nI n))), some (.inl (.int (nI i)))] m kk) n ?_ ?_
  · intro m kk hI e1 e2 hk
    refine g_l_asks_299 g _ kk (by omega) _ _ _ m ⟨fun _ => ⟨T, hI.1, fun M_ hs hw f1 f2 M e4 => ?_⟩, fun z => absurd (Int32.le_refl _) z⟩
    subst e4
    obtain ⟨n2, hn2, en2⟩ := V_wn_60 Y
    rw [hI.2.1] at f1 f2 ⊢
    rw [en2] at f1 f2 ⊢
    rw [nI_clamp (by omega)] at f2
    have e6 : a_f (fun i => x_ln Y z_B 12 1 i) n (a_5 Y) = a_6 Y := by
      unfold a_6
      rw [en, nI_clamp (by omega)]
    rw [e6, ← a_f_0 (fun i => V_wn Y 1 i) (a_6 Y)]
    exact a_333 hq hn2 en2 0 (by omega) M kk (a_I_s hI hs hw) f1 f2 (by omega)
  · intro i hi ih m kk hI e1 e2 hk
    refine g_l_asks_299 g _ kk (by omega) _ _ _ m ⟨fun z => absurd z (nI_ge hi (by omega)), fun _ => ⟨T, hI.1, ⟨nI_pos' (by omega), by rw [e1]; exact nI_lt hi (by omega)⟩, ?_⟩⟩
    rw [nI_clamp (by omega), e2 i hi, nI_1]
    exact ih m (kk + 1) hI e1 e2 (by omega)
theorem a_267 (hq : ∀ m, a_I T Y m0 m → q (a_V Y) m) : ∀ i, i ≤ 5 → ∀ m kk o4, a_I T Y m0 m → kk ≤ 980 + i → a_J g q 267 (a_L (a_f (fun p => V_wa Y (nI p)) i (a_4 Y)) (nI i) o4) m kk := by
  refine ch_down (fun i => ∀ m kk o4, a_I T Y m0 m → kk ≤ 980 + i → a_J g q 267 (a_L (a_f (fun p => V_wa Y (nI p)) i (a_4 Y)) (nI i) o4) m kk) 5 ?_ ?_
  · intro m kk o4 hI hk
    refine g_l_asks_267 g _ kk (by omega) _ _ _ m ⟨fun _ => ⟨T, hI.1, fun M_ hs hw f1 f2 M e4 => ?_⟩, fun z => absurd (Int32.le_refl _) z⟩
    subst e4
    obtain ⟨n2, hn2, en2⟩ := x_ln_60 Y
    rw [hI.2.1] at f1 f2 ⊢
    rw [en2] at f1 f2 ⊢
    rw [nI_clamp (by omega)] at f2
    have e5 : a_f (fun p => V_wa Y (nI p)) 5 (a_4 Y) = a_5 Y := rfl
    rw [e5, ← a_f_0 (fun i => x_ln Y z_B 12 1 i) (a_5 Y)]
    exact a_299 hq hn2 en2 0 (by omega) M kk (a_I_s hI hs hw) f1 f2 (by omega)
  · intro i hi ih m kk o4 hI hk
    refine g_l_asks_267 g _ kk (by omega) _ _ _ m ⟨fun z => absurd z (nI_ge (b := 5) hi (by omega)), fun _ => ⟨T, hI.1, fun M_ hs hw M e4 => ?_⟩⟩
    subst e4
    rw [hI.2.1, nI_1]
    exact ih M (kk + 1) o4 (a_I_s hI hs hw) (by omega)
theorem a_240 (hq : ∀ m, a_I T Y m0 m → q (a_V Y) m) : ∀ i, i ≤ 9 → ∀ m kk o4, a_I T Y m0 m → kk ≤ 960 + i → a_J g q 240 (a_L (a_f (fun r => y_washR Y (nI (r + 1))) i (a_3 Y)) (nI (i + 1)) o4) m kk := by
  refine ch_down (fun i => ∀ m kk o4, a_I T Y m0 m → kk ≤ 960 + i → a_J g q 240 (a_L (a_f (fun r => y_washR Y (nI (r + 1))) i (a_3 Y)) (nI (i + 1)) o4) m kk) 9 ?_ ?_
  · intro m kk o4 hI hk
    refine g_l_asks_240 g _ kk (by omega) _ _ _ m ⟨fun _ => ?_, fun z => absurd (Int32.le_refl _) z⟩
    exact a_267 hq 0 (by omega) m kk o4 hI (by omega)
  · intro i hi ih m kk o4 hI hk
    refine g_l_asks_240 g _ kk (by omega) _ _ _ m ⟨fun z => absurd z (nI_ge (b := 10) (by omega) (by omega)), fun _ => ⟨T, hI.1, ⟨nI_le (a := 1) (by omega) (by omega), nI_le (b := 9) (by omega) (by omega)⟩, fun M_ hs hw M e4 => ?_⟩⟩
    subst e4
    rw [hI.2.1, nI_1]
    exact ih M (kk + 1) o4 (a_I_s hI hs hw) (by omega)
theorem a_205 {c b : Nat} {x : Int64} (hc : c < 5) (hc8 : (0 : Int32) ≤ nI c ∧ nI c < Y 0 8) (nx : ∀ m kk o4, a_I T Y m0 m → kk ≤ b + 4 → a_J g q 50 (a_L (a_f (fun q => V_rk Y (nI q) (nI c)) 4 x) (nI (c + 1)) o4) m kk) (hb : b ≤ 900) : ∀ i, i ≤ 4 → ∀ m kk, a_I T Y m0 m → kk ≤ b + i → a_J g q 205 (a_L (a_f (fun q => V_rk Y (nI q) (nI c)) i x) (nI c) (some (.inl (.int (nI i))))) m kk := by
  refine ch_down (fun i => ∀ m kk, a_I T Y m0 m → kk ≤ b + i → a_J g q 205 (a_L (a_f (fun q => V_rk Y (nI q) (nI c)) i x) (nI c) (some (.inl (.int (nI i))))) m kk) 4 ?_ ?_
  · intro m kk hI hk
    refine g_l_asks_205 g _ kk (by omega) _ _ _ m ⟨fun _ => ?_, fun z => absurd (Int32.le_refl _) z⟩
    rw [nI_1]
    exact nx m kk _ hI hk
  · intro i hi ih m kk hI hk
    have e8 : m (1, 0, 0) 8 = Y 0 8 := by rw [← a_can8 m, hI.2.1]
    refine g_l_asks_205 g _ kk (by omega) _ _ _ m ⟨fun z => absurd z (nI_ge (b := 4) hi (by omega)), fun _ => ⟨T, hI.1, ⟨nI_pos' (by omega), nI_le (b := 3) (by omega) (by omega)⟩, by rw [e8]; exact hc8, fun M_ hs hw M e4 => ?_⟩⟩
    subst e4
    rw [hI.2.1, nI_1]
    exact ih M (kk + 1) (a_I_s hI hs hw) (by omega)
theorem a_174 {c b : Nat} {x : Int64} (hc8 : (0 : Int32) ≤ nI c ∧ nI c < Y 0 8) (nx : ∀ m kk, a_I T Y m0 m → kk ≤ b + 12 → a_J g q 205 (a_L (a_f (fun k => V_st Y (nI c) (nI k)) 6 x) (nI c) (some (.inl (.int (nI 0))))) m kk) (hb : b ≤ 900) : ∀ i, i ≤ 6 → ∀ m kk, a_I T Y m0 m → kk ≤ b + 2 * i → a_J g q 174 (a_L (a_f (fun k => V_st Y (nI c) (nI k)) i x) (nI c) (some (.inl (.int (nI i))))) m kk := by
  refine ch_down (fun i => ∀ m kk, a_I T Y m0 m → kk ≤ b + 2 * i → a_J g q 174 (a_L (a_f (fun k => V_st Y (nI c) (nI k)) i x) (nI c) (some (.inl (.int (nI i))))) m kk) 6 ?_ ?_
  · intro m kk hI hk
    refine g_l_asks_174 g _ kk (by omega) _ _ _ m ⟨fun _ => ?_, fun z => absurd (Int32.le_refl _) z⟩
    exact nx m kk hI hk
  · intro i hi ih m kk hI hk
    have e8 : m (1, 0, 0) 8 = Y 0 8 := by rw [← a_can8 m, hI.2.1]
    refine g_l_asks_174 g _ kk (by omega) _ _ _ m ⟨fun z => absurd z (nI_ge (b := 6) hi (by omega)), fun _ => ⟨T, hI.1, by rw [e8]; exact hc8, fun M_ hs hw M e4 => ?_⟩⟩
    subst e4
    rw [hI.2.1, nI_1]
    exact ih M (kk + 2) (a_I_s hI hs hw) (by omega)
theorem a_62 {c b : Nat} {x : Int64} (hc8 : (0 : Int32) ≤ nI c ∧ nI c < Y 0 8) (nx : ∀ m kk, a_I T Y m0 m → kk ≤ b + 23 → a_J g q 174 (a_L (a_7 Y (nI c) (a_f (fun w => x_coR Y (nI c) (nI w)) 7 x)) (nI c) (some (.inl (.int (nI 0))))) m kk) (hb : b ≤ 900) : ∀ i, i ≤ 7 → ∀ m kk, a_I T Y m0 m → kk ≤ b + 2 * i → a_J g q 62 (a_L (a_f (fun w => x_coR Y (nI c) (nI w)) i x) (nI c) (some (.inl (.int (nI i))))) m kk := by
  refine ch_down (fun i => ∀ m kk, a_I T Y m0 m → kk ≤ b + 2 * i → a_J g q 62 (a_L (a_f (fun w => x_coR Y (nI c) (nI w)) i x) (nI c) (some (.inl (.int (nI i))))) m kk) 7 ?_ ?_
  · intro m kk hI hk
    have e8 : ∀ m, a_I T Y m0 m → (0 : Int32) ≤ nI c ∧ nI c < m (1, 0, 0) 8 := fun m hI => by
      rw [← a_can8 m, hI.2.1]
      exact hc8
    refine g_l_asks_62 g _ kk (by omega) _ _ _ m ⟨fun _ => ?_, fun z => absurd (Int32.le_refl _) z⟩
    refine ⟨T, hI.1, e8 _ hI, fun M_ hs hw M e4 => ?_⟩
    subst e4
    have hI1 := a_I_s hI hs hw
    refine ⟨T, hI1.1, e8 _ hI1, fun M_ hs hw M e4 => ?_⟩
    subst e4
    have hI2 := a_I_s hI1 hs hw
    refine ⟨T, hI2.1, e8 _ hI2, fun M_ hs hw M e4 => ?_⟩
    subst e4
    have hI3 := a_I_s hI2 hs hw
    refine ⟨T, hI3.1, e8 _ hI3, fun M_ hs hw M e4 => ?_⟩
    subst e4
    have hI4 := a_I_s hI3 hs hw
    refine ⟨T, hI4.1, e8 _ hI4, fun M_ hs hw M e4 => ?_⟩
    subst e4
    have hI5 := a_I_s hI4 hs hw
    refine ⟨T, hI5.1, e8 _ hI5, fun M_ hs hw M e4 => ?_⟩
    subst e4
    have hI6 := a_I_s hI5 hs hw
    refine ⟨T, hI6.1, e8 _ hI6, fun M_ hs hw M e4 => ?_⟩
    subst e4
    have hI7 := a_I_s hI6 hs hw
    rw [hI.2.1, hI1.2.1, hI2.2.1, hI3.2.1, hI4.2.1, hI5.2.1, hI6.2.1]
    exact nx M (kk + 9) hI7 (by omega)
  · intro i hi ih m kk hI hk
    have e8 : m (1, 0, 0) 8 = Y 0 8 := by rw [← a_can8 m, hI.2.1]
    refine g_l_asks_62 g _ kk (by omega) _ _ _ m ⟨fun z => absurd z (nI_ge (b := 7) hi (by omega)), fun _ => ⟨T, hI.1, by rw [e8]; exact hc8, ⟨nI_pos' (by omega), nI_le (b := 6) (by omega) (by omega)⟩, fun M_ hs hw M e4 => ?_⟩⟩
    subst e4
    rw [hI.2.1, nI_1]
    exact ih M (kk + 2) (a_I_s hI hs hw) (by omega)
theorem a_50 (hq : ∀ m, a_I T Y m0 m → q (a_V Y) m) {n : Nat} (hn : n < 6) (en : Y 0 8 = nI n) : ∀ c, c ≤ n → ∀ m kk o4, a_I T Y m0 m → kk ≤ 100 + 60 * c → a_J g q 50 (a_L (a_cs Y c (a_2 Y)) (nI c) o4) m kk := by
  have h0 : x_acR Y 0 0 0 = Y 0 8 := rfl
  refine ch_down (fun c => ∀ m kk o4, a_I T Y m0 m → kk ≤ 100 + 60 * c → a_J g q 50 (a_L (a_cs Y c (a_2 Y)) (nI c) o4) m kk) n ?_ ?_
  · intro m kk o4 hI hk
    refine g_l_asks_50 g _ kk (by omega) _ _ _ m ⟨T, hI.1, ⟨by decide, by decide⟩, fun M_ hs hw M e4 => ?_⟩
    subst e4
    rw [hI.2.1, h0, en]
    refine ⟨fun _ => ?_, fun z => absurd (Int32.le_refl _) z⟩
    have e3 : a_cs Y n (a_2 Y) = a_3 Y := by
      unfold a_3
      rw [en, nI_clamp (by omega)]
    rw [e3, ← a_f_0 (fun r => y_washR Y (nI (r + 1))) (a_3 Y)]
    exact a_240 hq 0 (by omega) M (kk + 1) o4 (a_I_s hI hs hw) (by omega)
  · intro c hc ih m kk o4 hI hk
    refine g_l_asks_50 g _ kk (by omega) _ _ _ m ⟨T, hI.1, ⟨by decide, by decide⟩, fun M_ hs hw M e4 => ?_⟩
    subst e4
    rw [hI.2.1, h0, en]
    refine ⟨fun z => absurd z (nI_ge hc (by omega)), fun _ => ?_⟩
    have hc8 : (0 : Int32) ≤ nI c ∧ nI c < Y 0 8 := ⟨nI_pos' (by omega), by rw [en]; exact nI_lt hc (by omega)⟩
    have ec : a_cs Y (c + 1) (a_2 Y) = a_f (fun q => V_rk Y (nI q) (nI c)) 4 (a_f (fun k => V_st Y (nI c) (nI k)) 6 (a_7 Y (nI c) (a_f (fun w => x_coR Y (nI c) (nI w)) 7 (a_cs Y c (a_2 Y))))) := rfl
    rw [ec] at ih
    rw [← a_f_0 (fun w => x_coR Y (nI c) (nI w)) (a_cs Y c (a_2 Y))]
    refine a_62 (b := 101 + 60 * c) hc8 (fun m kk hI hk => ?_) (by omega) 0 (by omega) M (kk + 1) (a_I_s hI hs hw) (by omega)
    rw [← a_f_0 (fun k => V_st Y (nI c) (nI k)) (a_7 Y (nI c) (a_f (fun w => x_coR Y (nI c) (nI w)) 7 (a_cs Y c (a_2 Y))))]
    refine a_174 (b := 101 + 60 * c + 23) hc8 (fun m kk hI hk => ?_) (by omega) 0 (by omega) m kk hI (by omega)
    rw [← a_f_0 (fun q => V_rk Y (nI q) (nI c)) (a_f (fun k => V_st Y (nI c) (nI k)) 6 (a_7 Y (nI c) (a_f (fun w => x_coR Y (nI c) (nI w)) 7 (a_cs Y c (a_2 Y)))))]
    exact a_205 (b := 101 + 60 * c + 23 + 12) (by omega) hc8 (fun m kk o4 hI hk => ih m kk o4 hI (by omega)) (by omega) 0 (by omega) m kk hI (by omega)
theorem a_23 (hq : ∀ m, a_I T Y m0 m → q (a_V Y) m) {n : Nat} (hn : n < 6) (en : Y 0 8 = nI n) : ∀ i, i ≤ 10 → ∀ m kk o4, a_I T Y m0 m → kk ≤ 10 + i → a_J g q 23 (a_L (a_f (fun w => x_acR Y 0 0 (nI w)) i (a_1 Y)) (nI i) o4) m kk := by
  refine ch_down (fun i => ∀ m kk o4, a_I T Y m0 m → kk ≤ 10 + i → a_J g q 23 (a_L (a_f (fun w => x_acR Y 0 0 (nI w)) i (a_1 Y)) (nI i) o4) m kk) 10 ?_ ?_
  · intro m kk o4 hI hk
    refine g_l_asks_23 g _ kk (by omega) _ _ _ m ⟨fun _ => ?_, fun z => absurd (Int32.le_refl _) z⟩
    exact a_50 hq hn en 0 (by omega) m kk o4 hI (by omega)
  · intro i hi ih m kk o4 hI hk
    refine g_l_asks_23 g _ kk (by omega) _ _ _ m ⟨fun z => absurd z (nI_ge (b := 10) hi (by omega)), fun _ => ⟨T, hI.1, ⟨nI_pos' (by omega), nI_le (b := 9) (by omega) (by omega)⟩, fun M_ hs hw M e4 => ?_⟩⟩
    subst e4
    rw [hI.2.1, nI_1]
    exact ih M (kk + 1) o4 (a_I_s hI hs hw) (by omega)
end ASK
theorem t_l_asks (g : ch_G) (q : Int64 → ch_M → Prop) (T_ : Nat) (m : ch_M) (h : (a_inv T_ m) ∧ (∀ (M_ : ch_M), (a_same m M_) → (a_wr M_) → q (a_V (y_can (ch_ob m 1 0))) M_)) : ch_C g m_l_asks [.inr (0, 0, 0)] m (ch_ol q) := by
  obtain ⟨hi, hq⟩ := h
  refine e_l_asks g _ m ?_
  have hI0 : a_I T_ (y_can (ch_ob m 1 0)) m m := ⟨hi, rfl, a_same_refl m⟩
  obtain ⟨n, hn, en⟩ := vp_in_of (y_i8 hi.1) (by decide)
  have en' : y_can (ch_ob m 1 0) 0 8 = nI n := (y_can_at (by decide)).trans en
  have hq' : ∀ M, a_I T_ (y_can (ch_ob m 1 0)) m M → q (a_V (y_can (ch_ob m 1 0))) M := fun M hI => hq M hI.2.2 hI.1.2.1
  refine g_l_asks_0 g _ 0 (by omega) m ⟨T_, hi, fun M_ hs hw M e4 => ?_⟩
  subst e4
  have hI1 := a_I_s hI0 hs hw
  refine ⟨T_, hI1.1, fun M_ hs hw M2 e4 => ?_⟩
  subst e4
  rw [hI1.2.1]
  exact a_23 hq' hn en' 0 (by omega) M2 (0 + 1) none (a_I_s hI1 hs hw) (by omega)
