section FIRST
variable {g : ch_G} {R : Room} {E : ch_En} {o3 o4 o5 o6 o7 o8 o9 o10 : Option ch_V}
theorem e_196 (hR : ch_RR R 18) (hC : 120000 ≤ R.cells ∧ 720000 ≤ R.slots) (nx : ∀ m k o2, k ≤ 40000 → ch_J g m_l_law R E 479 (e_L o2 o3 o4 o5 o6 o7 o8 o9 o10) [] m k) : ∀ j, j ≤ 12 → ∀ (T : Nat) (Q : Int32 × Int32 × Int32) (m : ch_M) (k : Nat), T ≤ 1000 + 12 * j → a_W (e_D T (5 + j) (min (5 + j) 8)) (e_Y 5 j) Q m → k ≤ 20000 + j → ch_J g m_l_law R E 196 (e_L (some (.inl (.int (nI j)))) o3 o4 o5 o6 o7 o8 o9 o10) [] m k := by
  refine ch_down (fun j => ∀ (T : Nat) (Q : Int32 × Int32 × Int32) (m : ch_M) (k : Nat), T ≤ 1000 + 12 * j → a_W (e_D T (5 + j) (min (5 + j) 8)) (e_Y 5 j) Q m → k ≤ 20000 + j → ch_J g m_l_law R E 196 (e_L (some (.inl (.int (nI j)))) o3 o4 o5 o6 o7 o8 o9 o10) [] m k) 12 ?_ ?_
  · intro T Q m k hT hW hk
    refine g_l_law_196 g R E k hR hC (by omega) _ _ _ _ _ _ _ _ _ m ⟨fun _ => ?_, fun z => absurd (Int32.le_refl _) z⟩
    exact e_220 hR hC nx (T := T) _ m k hW (by omega)
  · intro j hj ih T Q m k hT hW hk
    refine g_l_law_196 g R E k hR hC (by omega) _ _ _ _ _ _ _ _ _ m ⟨fun z => absurd z (nI_ge (b := 12) hj (by decide)), fun _ => ?_⟩
    refine ⟨_, _, _, e_Y 5 (j + 1), 5, hW, by show T + 732 < 2 ^ 31; omega, fun Z hZ => e_cha hj hZ, fun M1 h1 m1 e1 => ?_⟩
    subst e1
    refine ⟨fun _ => ?_, fun z => absurd rfl z⟩
    rw [nI_1]
    have h2 : a_W (a_up (e_D T (5 + j) (min (5 + j) 8)) ((e_D T (5 + j) (min (5 + j) 8)).1 + 12) (e_S (5 + j))) (e_Y 5 (j + 1)) (m1 (3, 0, 0) 0, m1 (3, 0, 0) 1, m1 (3, 0, 0) 2) m1 := by
      rw [e_S_5]
      exact h1
    rw [e_D_up (c' := min (5 + (j + 1)) 8) (by omega)] at h2
    exact ih (T + 12) _ m1 (k + 1) (by omega) h2 (by omega)
theorem e_172 (hR : ch_RR R 18) (hC : 120000 ≤ R.cells ∧ 720000 ≤ R.slots) (nx : ∀ m k o2, k ≤ 40000 → ch_J g m_l_law R E 479 (e_L o2 o3 o4 o5 o6 o7 o8 o9 o10) [] m k) {T : Nat} (hT : T ≤ 1000) {Q : Int32 × Int32 × Int32} (x2 : Int32) (m : ch_M) (k : Nat) (hW : a_W (e_D T 5 5) (e_Y 5 0) Q m) (hk : k ≤ 19000) : ch_J g m_l_law R E 172 (e_L (some (.inl (.int x2))) o3 o4 o5 o6 o7 o8 o9 o10) [] m k := by
  refine g_l_law_172 g R E k hR hC (by omega) _ _ _ _ _ _ _ _ _ m ⟨_, _, _, hW, rfl, fun z => absurd (show nI 5 = 5 from rfl) z, fun _ => ?_⟩
  refine ⟨_, _, _, hW, ⟨by decide, by decide⟩, fun M1 h1 m1 e1 => ?_⟩
  subst e1
  exact ⟨fun _ => e_196 hR hC nx 0 (by omega) T _ m1 _ (by omega) h1 (by omega), fun z => absurd e_a1 z⟩
theorem e_152 (hR : ch_RR R 18) (hC : 120000 ≤ R.cells ∧ 720000 ≤ R.slots) (nx : ∀ m k o2, k ≤ 40000 → ch_J g m_l_law R E 479 (e_L o2 o3 o4 o5 o6 o7 o8 o9 o10) [] m k) {T : Nat} (hT : T ≤ 1000) {Q : Int32 × Int32 × Int32} (x2 : Int32) (m : ch_M) (k : Nat) (hW : a_W (e_D T 5 5) (e_Y 5 0) Q m) (hk : k ≤ 18000) : ch_J g m_l_law R E 152 (e_L (some (.inl (.int x2))) o3 o4 o5 o6 o7 o8 o9 o10) [] m k := by
  refine g_l_law_152 g R E k hR hC (by omega) _ _ _ _ _ _ _ _ _ m ⟨_, _, _, 2, 5, hW, fun Z hZ => rr_wn5 ((hZ 0 8 (by decide)).trans rfl), by decide, fun M1 h1 m1 e1 => ?_⟩
  subst e1
  exact ⟨_, _, h1, by decide, e_172 hR hC nx hT _ m1 _ h1 (by omega)⟩
theorem e_130 (hR : ch_RR R 18) (hC : 120000 ≤ R.cells ∧ 720000 ≤ R.slots) (nx : ∀ m k o2, k ≤ 40000 → ch_J g m_l_law R E 479 (e_L o2 o3 o4 o5 o6 o7 o8 o9 o10) [] m k) : ∀ j, j ≤ 5 → ∀ (T : Nat) (Q : Int32 × Int32 × Int32) (m : ch_M) (k : Nat), 1 ≤ j → T ≤ 100 + 12 * j → a_W (e_D T j j) (e_Y j 0) Q m → k ≤ 17000 + j → ch_J g m_l_law R E 130 (e_L (some (.inl (.int (nI j)))) o3 o4 o5 o6 o7 o8 o9 o10) [] m k := by
  refine ch_down (fun j => ∀ (T : Nat) (Q : Int32 × Int32 × Int32) (m : ch_M) (k : Nat), 1 ≤ j → T ≤ 100 + 12 * j → a_W (e_D T j j) (e_Y j 0) Q m → k ≤ 17000 + j → ch_J g m_l_law R E 130 (e_L (some (.inl (.int (nI j)))) o3 o4 o5 o6 o7 o8 o9 o10) [] m k) 5 ?_ ?_
  · intro T Q m k _ hT hW hk
    refine g_l_law_130 g R E k hR hC (by omega) _ _ _ _ _ _ _ _ _ m ⟨fun _ => ?_, fun z => absurd (Int32.le_refl _) z⟩
    exact e_152 hR hC nx (T := T) (by omega) _ m k hW (by omega)
  · intro j hj ih T Q m k h1j hT hW hk
    refine g_l_law_130 g R E k hR hC (by omega) _ _ _ _ _ _ _ _ _ m ⟨fun z => absurd z (nI_ge (b := 5) hj (by decide)), fun _ => ?_⟩
    refine ⟨_, _, _, e_Y (j + 1) 0, nI j, hW, by show T + 732 < 2 ^ 31; omega, fun Z hZ => ⟨?_, e_bri hj (by rw [if_neg (by omega)]) hZ, ?_⟩, fun M1 h1 m1 e1 => ?_⟩
    · have z8 : Z 0 8 = nI j := hZ 0 8 (by decide)
      unfold r_wn
      rw [if_pos ⟨nI_pos' (by omega), nI_le (b := 99) (by omega) (by decide)⟩, z8, if_pos (show nI j < 5 from nI_lt (b := 5) hj (by decide))]
    · have z8 : Z 0 8 = nI j := hZ 0 8 (by decide)
      rw [z8]
      exact Int32.add_sub_cancel _ _
    · subst e1
      refine ⟨fun _ => ?_, fun z => absurd rfl z⟩
      rw [nI_1]
      have h2 : a_W (a_up (e_D T j j) ((e_D T j j).1 + 12) (e_S j)) (e_Y (j + 1) 0) (m1 (3, 0, 0) 0, m1 (3, 0, 0) 1, m1 (3, 0, 0) 2) m1 := by
        rw [e_S_le (by omega)]
        exact h1
      rw [e_D_up (c' := j + 1) (by omega)] at h2
      exact ih (T + 12) _ m1 (k + 1) (by omega) (by omega) h2 (by omega)
/-- the first object with a text of so many signs -/
def e_T (T : Nat) (t : Int32) : a_G := (T, 1, (fun k => e_S (1 - 1 - k)), ((1 : Int32), e_Y 0 0), t)
def e_X (T i : Nat) (m : ch_M) : Prop := a_S (e_T T (nI i)) m ∧ y_sm (e_Y 1 0) (ch_ob m 1 0) ∧ (0 < i → m (6, 0, 1) 0 = 65)
theorem d_fp_0 {X : ch_B} (h : d_sg X (nI 0) = 65) : d_fp X 60 0 = 0 := by
  have e : d_pt X 0 = (false, 0) := by
    unfold d_pt
    rw [h, if_neg (by decide)]
  rw [show (60 : Nat) = 59 + 1 from rfl, d_fp, e, if_neg Bool.false_ne_true]
  rfl
theorem e_77 (hR : ch_RR R 18) (hC : 120000 ≤ R.cells ∧ 720000 ≤ R.slots) (nx : ∀ m k o2, k ≤ 40000 → ch_J g m_l_law R E 479 (e_L o2 o3 o4 o5 o6 o7 o8 o9 o10) [] m k) {T : Nat} (hT : T ≤ 100) (hT0 : 0 < T) (x2 : Int32) (m : ch_M) (k : Nat) (hX : e_X T 60 m) (hk : k ≤ 16000) : ch_J g m_l_law R E 77 (e_L (some (.inl (.int x2))) o3 o4 o5 o6 o7 o8 o9 o10) [] m k := by
  obtain ⟨hS, hY, hc⟩ := hX
  have h60 : m (6, 0, 0) 1 = 60 := hS.2.2.2.2.1
  have h8 : vp_in (m (1, 0, 0) 8) 6 := y_i8 hS.1
  have hF : (x_F m).1 = 0 := by
    rw [x_F_fp]
    refine d_fp_0 ?_
    have e1 : ch_ob m 6 0 0 1 = 60 := h60
    have e2 : ch_ob m 6 0 1 0 = 65 := hc (by omega)
    unfold d_sg
    rw [e1, if_pos (by decide), nI_clamp (by omega), e2]
  refine g_l_law_77 g R E k hR hC (by omega) _ _ _ _ _ _ _ _ _ m ⟨by rw [h60]; exact vp_in_nI (n := 60) (by decide) (by decide), fun z => absurd z (by rw [h60]; decide), fun _ => ⟨h8, rfl, fun z => absurd h60 z, fun _ => ?_⟩⟩
  refine ⟨_, hS, by show T + 720 < 2 ^ 31; omega, hT0, fun z => absurd z.1 (by rw [hF]; decide), fun z M1 h1 h2 h3 _ m1 e1 => ?_, fun z => absurd z.1 (by rw [hF]; decide)⟩
  subst e1
  have h0 : m1 (6, 0, 0) 1 = 0 := h1.2.2.2.2.1
  refine ⟨fun z => absurd (h3.trans hF) z, fun _ => ⟨y_i8 h1.1, rfl, fun _ => ?_, fun z => absurd h0 z⟩⟩
  exact e_130 hR hC nx 1 (by omega) T (m1 (3, 0, 0) 0, m1 (3, 0, 0) 1, m1 (3, 0, 0) 2) m1 _ (Nat.le_refl _) (by omega) ⟨h1, ⟨rfl, by show T + 720 < 2 ^ 31; omega, hT0⟩, by rw [h2]; exact hY, rfl, rfl, rfl⟩ (by omega)
theorem e_48 (hR : ch_RR R 18) (hC : 120000 ≤ R.cells ∧ 720000 ≤ R.slots) (nx : ∀ m k o2, k ≤ 40000 → ch_J g m_l_law R E 479 (e_L o2 o3 o4 o5 o6 o7 o8 o9 o10) [] m k) {T : Nat} (hT : T ≤ 100) (hT0 : 0 < T) : ∀ i, i ≤ 60 → ∀ (m : ch_M) (k : Nat), e_X T i m → k ≤ 15000 + i → ch_J g m_l_law R E 48 (e_L (some (.inl (.int (nI i)))) o3 o4 o5 o6 o7 o8 o9 o10) [] m k := by
  refine ch_down (fun i => ∀ (m : ch_M) (k : Nat), e_X T i m → k ≤ 15000 + i → ch_J g m_l_law R E 48 (e_L (some (.inl (.int (nI i)))) o3 o4 o5 o6 o7 o8 o9 o10) [] m k) 60 ?_ ?_
  · intro m k hX hk
    exact g_l_law_48 g R E k hR hC (by omega) _ _ _ _ _ _ _ _ _ m ⟨fun _ => e_77 hR hC nx hT hT0 _ m k hX (by omega), fun z => absurd (Int32.le_refl _) z⟩
  · intro i hi ih m k hX hk
    obtain ⟨hS, hY, hc⟩ := hX
    have hn : m (6, 0, 0) 1 = nI i := hS.2.2.2.2.1
    have hn' : ch_ob m 6 0 0 1 = nI i := hn
    have hlt : ¬ (60 : Int32) ≤ nI i := nI_ge (b := 60) hi (by decide)
    refine g_l_law_48 g R E k hR hC (by omega) _ _ _ _ _ _ _ _ _ m ⟨fun z => absurd z hlt, fun _ => ⟨by rw [hn]; exact vp_in_nI (by omega) (by decide), fun _ m2 e2 => ⟨fun _ => ?_, fun z => absurd (by rw [hn]) z⟩, fun z => absurd (by rw [hn]; exact Int32.not_le.mp hlt) z⟩⟩
    rw [nI_1]
    subst e2
    refine ih _ (k + 1) ⟨?_, by rw [ch_ob_ne (by omega)]; exact hY, fun _ => ?_⟩ (by omega)
    · refine a_S_txt hS ?_
      unfold t_putB
      rw [hn', if_neg hlt, ch_bw_at, nI_1]
    · rw [ch_os_at]
      unfold t_putB
      rw [hn', if_neg hlt, ch_bw_c (by decide), nI_clamp (by omega)]
      by_cases z : i = 0
      · subst z
        rw [ch_bw_at]
        decide
      · rw [ch_bw_k (Ne.symm z)]
        exact hc (by omega)
/-- the first object's walk -/
theorem e_8 (hR : ch_RR R 18) (hC : 120000 ≤ R.cells ∧ 720000 ≤ R.slots) (nx : ∀ m k o2, k ≤ 40000 → ch_J g m_l_law R E 479 (e_L o2 o3 o4 o5 o6 o7 o8 o9 o10) [] m k) {o2 : Option ch_V} {Q : Int32 × Int32 × Int32} (m : ch_M) (k : Nat) (hW : a_W (1, 0, (fun _ => e_Y 0 0), ((0 : Int32), e_Y 0 0), (0 : Int32)) (e_Y 0 0) Q m) (hk : k ≤ 10000) : ch_J g m_l_law R E 8 (e_L o2 o3 o4 o5 o6 o7 o8 o9 o10) [] m k := by
  refine g_l_law_8 g R E k hR hC (by omega) _ _ _ _ _ _ _ _ _ m ⟨_, _, _, hW, rfl, ?_⟩
  refine ⟨_, _, _, hW, rfl, ?_⟩
  refine ⟨_, _, _, hW, fun M1 h1 m1 e1 => ?_⟩
  subst e1
  refine ⟨fun z => absurd (show e_Y 0 0 0 8 = 0 from rfl) z, fun _ => ?_⟩
  refine ⟨_, _, _, e_Y 1 0, 0, h1, by show 1 + 732 < 2 ^ 31; omega, fun Z hZ => ⟨?_, e_bri (k := 0) (p := 99) (by omega) rfl hZ, ?_⟩, fun M2 h2 m2 e2 => ?_⟩
  · have z8 : Z 0 8 = 0 := hZ 0 8 (by decide)
    unfold r_wn
    rw [if_pos (by decide), z8, if_pos (by decide)]
  · have z8 : Z 0 8 = 0 := hZ 0 8 (by decide)
    rw [z8]
    decide
  · subst e2
    refine ⟨fun _ => ?_, fun z => absurd rfl z⟩
    have h3 : a_W (a_up (e_D 1 0 0) ((e_D 1 0 0).1 + 12) (e_S 0)) (e_Y 1 0) (m2 (3, 0, 0) 0, m2 (3, 0, 0) 1, m2 (3, 0, 0) 2) m2 := by
      have e : a_sv (1, 0, (fun _ => e_Y 0 0), ((0 : Int32), e_Y 0 0), (0 : Int32)) (e_Y 0 0) = e_D 1 0 0 := by
        unfold a_sv e_D
        have ef : (fun k => e_S (0 - 1 - k)) = fun _ => e_Y 0 0 := by
          funext k
          rw [show 0 - 1 - k = 0 by omega]
          exact e_S_le (by omega)
        rw [ef]
      rw [e] at h2
      rw [e_S_le (by omega)]
      exact h2
    rw [e_D_up (c' := 1) (by omega)] at h3
    exact e_48 hR hC nx (T := 13) (by omega) (by omega) 0 (by omega) m2 _ ⟨h3.1, h3.2.2.1, fun z => absurd z (by omega)⟩ (by omega)
end FIRST
