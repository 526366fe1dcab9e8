theorem y_inv_hop {T : Nat} (hT : T + 12 < 2 ^ 31) {Y : ch_B} (h : y_inv T Y) {c : Int32} (hc : 0 ≤ c ∧ c < Y 0 8) (f : Nat → Int32) {n : Nat} (hn : n ≤ 12) : y_inv (T + 12) (y_hopB Y c f n) := by
  obtain ⟨z, hz, ez⟩ := vp_in_of (y_i8 h) (by decide)
  obtain ⟨k, hk, rfl⟩ := y_D_chd (T := T) ez hz hc
  have ck : (nI k).toNatClampNeg = k := nI_clamp (by omega)
  obtain ⟨r1, e8⟩ := y_inv_hk (by omega) h (nI k) f n
  obtain ⟨a, ha, ea⟩ := y_ct_n Y (nI k) f n
  have hk8 : k < (y_hk Y (nI k) f n 0 8).toNatClampNeg := by rw [e8, ez, nI_clamp (by omega)]; exact hk
  have r2 := y_inv_mono (T' := T + 12) hT (y_inv_4 (a := a) (by omega) r1 hk8) (by omega)
  have r3 := y_inv_cnt (k := 12) (v := y_hk Y (nI k) f n 0 12 + nI a) r2 (by decide)
  unfold y_hopB
  rw [ck, ea]
  exact y_inv_67 hT r3 (Or.inl rfl) (by rw [ch_bw_k (by decide), ch_bw_c (by decide)]; exact hk8)
theorem r_if {p : Prop} [Decidable p] {a d : Int32 × Int32} (hd : ¬ d.1 = 0) (h : (if p then a else d).1 = 0) : p ∧ a.1 = 0 := by
  by_cases l : p
  · rw [if_pos l] at h
    exact ⟨l, h⟩
  · rw [if_neg l] at h
    exact absurd h hd
theorem y_car_inv {T : Nat} (hT : T + 12 < 2 ^ 31) (hT0 : 0 < T) {Y K : ch_B} {f : Nat → Int32} {n : Int32} (h : y_inv T Y) (hn : vp_in n 13) (hw : (r_w Y K f n).1 = 0) : y_inv (T + 12) (y_car Y K f n.toNatClampNeg).2 ∧ y_carP Y K n := by
  have h8 := y_i8 h
  have h9 := y_i9 h
  have hk := y_i8k h
  have mono : ∀ Z, y_inv T Z → y_inv (T + 12) Z := fun Z hz => y_inv_mono hT hz (by omega)
  obtain ⟨z, hz, ez⟩ := vp_in_of hn (by decide)
  have cz : n.toNatClampNeg ≤ 12 := by rw [ez, nI_clamp (by omega)]; omega
  have rww : (K 0 1 = 119) → (r_ww Y (K 0 2)).1 = 0 → vp_in (K 0 2) 5 ∧ vp_in (Y 0 9) 5 := fun _ hp => by
    unfold r_ww at hp
    obtain ⟨c1, hp⟩ := r_if (m_nz (by decide)) hp
    have hv := m_chv h8 c1
    obtain ⟨k, hk5, ek⟩ := vp_in_of hv (by decide)
    obtain ⟨w, hw⟩ := y_war h
    by_cases l2 : Y 5 (K 0 2).toNatClampNeg ≤ 0
    · refine ⟨hv, y_i9w h hk5 ?_⟩
      rw [ek, nI_clamp (by omega), (hw k hk5).2] at l2
      rw [(hw k hk5).2]
      have := (hw k hk5).1
      by_cases e : w k = 0
      · rw [e]; rfl
      · exact absurd l2 (nI_nle (by omega) (by omega))
    · rw [if_neg l2] at hp
      exfalso
      rw [ek, nI_clamp (by omega), (hw k hk5).2] at l2 hp
      have := (hw k hk5).1
      have e0 : nI (w k) = 0 ∨ ¬ nI (w k) = 0 := Classical.em _
      rcases e0 with e0 | e0
      · exact l2 (by rw [e0]; decide)
      · exact absurd (show (7 : Int32) = 0 from hp) (by decide)
  unfold r_w at hw
  unfold y_car y_carP
  by_cases k1 : K 0 1 = 110
  · rw [if_pos k1] at hw ⊢
    refine ⟨mono _ (y_inv_bri (by omega) hT0 h hw), fun _ => ?_, fun e => absurd (k1.symm.trans e) (by decide), fun e => absurd (k1.symm.trans e) (by decide), fun e => absurd (k1.symm.trans e) (by decide), fun e => absurd (k1.symm.trans e) (by decide), fun e => absurd (k1.symm.trans e) (by decide), fun e => absurd (k1.symm.trans e) (by decide), fun e => absurd k1 e⟩
    unfold r_wn at hw
    obtain ⟨-, hw⟩ := r_if (m_nz (by decide)) hw
    by_cases l : Y 0 8 < 5
    · obtain ⟨k, hk6, ek⟩ := vp_in_of h8 (by decide)
      rw [ek] at l ⊢
      exact vp_in_nI ((nI_ltI (b := 5) (by omega) (by decide)).mp l) (by decide)
    · rw [if_neg l] at hw
      exact absurd (show (2 : Int32) = 0 from hw) (by decide)
  · rw [if_neg k1] at hw ⊢
    by_cases k2 : K 0 1 = 99
    · rw [if_pos k2] at hw ⊢
      refine ⟨mono _ (y_inv_cha (by omega) h hw), fun e => absurd e k1, fun _ => ?_, fun e => absurd (k2.symm.trans e) (by decide), fun e => absurd (k2.symm.trans e) (by decide), fun e => absurd (k2.symm.trans e) (by decide), fun e => absurd (k2.symm.trans e) (by decide), fun e => absurd (k2.symm.trans e) (by decide), fun _ e => absurd k2 e⟩
      unfold r_wc at hw
      obtain ⟨c1, hw⟩ := r_if (m_nz (by decide)) hw
      obtain ⟨c2, -⟩ := r_if (m_nz (by decide)) hw
      exact ⟨m_chv h8 c1, ch_11 c2⟩
    · rw [if_neg k2] at hw ⊢
      by_cases k3 : K 0 1 = 104
      · rw [if_pos k3] at hw ⊢
        have hw' := hw
        unfold r_wh at hw
        obtain ⟨c1, -⟩ := r_if (m_nz (by decide)) hw
        exact ⟨y_inv_hop hT h c1 f cz, fun e => absurd e k1, fun e => absurd e k2, fun _ => ⟨m_chv h8 c1, hn, y_iow h⟩, fun e => absurd (k3.symm.trans e) (by decide), fun e => absurd (k3.symm.trans e) (by decide), fun e => absurd (k3.symm.trans e) (by decide), fun e => absurd (k3.symm.trans e) (by decide), fun _ _ e => absurd k3 e⟩
      · rw [if_neg k3] at hw ⊢
        by_cases k4 : K 0 1 = 119
        · rw [if_pos k4] at hw ⊢
          exact ⟨mono _ (y_inv_wri (by omega) h hw), fun e => absurd e k1, fun e => absurd e k2, fun e => absurd e k3, fun e => rww e hw, fun e => absurd (k4.symm.trans e) (by decide), fun e => absurd (k4.symm.trans e) (by decide), fun e => absurd (k4.symm.trans e) (by decide), fun _ _ _ e => absurd k4 e⟩
        · rw [if_neg k4] at hw ⊢
          by_cases k5 : K 0 1 = 115
          · rw [if_pos k5] at hw ⊢
            refine ⟨mono _ (y_inv_str (by omega) h hw), fun e => absurd e k1, fun e => absurd e k2, fun e => absurd e k3, fun e => absurd e k4, fun _ => ?_, fun e => absurd (k5.symm.trans e) (by decide), fun e => absurd (k5.symm.trans e) (by decide), fun _ _ _ _ e => absurd k5 e⟩
            unfold r_ws at hw
            obtain ⟨c1, -⟩ := r_if (m_nz (by decide)) hw
            exact ⟨m_chv h8 c1, h9, hk⟩
          · rw [if_neg k5] at hw ⊢
            by_cases k6 : K 0 1 = 114
            · rw [if_pos k6] at hw ⊢
              refine ⟨mono _ (y_inv_was (by omega) h ?_), fun e => absurd e k1, fun e => absurd e k2, fun e => absurd e k3, fun e => absurd e k4, fun e => absurd e k5, fun _ => ⟨h9, hk⟩, fun e => absurd (k6.symm.trans e) (by decide), fun _ _ _ _ _ e => absurd k6 e⟩
              unfold r_wr at hw
              exact (r_if (m_nz (by decide)) hw).1
            · rw [if_neg k6] at hw ⊢
              by_cases k7 : K 0 1 = 116
              · rw [if_pos k7] at hw ⊢
                exact ⟨mono _ (y_term_inv (by omega) h), fun e => absurd e k1, fun e => absurd e k2, fun e => absurd e k3, fun e => absurd e k4, fun e => absurd e k5, fun e => absurd e k6, fun _ => h8, fun _ _ _ _ _ _ e => absurd k7 e⟩
              · rw [if_neg k7] at hw ⊢
                refine ⟨mono _ (y_inv_giv (by omega) h hw), fun e => absurd e k1, fun e => absurd e k2, fun e => absurd e k3, fun e => absurd e k4, fun e => absurd e k5, fun e => absurd e k6, fun e => absurd e k7, fun _ _ _ _ _ _ _ => ?_⟩
                unfold r_wg at hw
                obtain ⟨c1, hw⟩ := r_if (m_nz (by decide)) hw
                obtain ⟨c2, -⟩ := r_if (m_nz (by decide)) hw
                exact ⟨m_chv h8 c1, m_chv h8 c2⟩
theorem y_inv_cg {T : Nat} {Y Z : ch_B} (h : y_inv T Y) (e0 : ∀ k, 8 ≤ k → k ≤ 11 → Z 0 k = Y 0 k) (e1 : ∀ a k, 1 ≤ a → a ≤ 2 → k < 12 → Z a k = Y a k) (e2 : ∀ a k, 3 ≤ a → a ≤ 8 → k < 5 → Z a k = Y a k) : y_inv T Z := by
  obtain ⟨s, hs, es⟩ := vp_in_of (y_i9 h) (by decide)
  have cs : (Y 0 9).toNatClampNeg = s := by rw [es, nI_clamp (by omega)]
  obtain ⟨⟨a1, a2, a3⟩, b, c, d, ⟨e, f⟩, g1, g2, g3, g4⟩ := h
  unfold y_inv y_tot at *
  rw [e0 8 (by omega) (by omega), e0 9 (by omega) (by omega), e0 10 (by omega) (by omega), e0 11 (by omega) (by omega), e2 3 0 (by omega) (by omega) (by omega), e2 3 1 (by omega) (by omega) (by omega), e2 3 2 (by omega) (by omega) (by omega), e2 3 3 (by omega) (by omega) (by omega), e2 3 4 (by omega) (by omega) (by omega)]
  rw [cs] at e f
  rw [cs]
  refine ⟨⟨a1, a2, fun k hk => by rw [e2 8 k (by omega) (by omega) hk]; exact a3 k hk⟩, fun q hq => ?_, fun x hx => ?_, fun x h1 h2 => ?_, ⟨fun x hx => ?_, fun i j h1 h2 => ?_⟩, g1, g2, g3, g4⟩
  · rw [e1 2 q (by omega) (by omega) hq, e1 1 q (by omega) (by omega) hq]
    exact b q hq
  · rw [e2 3 x (by omega) (by omega) hx, e2 4 x (by omega) (by omega) hx, e2 5 x (by omega) (by omega) hx]
    exact c x hx
  · rw [e2 3 x (by omega) (by omega) h2, e2 4 x (by omega) (by omega) h2, e2 5 x (by omega) (by omega) h2, e2 6 x (by omega) (by omega) h2, e2 7 x (by omega) (by omega) h2]
    exact d x h1 h2
  · rw [e2 5 x (by omega) (by omega) hx, e x hx]
    exact ⟨fun ⟨k, h1, h2⟩ => ⟨k, h1, by rw [e2 8 k (by omega) (by omega) (by omega)]; exact h2⟩, fun ⟨k, h1, h2⟩ => ⟨k, h1, by rw [e2 8 k (by omega) (by omega) (by omega)] at h2; exact h2⟩⟩
  · rw [e2 8 i (by omega) (by omega) (by omega), e2 8 j (by omega) (by omega) (by omega)]
    exact f i j h1 h2
theorem y_inv_cp {T : Nat} {Y : ch_B} (Z : ch_B) (h : y_inv T Y) : y_inv T (y_cp Y Z) :=
  y_inv_cg h (fun k h1 h2 => if_pos (by omega)) (fun a k h1 h2 h3 => if_pos (by omega)) (fun a k h1 h2 h3 => if_pos (by omega))
def w_e (Y : ch_B) (c : Int32) (k : Nat) : Nat := if ch_lineB Y c (nI k - 1) = true then 1 else 0
theorem w_e_le (Y : ch_B) (c : Int32) (k : Nat) : w_e Y c k ≤ 1 := by unfold w_e; split <;> omega
theorem w_l_n (Y : ch_B) (c : Int32) (k : Nat) : w_l Y c (nI k) = nI (w_e Y c k) := by
  unfold w_l w_e
  split <;> rfl
/-- candidates: treads and count of a way on by t -/
def w_sp (e A C S : Nat → Nat) : Prop :=
  (∀ k, 12 ≤ k → A k = 0 ∧ C k = 0) ∧
  ∀ k, k < 12 → (1 ≤ S k ∧ S k ≤ 3) ∧ A k ≤ 12 - k ∧ C k ≤ 12 - k ∧ A k = e (k + S k) + A (k + S k) ∧ C k = C (k + S k) + 1 ∧
    ∀ t, 1 ≤ t → t ≤ 3 → (A k < e (k + t) + A (k + t) ∨ (A k = e (k + t) + A (k + t) ∧ C k ≤ C (k + t) + 1)) ∧ (S k < t → ¬ (A k = e (k + t) + A (k + t) ∧ C k = C (k + t) + 1))
def w_st (B B' : ch_B) (s x y z : Nat) : Prop := B' 1 s = nI x ∧ B' 2 s = nI y ∧ B' 3 s = nI z ∧ ∀ a i, ¬ (i = s ∧ 1 ≤ a ∧ a ≤ 3) → B' a i = B a i
theorem w_t1_v {B B' : ch_B} {l : Int32 → Int32} {s t x y z a c e : Nat} (ht : 1 ≤ t) (h1 : B 1 (s + t) = nI a) (h2 : B 2 (s + t) = nI c) (h3 : l (nI (s + t)) = nI e) (ha : a < 100) (hc : c < 100) (he : e < 100) (hx : x < 1000) (hy : y < 1000) (hz1 : 1 ≤ z) (hz : z < 10) (h : w_st B B' s x y z) :
    (a + e < x ∨ (a + e = x ∧ c + 1 < y) → w_st B (w_t1 B' l s t) s (a + e) (c + 1) t) ∧ (¬ (a + e < x ∨ (a + e = x ∧ c + 1 < y)) → w_st B (w_t1 B' l s t) s x y z) := by
  obtain ⟨g1, g2, g3, g4⟩ := h
  have n1 : B' 1 (s + t) = nI a := (g4 1 (s + t) (by omega)).trans h1
  have n2 : B' 2 (s + t) = nI c := (g4 2 (s + t) (by omega)).trans h2
  have ec : (B' 3 s = 0 ∨ B' 1 (s + t) + l (nI (s + t)) < B' 1 s ∨ (B' 1 (s + t) + l (nI (s + t)) = B' 1 s ∧ B' 2 (s + t) + 1 < B' 2 s)) ↔ (a + e < x ∨ (a + e = x ∧ c + 1 < y)) := by
    rw [n1, n2, g1, g2, g3, h3, nI_add, nI_1, nI_ltI (by omega) (by omega), nI_eq (by omega) (by omega), nI_ltI (by omega) (by omega), nI_0i (by omega)]
    omega
  unfold w_t1 w_ty
  refine ⟨fun hh => ?_, fun hh => ?_⟩
  · rw [if_pos (ec.mpr hh), n1, n2, h3, nI_add, nI_1]
    refine ⟨?_, ?_, ch_bw_at _ _ _ _, fun b i hb => ?_⟩
    · rw [ch_bw_c (by decide), ch_bw_c (by decide), ch_bw_at]
    · rw [ch_bw_c (by decide), ch_bw_at]
    · rw [← g4 b i hb]
      unfold ch_bw
      rw [if_neg (by omega), if_neg (by omega), if_neg (by omega)]
  · rw [if_neg (fun q => hh (ec.mp q))]
    exact ⟨g1, g2, g3, g4⟩
theorem w_s1_v {B : ch_B} {l : Int32 → Int32} {s : Nat} {a c e : Nat → Nat} (h : ∀ t, 1 ≤ t → t ≤ 3 → B 1 (s + t) = nI (a (s + t)) ∧ B 2 (s + t) = nI (c (s + t)) ∧ l (nI (s + t)) = nI (e (s + t)) ∧ a (s + t) < 50 ∧ c (s + t) < 50 ∧ e (s + t) ≤ 1) :
    ∃ A C S, w_st B (w_s1 B l s) s A C S ∧ (1 ≤ S ∧ S ≤ 3) ∧ A = e (s + S) + a (s + S) ∧ C = c (s + S) + 1 ∧ ∀ t, 1 ≤ t → t ≤ 3 → (A < e (s + t) + a (s + t) ∨ (A = e (s + t) + a (s + t) ∧ C ≤ c (s + t) + 1)) ∧ (S < t → ¬ (A = e (s + t) + a (s + t) ∧ C = c (s + t) + 1)) := by
  obtain ⟨p1, p2, p3, p4, p5, p6⟩ := h 1 (by omega) (by omega)
  obtain ⟨q1, q2, q3, q4, q5, q6⟩ := h 2 (by omega) (by omega)
  obtain ⟨r1, r2, r3, r4, r5, r6⟩ := h 3 (by omega) (by omega)
  have s3 : w_st B (w_t1 (ch_bw B 3 s 0) l s 3) s (a (s + 3) + e (s + 3)) (c (s + 3) + 1) 3 := by
    have n1 : ch_bw B 3 s 0 1 (s + 3) = nI (a (s + 3)) := (ch_bw_c (by decide)).trans r1
    have n2 : ch_bw B 3 s 0 2 (s + 3) = nI (c (s + 3)) := (ch_bw_c (by decide)).trans r2
    unfold w_t1 w_ty
    rw [if_pos (Or.inl (ch_bw_at _ _ _ _)), n1, n2, r3, nI_add, nI_1]
    refine ⟨?_, ?_, ch_bw_at _ _ _ _, fun b i hb => ?_⟩
    · rw [ch_bw_c (by decide), ch_bw_c (by decide), ch_bw_at]
    · rw [ch_bw_c (by decide), ch_bw_at]
    · unfold ch_bw
      rw [if_neg (by omega), if_neg (by omega), if_neg (by omega), if_neg (by omega)]
  have t123 : ∀ P : Nat → Prop, P 1 → P 2 → P 3 → ∀ t, 1 ≤ t → t ≤ 3 → P t := fun P h1 h2 h3 t ha hb => by
    obtain rfl | rfl | rfl : t = 1 ∨ t = 2 ∨ t = 3 := by omega
    · exact h1
    · exact h2
    · exact h3
  obtain ⟨u1, u2⟩ := w_t1_v (t := 2) (by omega) q1 q2 q3 (by omega) (by omega) (by omega) (by omega) (by omega) (by omega) (by omega) s3
  unfold w_s1
  by_cases d2 : a (s + 2) + e (s + 2) < a (s + 3) + e (s + 3) ∨ (a (s + 2) + e (s + 2) = a (s + 3) + e (s + 3) ∧ c (s + 2) + 1 < c (s + 3) + 1)
  · obtain ⟨v1, v2⟩ := w_t1_v (t := 1) (by omega) p1 p2 p3 (by omega) (by omega) (by omega) (by omega) (by omega) (by omega) (by omega) (u1 d2)
    by_cases d1 : a (s + 1) + e (s + 1) < a (s + 2) + e (s + 2) ∨ (a (s + 1) + e (s + 1) = a (s + 2) + e (s + 2) ∧ c (s + 1) + 1 < c (s + 2) + 1)
    · exact ⟨_, _, _, v1 d1, by omega, by omega, by omega, t123 _ (by omega) (by omega) (by omega)⟩
    · exact ⟨_, _, _, v2 d1, by omega, by omega, by omega, t123 _ (by omega) (by omega) (by omega)⟩
  · obtain ⟨v1, v2⟩ := w_t1_v (t := 1) (by omega) p1 p2 p3 (by omega) (by omega) (by omega) (by omega) (by omega) (by omega) (by omega) (u2 d2)
    by_cases d1 : a (s + 1) + e (s + 1) < a (s + 3) + e (s + 3) ∨ (a (s + 1) + e (s + 1) = a (s + 3) + e (s + 3) ∧ c (s + 1) + 1 < c (s + 3) + 1)
    · exact ⟨_, _, _, v1 d1, by omega, by omega, by omega, t123 _ (by omega) (by omega) (by omega)⟩
    · exact ⟨_, _, _, v2 d1, by omega, by omega, by omega, t123 _ (by omega) (by omega) (by omega)⟩
/-- the tables of the class from stop 12 - n on -/
def w_ok (e : Nat → Nat) (W : ch_B) (A C S : Nat → Nat) (n : Nat) : Prop :=
  (∀ k, 12 ≤ k → A k = 0 ∧ C k = 0) ∧ (∀ k, 12 - n ≤ k → k < 15 → W 1 k = nI (A k) ∧ W 2 k = nI (C k) ∧ A k ≤ 12 - k ∧ C k ≤ 12 - k) ∧
  ∀ k, 12 - n ≤ k → k < 12 → W 3 k = nI (S k) ∧ (1 ≤ S k ∧ S k ≤ 3) ∧ A k = e (k + S k) + A (k + S k) ∧ C k = C (k + S k) + 1 ∧
    ∀ t, 1 ≤ t → t ≤ 3 → (A k < e (k + t) + A (k + t) ∨ (A k = e (k + t) + A (k + t) ∧ C k ≤ C (k + t) + 1)) ∧ (S k < t → ¬ (A k = e (k + t) + A (k + t) ∧ C k = C (k + t) + 1))
theorem w_fl_ok (B : ch_B) {l : Int32 → Int32} {e : Nat → Nat} (he : ∀ k, e k ≤ 1 ∧ l (nI k) = nI (e k)) (n : Nat) : n ≤ 12 → ∃ A C S, w_ok e (w_fl B l n) A C S n := by
  induction n with
  | zero =>
    intro _
    refine ⟨fun _ => 0, fun _ => 0, fun _ => 0, fun k _ => ⟨rfl, rfl⟩, fun k h1 h2 => ⟨?_, ?_, Nat.zero_le _, Nat.zero_le _⟩, fun k h1 h2 => absurd h2 (by omega)⟩
    · show w_z B 3 1 k = 0
      unfold w_z w_z w_z w_z ch_bw
      obtain rfl | rfl | rfl : k = 12 ∨ k = 13 ∨ k = 14 := by omega
      all_goals simp
    · show w_z B 3 2 k = 0
      unfold w_z w_z w_z w_z ch_bw
      obtain rfl | rfl | rfl : k = 12 ∨ k = 13 ∨ k = 14 := by omega
      all_goals simp
  | succ n ih =>
    intro hn
    obtain ⟨A, C, S, h0, h1, h2⟩ := ih (by omega)
    obtain ⟨s, es⟩ : ∃ s, s = 11 - n := ⟨_, rfl⟩
    obtain ⟨a', c', s', st, k1, k2, k3, k4⟩ := w_s1_v (B := w_fl B l n) (l := l) (s := s) (a := A) (c := C) (e := e) (fun t ht1 ht2 => by
      obtain ⟨g1, g2, g3, g4⟩ := h1 (s + t) (by omega) (by omega)
      exact ⟨g1, g2, (he (s + t)).2, by omega, by omega, (he (s + t)).1⟩)
    have up : ∀ (f : Nat → Nat) v k, s < k → f_up f s v k = f k := fun f v k hk => f_up_ne (by omega)
    obtain ⟨x1, x2, x3, x4⟩ := st
    have b1 := h1 (s + 1) (by omega) (by omega)
    have e1 := (he (s + 1)).1
    have bA : a' ≤ 12 - s := by
      have := (k4 1 (by omega) (by omega)).1
      omega
    have bC : c' ≤ 12 - s := by
      have := h1 (s + s') (by omega) (by omega)
      omega
    refine ⟨f_up A s a', f_up C s c', f_up S s s', fun k hk => ?_, fun k hk1 hk2 => ?_, fun k hk1 hk2 => ?_⟩
    · rw [up _ _ _ (by omega), up _ _ _ (by omega)]
      exact h0 k hk
    · show w_s1 (w_fl B l n) l (11 - n) 1 k = _ ∧ w_s1 (w_fl B l n) l (11 - n) 2 k = _ ∧ _
      rw [← es]
      by_cases ek : k = s
      · subst ek
        rw [f_up_at, f_up_at]
        exact ⟨x1, x2, bA, bC⟩
      · rw [f_up_ne ek, f_up_ne ek, x4 1 k (by omega), x4 2 k (by omega)]
        exact h1 k (by omega) hk2
    · show w_s1 (w_fl B l n) l (11 - n) 3 k = _ ∧ _
      rw [← es]
      by_cases ek : k = s
      · subst ek
        rw [f_up_at, f_up_at, f_up_at, up _ _ _ (by omega), up _ _ _ (by omega)]
        refine ⟨x3, k1, k2, k3, fun t ht1 ht2 => ?_⟩
        rw [up _ _ _ (by omega), up _ _ _ (by omega)]
        exact k4 t ht1 ht2
      · obtain ⟨m1, m2, m3, m4, m5⟩ := h2 k (by omega) hk2
        rw [f_up_ne ek, f_up_ne ek, f_up_ne ek, x4 3 k (by omega), up _ _ _ (by omega), up _ _ _ (by omega)]
        refine ⟨m1, m2, m3, m4, fun t ht1 ht2 => ?_⟩
        rw [up _ _ _ (by omega), up _ _ _ (by omega)]
        exact m5 t ht1 ht2
theorem w_fl_sp (B Y : ch_B) (c : Int32) : ∃ A C S, w_sp (w_e Y c) A C S ∧ (∀ k, k < 15 → w_fl B (w_l Y c) 12 1 k = nI (A k) ∧ w_fl B (w_l Y c) 12 2 k = nI (C k)) ∧ ∀ k, k < 12 → w_fl B (w_l Y c) 12 3 k = nI (S k) := by
  obtain ⟨A, C, S, h0, h1, h2⟩ := w_fl_ok B (l := w_l Y c) (e := w_e Y c) (fun k => ⟨w_e_le Y c k, w_l_n Y c k⟩) 12 (by omega)
  refine ⟨A, C, S, ⟨h0, fun k hk => ?_⟩, fun k hk => ?_, fun k hk => (h2 k (by omega) hk).1⟩
  · obtain ⟨-, m2, m3, m4, m5⟩ := h2 k (by omega) hk
    obtain ⟨-, -, b1, b2⟩ := h1 k (by omega) (by omega)
    exact ⟨m2, b1, b2, m3, m4, m5⟩
  · obtain ⟨g1, g2, -, -⟩ := h1 k (by omega) hk
    exact ⟨g1, g2⟩
/-- two tellings have the same numbers -/
theorem w_sp_un {e A C S A' C' S' : Nat → Nat} (h : w_sp e A C S) (h' : w_sp e A' C' S') (n : Nat) : ∀ k, 12 - n ≤ k → A k = A' k ∧ C k = C' k ∧ (k < 12 → S k = S' k) := by
  induction n with
  | zero =>
    intro k hk
    obtain ⟨a, b⟩ := h.1 k (by omega)
    obtain ⟨a', b'⟩ := h'.1 k (by omega)
    exact ⟨by omega, by omega, fun z => absurd z (by omega)⟩
  | succ n ih =>
    intro k hk
    by_cases l : 12 - n ≤ k
    · exact ih k l
    · have hk12 : k < 12 := by omega
      obtain ⟨⟨s1, s2⟩, -, -, e1, e2, f⟩ := h.2 k hk12
      obtain ⟨⟨s1', s2'⟩, -, -, e1', e2', f'⟩ := h'.2 k hk12
      obtain ⟨i1, i2, -⟩ := ih (k + S k) (by omega)
      obtain ⟨j1, j2, -⟩ := ih (k + S' k) (by omega)
      have g := f (S' k) s1' s2'
      have g' := f' (S k) s1 s2
      have q := (f' (S k) s1 s2).2
      have q2 := (f (S' k) s1' s2').2
      have hA : A k = A' k ∧ C k = C' k := by omega
      refine ⟨hA.1, hA.2, fun _ => ?_⟩
      by_cases l1 : S k < S' k
      · exact absurd ⟨by omega, by omega⟩ (q2 l1)
      · by_cases l2 : S' k < S k
        · exact absurd ⟨by omega, by omega⟩ (q l2)
        · omega
def w_gv (B : ch_B) (l : Int32 → Int32) (k : Nat) : Int32 := (w_fo B l k).1 1 k
theorem w_fo_keep (B : ch_B) (l : Int32 → Int32) (n : Nat) : ∀ k, k ≤ n → (w_fo B l n).1 1 k = w_gv B l k := by
  induction n with
  | zero => intro k hk; rw [show k = 0 by omega]; rfl
  | succ n ih =>
    intro k hk
    by_cases e : k = n + 1
    · rw [e]; rfl
    · rw [w_fo]
      dsimp only
      rw [ch_bw_k e]
      exact ih k (by omega)
/-- the least of some cells -/
theorem w_lm_n {B : ch_B} {G : Nat → Nat} {a : Nat} (n : Nat) (h : ∀ i, i < n → B 1 (a + i) = nI (G (a + i)) ∧ G (a + i) < 100) : ∃ v, v ≤ 12 ∧ w_lm B a n = nI v ∧ (∀ i, i < n → v ≤ G (a + i)) ∧ (v = 12 ∨ ∃ i, i < n ∧ v = G (a + i)) := by
  induction n with
  | zero => exact ⟨12, Nat.le_refl _, rfl, fun i hi => absurd hi (by omega), Or.inl rfl⟩
  | succ n ih =>
    obtain ⟨v, h1, h2, h3, h4⟩ := ih (fun i hi => h i (by omega))
    obtain ⟨g1, g2⟩ := h n (by omega)
    rw [w_lm, g1, h2]
    by_cases l : G (a + n) < v
    · rw [if_pos (nI_lt l (by omega))]
      refine ⟨_, by omega, rfl, fun i hi => ?_, Or.inr ⟨n, by omega, rfl⟩⟩
      by_cases e : i = n
      · rw [e]; omega
      · have := h3 i (by omega)
        omega
    · rw [if_neg (nI_nlt (by omega) (by omega))]
      refine ⟨v, h1, rfl, fun i hi => ?_, ?_⟩
      · by_cases e : i = n
        · rw [e]; omega
        · exact h3 i (by omega)
      · rcases h4 with h4 | ⟨i, hi, e⟩
        · exact Or.inl h4
        · exact Or.inr ⟨i, by omega, e⟩
theorem w_fo_G (B : ch_B) {l : Int32 → Int32} {e : Nat → Nat} (he : ∀ k, e k ≤ 1 ∧ l (nI k) = nI (e k)) (n : Nat) : n ≤ 14 → ∃ G : Nat → Nat, G 0 = 0 ∧ (∀ k, k ≤ n → w_gv B l k = nI (G k)) ∧ ∀ k, k < n → G (k + 1) ≤ k + 1 ∧ (∀ f, f < 12 → f ≤ k → k + 1 ≤ f + 3 → G (k + 1) ≤ G f + e (k + 1)) ∧ ∃ f, f < 12 ∧ f ≤ k ∧ k + 1 ≤ f + 3 ∧ G (k + 1) = G f + e (k + 1) := by
  induction n with
  | zero =>
    intro _
    refine ⟨fun _ => 0, rfl, fun k hk => ?_, fun k hk => absurd hk (by omega)⟩
    rw [show k = 0 by omega]
    show ch_bw B 1 0 0 1 0 = _
    rw [ch_bw_at]
    rfl
  | succ n ih =>
    intro hn
    obtain ⟨G, g0, g1, g2⟩ := ih (by omega)
    have gle : ∀ k, k ≤ n → G k ≤ k := fun k hk => by
      cases k with
      | zero => omega
      | succ k => exact (g2 k (by omega)).1
    have hnb : n + 1 - 3 + w_nb (n + 1) ≤ n + 1 ∧ n + 1 - 3 + w_nb (n + 1) ≤ 12 ∧ (∀ f, f < 12 → f ≤ n → n + 1 ≤ f + 3 → f < n + 1 - 3 + w_nb (n + 1)) ∧ 0 < w_nb (n + 1) := by
      unfold w_nb
      split <;> refine ⟨by omega, by omega, fun f h1 h2 h3 => by omega, by omega⟩
    obtain ⟨n1, n2, n3, n4⟩ := hnb
    obtain ⟨v, v1, v2, v3, v4⟩ := w_lm_n (B := (w_fo B l n).1) (G := G) (a := n + 1 - 3) (w_nb (n + 1)) (fun i hi => by
      refine ⟨(w_fo_keep B l n _ (by omega)).trans (g1 _ (by omega)), ?_⟩
      have := gle (n + 1 - 3 + i) (by omega)
      omega)
    have hv : w_gv B l (n + 1) = nI (v + e (n + 1)) := by
      show (w_fo B l (n + 1)).1 1 (n + 1) = _
      rw [w_fo]
      dsimp only
      rw [ch_bw_at, v2, (he (n + 1)).2, nI_add]
    have b0 := v3 0 n4
    have bg := gle (n + 1 - 3 + 0) (by omega)
    have v4' : ∃ i, i < w_nb (n + 1) ∧ v = G (n + 1 - 3 + i) := by
      rcases v4 with v4 | v4
      · exact ⟨0, n4, by omega⟩
      · exact v4
    have e1 := (he (n + 1)).1
    have bl := v3 (w_nb (n + 1) - 1) (by omega)
    have up : ∀ k, k ≤ n → f_up G (n + 1) (v + e (n + 1)) k = G k := fun k hk => f_up_ne (by omega)
    refine ⟨f_up G (n + 1) (v + e (n + 1)), (up 0 (by omega)).trans g0, fun k hk => ?_, fun k hk => ?_⟩
    · by_cases ek : k = n + 1
      · rw [ek, f_up_at]
        exact hv
      · rw [f_up_ne ek]
        exact g1 k (by omega)
    · by_cases ek : k = n
      · subst ek
        rw [f_up_at]
        refine ⟨by omega, fun f h1 h2 h3 => ?_, ?_⟩
        · rw [up f h2]
          have := v3 (f - (k + 1 - 3)) (by have := n3 f h1 h2 h3; omega)
          rw [show k + 1 - 3 + (f - (k + 1 - 3)) = f by omega] at this
          omega
        · obtain ⟨i, hi, ei⟩ := v4'
          refine ⟨k + 1 - 3 + i, by omega, by omega, by omega, ?_⟩
          rw [up _ (by omega), ei]
      · obtain ⟨m1, m2, f, m3, m4, m5, m6⟩ := g2 k (by omega)
        rw [up (k + 1) (by omega)]
        refine ⟨m1, fun f' h1 h2 h3 => ?_, f, m3, m4, m5, ?_⟩
        · rw [up f' (by omega)]
          exact m2 f' h1 h2 h3
        · rw [up f (by omega)]
          exact m6
theorem w_fo_min (B : ch_B) {l : Int32 → Int32} {G : Nat → Nat} (h : ∀ k, k ≤ 14 → w_gv B l k = nI (G k)) (h12 : ∀ k, k ≤ 14 → G k < 100) (n : Nat) : n ≤ 14 → ∃ v, v ≤ 12 ∧ (w_fo B l n).2 = nI v ∧ (∀ k, 12 ≤ k → k ≤ n → v ≤ G k) ∧ (v = 12 ∨ ∃ k, 12 ≤ k ∧ k ≤ n ∧ v = G k) := by
  induction n with
  | zero => exact fun _ => ⟨12, Nat.le_refl _, rfl, fun k h1 h2 => absurd h2 (by omega), Or.inl rfl⟩
  | succ n ih =>
    intro hn
    obtain ⟨v, h1, h2, h3, h4⟩ := ih (by omega)
    have hg : w_lm (w_fo B l n).1 (n + 1 - 3) (w_nb (n + 1)) + l (nI (n + 1)) = nI (G (n + 1)) := by
      rw [← h (n + 1) hn]
      show _ = (w_fo B l (n + 1)).1 1 (n + 1)
      rw [w_fo]
      dsimp only
      rw [ch_bw_at]
    have hb := h12 (n + 1) hn
    rw [w_fo]
    dsimp only
    rw [hg]
    by_cases l12 : n + 1 < 12
    · rw [if_pos l12]
      refine ⟨v, h1, h2, fun k a b => absurd b (by omega), ?_⟩
      rcases h4 with h4 | ⟨k, a, b, c⟩
      · exact Or.inl h4
      · omega
    · rw [if_neg l12, h2]
      by_cases lg : G (n + 1) < v
      · rw [if_pos (nI_lt lg (by omega))]
        refine ⟨_, by omega, rfl, fun k a b => ?_, Or.inr ⟨n + 1, by omega, by omega, rfl⟩⟩
        by_cases e : k = n + 1
        · rw [e]; omega
        · have := h3 k a (by omega)
          omega
      · rw [if_neg (nI_nlt (by omega) (by omega))]
        refine ⟨v, h1, rfl, fun k a b => ?_, ?_⟩
        · by_cases e : k = n + 1
          · rw [e]; omega
          · exact h3 k a (by omega)
        · rcases h4 with h4 | ⟨k, a, b, c⟩
          · exact Or.inl h4
          · exact Or.inr ⟨k, a, by omega, c⟩
theorem w_fo_sp (B Y : ch_B) (c : Int32) {A C S : Nat → Nat} (h : w_sp (w_e Y c) A C S) : (w_fo B (w_l Y c) 14).2 = nI (A 0) := by
  obtain ⟨G, g0, g1, g2⟩ := w_fo_G B (l := w_l Y c) (e := w_e Y c) (fun k => ⟨w_e_le Y c k, w_l_n Y c k⟩) 14 (by omega)
  obtain ⟨h0, h1⟩ := h
  have gle : ∀ k, k ≤ 14 → G k ≤ k := fun k hk => by
    cases k with
    | zero => omega
    | succ k => exact (g2 k (by omega)).1
  obtain ⟨v, v1, v2, v3, v4⟩ := w_fo_min B g1 (fun k hk => by have := gle k hk; omega) 14 (by omega)
  have lo : ∀ n k, k ≤ n → k ≤ 14 → A 0 ≤ G k + A k := by
    intro n
    induction n with
    | zero => intro k hk _; rw [show k = 0 by omega, g0]; omega
    | succ n ih =>
      intro k hk h14
      cases k with
      | zero => rw [g0]; omega
      | succ k =>
        obtain ⟨-, -, f, f1, f2, f3, f4⟩ := g2 k (by omega)
        have i1 := ih f (by omega) (by omega)
        have a1 := ((h1 f f1).2.2.2.2.2 (k + 1 - f) (by omega) (by omega)).1
        rw [show f + (k + 1 - f) = k + 1 by omega] at a1
        omega
  have hi : ∀ n k, k + n ≥ 12 → k ≤ 14 → G k + A k ≤ A 0 → ∃ j, 12 ≤ j ∧ j ≤ 14 ∧ G j ≤ A 0 := by
    intro n
    induction n with
    | zero => exact fun k h2 h3 h4 => ⟨k, by omega, h3, by omega⟩
    | succ n ih =>
      intro k h2 h3 h4
      by_cases l : 12 ≤ k
      · exact ⟨k, l, h3, by omega⟩
      · obtain ⟨⟨s1, s2⟩, -, -, e1, -, -⟩ := h1 k (by omega)
        have b := (g2 (k + S k - 1) (by omega)).2.1 k (by omega) (by omega) (by omega)
        rw [show k + S k - 1 + 1 = k + S k by omega] at b
        exact ih (k + S k) (by omega) (by omega) (by omega)
  obtain ⟨j, j1, j2, j3⟩ := hi 12 0 (by omega) (by omega) (by omega)
  have b := v3 j j1 j2
  have b0 := (h1 0 (by omega)).2.1
  have : v = A 0 := by
    rcases v4 with v4 | ⟨k, k1, k2, k3⟩
    · have := lo 14 j j2 j2
      have z := (h0 j j1).1
      omega
    · have := lo 14 k k2 k2
      have z := (h0 k k1).1
      omega
  rw [v2, this]
/-- how many steps stand from p on, at most so many -/
def d_ns (T : ch_B) : Nat → Nat → Nat
  | _, 0 => 0
  | p, n + 1 => if 1 ≤ d_dg T (nI p) ∧ d_dg T (nI p) ≤ 3 then d_ns T (p + 1) n + 1 else 0
theorem d_ns_le (T : ch_B) (n : Nat) : ∀ p, d_ns T p n ≤ n := by
  induction n with
  | zero => exact fun p => Nat.le_refl _
  | succ n ih =>
    intro p
    rw [d_ns]
    split
    · have := ih (p + 1)
      omega
    · omega
theorem ch_os_cm {m : ch_M} {a j b i : Nat} {B C : ch_B} (h : ¬ (a = b ∧ j = i)) : ch_os (ch_os m a j B) b i C = ch_os (ch_os m b i C) a j B := by
  funext x k
  unfold ch_os
  by_cases h1 : x.1 = b ∧ x.2.1 = i
  · rw [if_pos h1, if_pos h1, if_neg (fun z => h ⟨z.1.symm.trans h1.1, z.2.symm.trans h1.2⟩)]
  · rw [if_neg h1, if_neg h1]
theorem ch_ob_ne {m : ch_M} {a j b i : Nat} {B : ch_B} (h : ¬ (b = a ∧ i = j)) : ch_ob (ch_os m a j B) b i = ch_ob m b i := by
  funext c k
  unfold ch_ob
  rw [ch_os_ne (fun z => h z)]
theorem ch_bw_bw (B : ch_B) (a k : Nat) (x y : Int32) : ch_bw (ch_bw B a k x) a k y = ch_bw B a k y := by
  funext c i
  unfold ch_bw
  by_cases h : c = a ∧ i = k
  · rw [if_pos h, if_pos h]
  · rw [if_neg h, if_neg h, if_neg h]
def d_mk (M : ch_M) (K S : ch_B) (p : Nat) : ch_M := ch_os (ch_os (ch_os M 4 0 K) 5 0 S) 7 0 (ch_bw (ch_ob M 7 0) 0 0 (nI p))
theorem d_mk_ob {M : ch_M} {K S : ch_B} {p a j : Nat} (h4 : ¬ (a = 4 ∧ j = 0)) (h5 : ¬ (a = 5 ∧ j = 0)) (h7 : ¬ (a = 7 ∧ j = 0)) : ch_ob (d_mk M K S p) a j = ch_ob M a j := by
  unfold d_mk
  rw [ch_ob_ne h7, ch_ob_ne h5, ch_ob_ne h4]
theorem d_mk_p (M : ch_M) (K S : ch_B) (p : Nat) : d_mk M K S p (7, 0, 0) 0 = nI p := by
  unfold d_mk
  rw [ch_os_at, ch_bw_at]
theorem d_mk_7 (M : ch_M) (K S : ch_B) (p : Nat) : ch_ob (d_mk M K S p) 7 0 = ch_bw (ch_ob M 7 0) 0 0 (nI p) := by
  unfold d_mk
  rw [ch_ob_os]
theorem d_mk_4 (M : ch_M) (K S : ch_B) (p : Nat) : ch_ob (d_mk M K S p) 4 0 = K := by
  unfold d_mk
  rw [ch_ob_ne (by omega), ch_ob_ne (by omega), ch_ob_os]
theorem d_mk_5 (M : ch_M) (K S : ch_B) (p : Nat) : ch_ob (d_mk M K S p) 5 0 = S := by
  unfold d_mk
  rw [ch_ob_ne (by omega), ch_ob_os]
theorem d_mk_w4 (M : ch_M) (K S K' : ch_B) (p : Nat) : ch_os (d_mk M K S p) 4 0 K' = d_mk M K' S p := by
  unfold d_mk
  rw [ch_os_cm (a := 7) (by omega), ch_os_cm (a := 5) (by omega), ch_os_os]
theorem d_mk_w5 (M : ch_M) (K S S' : ch_B) (p : Nat) : ch_os (d_mk M K S p) 5 0 S' = d_mk M K S' p := by
  unfold d_mk
  rw [ch_os_cm (a := 7) (by omega), ch_os_os]
theorem d_mk_nx (M : ch_M) (K S : ch_B) (p : Nat) : d_nx (d_mk M K S p) = d_mk M K S (p + 1) := by
  unfold d_nx
  rw [d_mk_7, d_mk_p, ch_bw_bw, nI_1]
  unfold d_mk
  rw [ch_os_os]
theorem d_mk_6 (M : ch_M) (K S : ch_B) (p : Nat) : ch_ob (d_mk M K S p) 6 0 = ch_ob M 6 0 := d_mk_ob (by omega) (by omega) (by omega)
theorem d_ts_mk (M : ch_M) (K S : ch_B) (p : Nat) (c : Int32) : d_ts (d_mk M K S p) 0 c = if d_sg (ch_ob M 6 0) (nI p) = c then (true, d_mk M K S (p + 1)) else (false, d_mk M K S p) := by
  unfold d_ts
  rw [d_mk_6, d_mk_p, d_mk_nx]
theorem d_pd_mk (M : ch_M) (K S : ch_B) (p : Nat) : d_pd (d_mk M K S p) 0 = if 0 ≤ d_dg (ch_ob M 6 0) (nI p) then (true, d_mk M K S (p + 1)) else (false, d_mk M K S p) := by
  unfold d_pd
  rw [d_mk_6, d_mk_p, d_mk_nx]
theorem d_tk_mk (f : Nat) (M : ch_M) (K S : ch_B) (p : Nat) : d_tk f (d_mk M K S p) 0 = if 0 ≤ d_dg (ch_ob M 6 0) (nI p) then (true, d_mk M (ch_bw K 0 f (d_dg (ch_ob M 6 0) (nI p))) S (p + 1)) else (false, d_mk M (ch_bw K 0 f (d_dg (ch_ob M 6 0) (nI p))) S p) := by
  unfold d_tk
  rw [d_mk_6, d_mk_p, d_mk_4, d_mk_w4, d_pd_mk]
def d_n2 (T : ch_B) (p : Nat) : Int32 := if 0 ≤ d_dg T (nI (p + 1)) then d_dg T (nI p) * 10 + d_dg T (nI (p + 1)) else d_dg T (nI p)
def d_e2 (T : ch_B) (p : Nat) : Nat := if 0 ≤ d_dg T (nI (p + 1)) then p + 2 else p + 1
theorem d_tn_mk (M : ch_M) (K S : ch_B) (p : Nat) : d_tn (d_mk M K S p) 0 = if 0 ≤ d_dg (ch_ob M 6 0) (nI p) then (true, d_mk M (ch_bw K 0 4 (d_n2 (ch_ob M 6 0) p)) S (d_e2 (ch_ob M 6 0) p)) else (false, d_mk M (ch_bw K 0 4 (d_dg (ch_ob M 6 0) (nI p))) S p) := by
  unfold d_tn d_n2 d_e2
  rw [d_tk_mk]
  by_cases h : 0 ≤ d_dg (ch_ob M 6 0) (nI p)
  · rw [if_pos h, if_pos h, if_pos rfl]
    dsimp only
    rw [d_pd_mk, d_mk_6, d_mk_p]
    by_cases h2 : 0 ≤ d_dg (ch_ob M 6 0) (nI (p + 1))
    · rw [if_pos h2, if_pos rfl, if_pos h2, if_pos h2, d_mk_4, d_mk_w4]
      have e : d_mk M (ch_bw K 0 4 (d_dg (ch_ob M 6 0) (nI p))) S (p + 1 + 1) (4, 0, 0) 4 = d_dg (ch_ob M 6 0) (nI p) := by
        have : d_mk M (ch_bw K 0 4 (d_dg (ch_ob M 6 0) (nI p))) S (p + 1 + 1) (4, 0, 0) 4 = ch_ob (d_mk M (ch_bw K 0 4 (d_dg (ch_ob M 6 0) (nI p))) S (p + 1 + 1)) 4 0 0 4 := rfl
        rw [this, d_mk_4, ch_bw_at]
      dsimp only
      rw [e, ch_bw_bw]
    · rw [if_neg h2, if_neg Bool.false_ne_true, if_neg h2, if_neg h2]
  · rw [if_neg h, if_neg h, if_neg Bool.false_ne_true]
theorem d_sl_mk (M : ch_M) (K : ch_B) (n : Nat) : ∀ (S : ch_B) (p s : Nat), S 0 1 = nI s → s + n ≤ 12 → ∃ S', d_sl 0 0 n (d_mk M K S p) = d_mk M K S' (p + d_ns (ch_ob M 6 0) p n) ∧ S' 0 1 = nI (s + d_ns (ch_ob M 6 0) p n) ∧ (∀ i, i < s → S' 1 i = S 1 i) ∧ ∀ i, i < d_ns (ch_ob M 6 0) p n → S' 1 (s + i) = d_dg (ch_ob M 6 0) (nI (p + i)) := by
  induction n with
  | zero => exact fun S p s h _ => ⟨S, rfl, h, fun _ _ => rfl, fun i hi => absurd hi (by unfold d_ns; omega)⟩
  | succ n ih =>
    intro S p s hS hs
    rw [d_sl, d_mk_6, d_mk_p, d_ns]
    by_cases h : 1 ≤ d_dg (ch_ob M 6 0) (nI p) ∧ d_dg (ch_ob M 6 0) (nI p) ≤ 3
    · rw [if_pos h, if_pos h, d_mk_5, d_mk_w5, d_mk_nx]
      have ea : s_addB S (d_dg (ch_ob M 6 0) (nI p)) = ch_bw (ch_bw S 1 s (d_dg (ch_ob M 6 0) (nI p))) 0 1 (nI (s + 1)) := by
        unfold s_addB
        rw [hS, if_neg (show ¬ (12 : Int32) ≤ nI s from nI_ge (b := 12) (by omega) (by decide)), nI_clamp (by omega), nI_1]
      rw [ea]
      obtain ⟨S', e1, e2, e3, e4⟩ := ih (ch_bw (ch_bw S 1 s (d_dg (ch_ob M 6 0) (nI p))) 0 1 (nI (s + 1))) (p + 1) (s + 1) (ch_bw_at _ _ _ _) (by omega)
      refine ⟨S', ?_, ?_, fun i hi => ?_, fun i hi => ?_⟩
      · rw [e1, show p + 1 + d_ns (ch_ob M 6 0) (p + 1) n = p + (d_ns (ch_ob M 6 0) (p + 1) n + 1) by omega]
      · rw [e2, show s + 1 + d_ns (ch_ob M 6 0) (p + 1) n = s + (d_ns (ch_ob M 6 0) (p + 1) n + 1) by omega]
      · rw [e3 i (by omega), ch_bw_c (by decide), ch_bw_k (by omega)]
      · cases i with
        | zero => rw [Nat.add_zero, Nat.add_zero, e3 s (by omega), ch_bw_c (by decide), ch_bw_at]
        | succ i =>
          rw [show s + (i + 1) = s + 1 + i by omega, show p + (i + 1) = p + 1 + i by omega]
          exact e4 i (by omega)
    · rw [if_neg h, if_neg h]
      exact ⟨S, rfl, hS, fun _ _ => rfl, fun i hi => absurd hi (by omega)⟩
theorem d_st_mk (M : ch_M) (K S : ch_B) (p : Nat) : ∃ S', d_st (d_mk M K S p) 0 0 = (decide (¬ d_ns (ch_ob M 6 0) p 12 = 0), d_mk M K S' (p + d_ns (ch_ob M 6 0) p 12)) ∧ S' 0 1 = nI (d_ns (ch_ob M 6 0) p 12) ∧ ∀ i, i < d_ns (ch_ob M 6 0) p 12 → S' 1 i = d_dg (ch_ob M 6 0) (nI (p + i)) := by
  have hl := d_ns_le (ch_ob M 6 0) 12 p
  unfold d_st
  rw [d_mk_5, d_mk_w5]
  obtain ⟨S', e1, e2, -, e4⟩ := d_sl_mk M K 12 (ch_bw S 0 1 0) p 0 (ch_bw_at _ _ _ _) (by omega)
  refine ⟨S', ?_, by rw [e2, Nat.zero_add], fun i hi => by rw [← e4 i hi, Nat.zero_add]⟩
  rw [e1]
  congr 1
  apply decide_eq_decide.mpr
  have e5 : d_mk M K S' (p + d_ns (ch_ob M 6 0) p 12) (5, 0, 0) 1 = nI (d_ns (ch_ob M 6 0) p 12) := by
    have : d_mk M K S' (p + d_ns (ch_ob M 6 0) p 12) (5, 0, 0) 1 = ch_ob (d_mk M K S' (p + d_ns (ch_ob M 6 0) p 12)) 5 0 0 1 := rfl
    rw [this, d_mk_5, e2, Nat.zero_add]
  rw [e5]
  refine not_congr ⟨fun z => ?_, fun z => by rw [z]; decide⟩
  by_cases e : d_ns (ch_ob M 6 0) p 12 = 0
  · exact e
  · exact absurd z (nI_nle (by omega) (by omega))
theorem d_tc_mk (M : ch_M) (K S : ch_B) (p : Nat) : d_tc (d_mk M K S p) 0 = if d_kdB (d_sg (ch_ob M 6 0) (nI p)) = true then d_tc1 (d_sg (ch_ob M 6 0) (nI p)) (d_mk M (c_setB K (d_sg (ch_ob M 6 0) (nI p)) 0 0 0) S (p + 1)) 0 else (false, d_mk M K S p) := by
  unfold d_tc d_tcK
  rw [d_mk_6, d_mk_p, d_mk_nx, d_mk_4, d_mk_w4]
def pt_n (T : ch_B) (p : Nat) : Bool × Nat := if 0 ≤ d_dg T (nI p) then (true, d_e2 T p) else (false, p)
def pt_1 (T : ch_B) (p : Nat) (k : Nat → Bool × Nat) : Bool × Nat := if 0 ≤ d_dg T (nI p) then k (p + 1) else (false, p)
