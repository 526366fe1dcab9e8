theorem y_inv_40 {T : Nat} (hT : T < 2 ^ 31) {Y : ch_B} (h : y_inv T Y) {c : Nat} (hc5 : c < 5) : y_inv T (ch_bw Y 4 c 0) := by
  obtain ⟨n, s, C, Br, P, R, W, K, O, ⟨hn, hs, en, es, eC, eB⟩, hO, hK, hc, hz, hod, hsum, hb⟩ := y_D_of hT h
  have hT0 := (hc c hc5).2.2.1
  refine y_inv_of (n := n) (s := s) (C := C) (Br := Br) (P := P) (R := f_up R c 0) (W := W) (K := K) (O := O) hT ⟨⟨hn, hs, en, es, eC, eB⟩, hO, hK, fun d hd => ?_, fun d h1 h2 => ?_, hod, hsum, hb⟩
  · obtain ⟨c1, c2, c3, c4, c5, c6⟩ := hc d hd
    by_cases e : d = c
    · subst e
      rw [f_up_at, ch_bw_at]
      exact ⟨c1, c2, by omega, rfl, c5, c6⟩
    · rw [f_up_ne e, ch_bw_c (show (3 : Nat) ≠ 4 by decide), ch_bw_c (show (5 : Nat) ≠ 4 by decide), ch_bw_k e]
      exact ⟨c1, c2, c3, c4, c5, c6⟩
  · obtain ⟨z1, z2, z3⟩ := hz d h1 h2
    refine ⟨z1, ?_, z3⟩
    by_cases e : d = c
    · rw [e, f_up_at]
    · rw [f_up_ne e]
      exact z2
theorem y_inv_2 {T : Nat} (hT : T < 2 ^ 31) {Y : ch_B} (h : y_inv T Y) {q v c : Nat} (hq : q < 12) (hv : v < 10) (hv0 : v ≠ 0) (hc : c < (Y 0 8).toNatClampNeg) (e : Y 1 q = nI c) : y_inv T (ch_bw Y 2 q (nI v)) := by
  have r := y_inv_sq (q := q) (v := v) hT h hq hv (o := Y 1 q) (Or.inr ⟨c, hc, e, hv0⟩)
  have e2 : ch_bw (ch_bw Y 2 q (nI v)) 1 q (Y 1 q) = ch_bw Y 2 q (nI v) := by
    have := ch_bw_self (ch_bw Y 2 q (nI v)) 1 q
    rw [ch_bw_c (by decide)] at this
    exact this
  rw [e2] at r
  exact r
theorem y_inv_wri {T : Nat} (hT : T < 2 ^ 31) {Y : ch_B} (h : y_inv T Y) {c : Int32} (hp : (r_ww Y c).1 = 0) : y_inv T (y_wriB Y c) := by
  unfold r_ww at hp
  by_cases l1 : 0 ≤ c ∧ c < Y 0 8
  · rw [if_pos l1] at hp
    obtain ⟨n, hn, en⟩ := vp_in_of (y_i8 h) (by decide)
    obtain ⟨k, hk, rfl⟩ := y_D_chd (T := T) en hn l1
    have ck : (nI k).toNatClampNeg = k := nI_clamp (by omega)
    have hk5 : k < 5 := by omega
    rw [ck] at hp
    by_cases l2 : Y 5 k ≤ 0
    · rw [if_pos l2] at hp
      by_cases l3 : 3 ≤ Y 4 k
      · obtain ⟨w, hw⟩ := y_war h
        obtain ⟨r, hr, er⟩ := vp_in_of (y_i4 h hk5) hT
        have hr3 : 3 ≤ r := by
          rw [er] at l3
          exact (nI_leI (a := 3) (by decide) (by omega)).mp l3
        have h50 : Y 5 k = 0 := by
          rw [(hw k hk5).2] at l2 ⊢
          have := (hw k hk5).1
          by_cases e : w k = 0
          · rw [e]; rfl
          · exact absurd l2 (nI_nle (by omega) (by omega))
        obtain ⟨s, hs, es⟩ := vp_in_of (y_i9w h hk5 h50) (by decide)
        obtain ⟨r1, r2, r3⟩ := y_inv_row h (show s < 6 by omega) es
        have cs : (Y 0 9).toNatClampNeg = s := by rw [es, nI_clamp (by omega)]
        have hwk : w k = 0 := by
          have := (hw k hk5).1
          by_cases e : w k = 0
          · exact e
          · exact absurd (by rw [← (hw k hk5).2]; exact h50) (nI_ne0 (n := w k) (by omega) (by omega))
        have hmin : (if 9 < Y 4 k then 9 else Y 4 k) = nI (if 9 < r then 9 else r) := by
          rw [er]
          by_cases l : 9 < r
          · rw [if_pos (show (9 : Int32) < nI r from nI_lt (a := 9) l (by omega)), if_pos l]; rfl
          · rw [if_neg (show ¬ (9 : Int32) < nI r from nI_nlt (a := 9) (b := r) (by omega) (by decide)), if_neg l]
        have hnin : ¬ nI k ∈ m_row (Y 8) s := fun z => (r2 k hk5).mpr z h50
        have e8 : ∀ i, y_wriB Y (nI k) 8 i = if i = s then nI k else Y 8 i := by
          intro i
          unfold y_wriB
          rw [ck, cs]
          unfold ch_bw
          grind
        have hrow : m_row (y_wriB Y (nI k) 8) (s + 1) = m_row (Y 8) s ++ [nI k] := by
          rw [m_row_s, e8, if_pos rfl, m_row_cg (g := Y 8) (fun i hi => by rw [e8, if_neg (by omega)])]
        have base := y_inv_40 hT h hk5
        refine y_inv_ord (Y := ch_bw Y 4 k 0) (W' := f_up w k (if 9 < r then 9 else r)) (s' := s + 1) hT base (fun i hi => ?_) (fun a i h1 h2 h3 => ?_) (fun d hd => ?_) (fun d h1 h2 => ?_) (by omega) ?_ (fun i hi => ?_) ?_ (fun d hd => ?_)
        · unfold y_wriB
          rw [ch_bw_k (by omega), ch_bw_k (by omega), ch_bw_c (by decide), ck, ch_bw_c (by decide), ch_bw_c (by decide), ch_bw_c (by decide)]
        · unfold y_wriB
          rw [ch_bw_c h1, ch_bw_c h1, ch_bw_c h3, ck]
          unfold ch_bw
          grind
        · have e5 : y_wriB Y (nI k) 5 d = if d = k then nI (if 9 < r then 9 else r) else Y 5 d := by
            unfold y_wriB
            rw [ck, hmin]
            unfold ch_bw
            grind
          rw [e5]
          by_cases e : d = k
          · rw [if_pos e, e, f_up_at]
            exact ⟨by split <;> omega, rfl⟩
          · rw [if_neg e, f_up_ne e]
            exact hw d hd
        · rw [ch_bw_c (by decide), en, nI_clamp (by omega)] at h1
          rw [f_up_ne (by omega)]
          have h0 := (h.2.2.2.1 d (by rw [en, nI_clamp (by omega)]; exact h1) h2).2.2.1
          have hd := hw d h2
          rw [hd.2] at h0
          exact (nI_0i (by omega)).mp h0
        · unfold y_wriB
          rw [ch_bw_k (by decide), ch_bw_at, es, nI_1]
        · rw [e8]
          split
          · exact vp_in_nI hk5 (by decide)
          · exact y_i8k h i hi
        · rw [hrow]
          exact List.nodup_append.mpr ⟨r1, List.nodup_cons.mpr ⟨by simp, List.nodup_nil⟩, fun a ha b hb => by
            rw [List.mem_singleton.mp hb]
            exact fun z => hnin (z ▸ ha)⟩
        · rw [hrow, List.mem_append, List.mem_singleton, ← r2 d hd]
          by_cases e : d = k
          · subst e
            rw [f_up_at]
            exact ⟨fun _ => Or.inr rfl, fun _ => by split <;> omega⟩
          · have hne : ¬ nI d = nI k := fun z => e ((nI_eq (by omega) (by omega)).mp z)
            have hd9 := (hw d hd).1
            rw [f_up_ne e, (hw d hd).2]
            have := nI_0i (n := w d) (by omega)
            constructor
            · exact fun z => Or.inl (fun y => z (this.mp y))
            · exact fun z y => z.elim (fun x => x (this.mpr y)) hne
      · rw [if_neg l3] at hp
        exact absurd hp (m_nz (by decide))
    · rw [if_neg l2] at hp
      exact absurd hp (m_nz (by decide))
  · rw [if_neg l1] at hp
    exact absurd hp (m_nz (by decide))
theorem y_inv_str {T : Nat} (hT : T < 2 ^ 31) {Y : ch_B} (h : y_inv T Y) {c : Int32} (hp : (r_ws Y c).1 = 0) : y_inv T (y_strB Y c) := by
  unfold r_ws at hp
  by_cases l1 : 0 ≤ c ∧ c < Y 0 8
  · rw [if_pos l1] at hp
    obtain ⟨n, hn, en⟩ := vp_in_of (y_i8 h) (by decide)
    obtain ⟨k, hk, rfl⟩ := y_D_chd (T := T) en hn l1
    have ck : (nI k).toNatClampNeg = k := nI_clamp (by omega)
    have hk5 : k < 5 := by omega
    rw [ck] at hp
    by_cases l2 : Y 5 k = 0
    · rw [if_pos l2] at hp
      exact absurd hp (m_nz (by decide))
    · rw [if_neg l2] at hp
      by_cases l3 : Y 5 k ≤ Y 3 k
      · obtain ⟨w, hw⟩ := y_war h
        obtain ⟨a, ha, ea⟩ := vp_in_of (y_i3 h hk5) (by decide)
        have hle : w k ≤ a := by
          rw [(hw k hk5).2, ea] at l3
          have := (hw k hk5).1
          exact (nI_leI (by omega) (by omega)).mp l3
        have r1 := y_inv_pay (a := w k) hT h hk5 ea ha hle
        rw [← (hw k hk5).2] at r1
        unfold y_strB
        rw [ck]
        refine y_inv_clB (W' := f_up w k 0) hT r1 ?_ ?_ (fun i hi => ?_) (fun a i h1 h2 h3 => ?_) (fun d hd => ?_) (fun d hd z => ?_)
        · rw [ch_bw_c (by decide)]
        · funext i
          rw [ch_bw_c (by decide)]
        · rw [ch_bw_c (by decide)]
        · rw [ch_bw_c h2]
        · by_cases e : d = k
          · subst e
            rw [f_up_at, ch_bw_at]
            exact ⟨by omega, rfl⟩
          · rw [f_up_ne e, ch_bw_k e, ch_bw_c (by decide), ch_bw_c (by decide)]
            exact hw d hd
        · rw [ch_bw_c (by decide), ch_bw_c (by decide), (hw d hd).2]
          have hd9 := (hw d hd).1
          by_cases e : d = k
          · rw [e, f_up_at] at z
            exact absurd rfl z
          · rw [f_up_ne e] at z
            exact fun y => z ((nI_0i (by omega)).mp y)
      · rw [if_neg l3] at hp
        exact absurd hp (m_nz (by decide))
  · rw [if_neg l1] at hp
    exact absurd hp (m_nz (by decide))
theorem y_wZ_5 {T : Nat} {Y : ch_B} (hi : y_inv T Y) {w : Nat → Nat} (hw : ∀ c, c < 5 → w c < 10 ∧ Y 5 c = nI (w c)) {ρ : Nat} (hρ : ρ < 10) : ∀ c, c < 5 → y_wZ Y (nI ρ) 5 c = nI (w c - ρ) := by
  obtain ⟨s, hs, es⟩ := vp_in_of (y_i9 hi) (by decide)
  have cs : (Y 0 9).toNatClampNeg = s := by rw [es, nI_clamp (by omega)]
  have o : ∀ a i, a ≠ 1 → a ≠ 2 → (y_wk Y (nI ρ) 12).1 a i = Y a i := fun a i h1 h2 => y_wk_o Y _ 12 a i h1 h2
  intro c hc
  obtain ⟨z1, z2⟩ := y_wa_5 (Z := (y_wk Y (nI ρ) 12).1) (r := nI ρ) hs (fun i h => by
    obtain ⟨a, h1, h2, -⟩ := y_imem hi i (by rw [cs]; exact h)
    exact ⟨a, h1, (o 8 i (by decide) (by decide)).trans h2⟩) (fun i j h1 h2 => by
    rw [o 8 i (by decide) (by decide), o 8 j (by decide) (by decide)]
    exact hi.2.2.2.2.1.2 i j h1 (by rw [cs]; exact h2)) s (Nat.le_refl s) c hc
  have e5 : (y_wk Y (nI ρ) 12).1 5 c = nI (w c) := (o 5 c (by decide) (by decide)).trans (hw c hc).2
  unfold y_wZ
  rw [cs]
  by_cases h : ∃ i, i < s ∧ (y_wk Y (nI ρ) 12).1 8 i = nI c
  · rw [z1 h, e5]
    exact m_sub9 (by have := (hw c hc).1; omega) (by omega)
  · rw [z2 h, e5]
    have h0 : w c = 0 := by
      by_cases e : w c = 0
      · exact e
      · obtain ⟨j, hj, ej⟩ := (hi.2.2.2.2.1.1 c hc).mp (by rw [(hw c hc).2]; exact nI_ne0 (by omega) (by have := (hw c hc).1; omega))
        exact absurd ⟨j, by rw [cs] at hj; exact hj, (o 8 j (by decide) (by decide)).trans ej⟩ h
    rw [h0, Nat.zero_sub]
theorem y_inv_wk {T : Nat} (hT : T < 2 ^ 31) {Y : ch_B} (h : y_inv T Y) {ρ : Nat} (hρ : ρ < 10) (k : Nat) : k ≤ 12 → y_inv T (y_wk Y (nI ρ) k).1 := by
  induction k with
  | zero => exact fun _ => h
  | succ k ih =>
    intro hk
    have ih := ih (by omega)
    obtain ⟨v, hv, ev, h1, h2, h3⟩ := y_wk_s h hρ (show k < 12 by omega)
    by_cases e0 : v = 0
    · rw [h1 e0]
      exact ih
    · by_cases l : v ≤ ρ
      · rw [h2 e0 l]
        exact y_inv_sq (v := 0) hT ih (by omega) (by omega) (Or.inl ⟨rfl, rfl⟩)
      · rw [h3 e0 (by omega)]
        obtain ⟨f1, f2⟩ := y_wk_far Y (nI ρ) k (by omega) k (Nat.le_refl k)
        rcases (h.2.1 k (by omega)).2 with ⟨a, b⟩ | ⟨c, hc, a, b⟩
        · rw [ev] at b
          exact absurd ((nI_0i (by omega)).mp b) e0
        · have e8 : (y_wk Y (nI ρ) k).1 0 8 = Y 0 8 := y_wk_o _ _ _ _ _ (by decide) (by decide)
          exact y_inv_2 (c := c) hT ih (by omega) (by omega) (by omega) (by rw [e8]; exact hc) (f1.trans a)
theorem y_inv_was {T : Nat} (hT : T < 2 ^ 31) {Y : ch_B} (h : y_inv T Y) {r : Int32} (hr : 1 ≤ r ∧ r ≤ 9) : y_inv T (y_washB Y r) := by
  obtain ⟨ρ, hρ, rfl⟩ := vp_in_of (ch_vp (x := r) (n := 10) (by decide) (fun z => absurd (Int32.lt_of_le_of_lt hr.1 z) (by decide)) (fun z => absurd (Int32.le_trans z hr.2) (by decide))) (by decide)
  obtain ⟨w, hw⟩ := y_war h
  have z5 := y_wZ_5 h hw hρ
  have base := y_inv_wk hT h hρ 12 (Nat.le_refl 12)
  have o : ∀ a i, a ≠ 1 → a ≠ 2 → (y_wk Y (nI ρ) 12).1 a i = Y a i := fun a i h1 h2 => y_wk_o Y _ 12 a i h1 h2
  unfold y_washB
  refine y_inv_cnt (y_inv_clB (W' := fun c => w c - ρ) hT base ?_ ?_ (fun i hi => ?_) (fun a i h1 h2 h3 => ?_) (fun d hd => ?_) (fun d hd z => ?_)) (by decide)
  · unfold y_wZ
    rw [y_wa_o _ _ _ _ _ (by decide)]
  · funext i
    unfold y_wZ
    rw [y_wa_o _ _ _ _ _ (by decide)]
  · unfold y_wZ
    rw [y_wa_o _ _ _ _ _ (by decide)]
  · unfold y_wZ
    rw [y_wa_o _ _ _ _ _ h2]
  · have := (hw d hd).1
    exact ⟨by omega, z5 d hd⟩
  · have := (hw d hd).1
    rw [o 5 d (by decide) (by decide), (hw d hd).2]
    exact fun y => by
      have := (nI_0i (n := w d) (by omega)).mp y
      omega
theorem y_inv_hk {T : Nat} (hT : T < 2 ^ 31) {Y : ch_B} (h : y_inv T Y) (c : Int32) (f : Nat → Int32) (k : Nat) : y_inv T (y_hk Y c f k) ∧ y_hk Y c f k 0 8 = Y 0 8 := by
  induction k with
  | zero => exact ⟨h, rfl⟩
  | succ k ih =>
    obtain ⟨ih, e8⟩ := ih
    show y_inv T (y_hs (y_hk Y c f k) c (ch_ps f (k + 1))) ∧ y_hs (y_hk Y c f k) c (ch_ps f (k + 1)) 0 8 = Y 0 8
    generalize y_hk Y c f k = Z at *
    unfold y_hs
    split
    · rename_i l
      obtain ⟨d1, d2, d3, d4⟩ := (ch_lineB_iff _ _ _).mp l
      obtain ⟨p, hp, ep⟩ := vp_in_of (ch_vp (x := ch_ps f (k + 1)) (n := 12) (by decide) d1 d2) (by decide)
      rw [ep] at d3 ⊢
      rw [nI_clamp (by omega)] at d3 ⊢
      rcases (ih.2.1 p hp).2 with ⟨a, b⟩ | ⟨o, ho, a, b⟩
      · exact absurd a d3
      · obtain ⟨n, hn, en⟩ := vp_in_of (y_i8 ih) (by decide)
        have ho5 : o < 5 := by
          rw [en, nI_clamp (by omega)] at ho
          omega
        rw [a, nI_clamp (show o < 2 ^ 31 by omega)]
        have r1 := y_inv_67 (a := 7) (c := o) (v := Z 7 o + 1) hT ih (Or.inr rfl) ho
        obtain ⟨v, hv, ev⟩ := vp_in_of (y_i2 ih hp) (by decide)
        have hv0 : v ≠ 0 := fun z => b (by rw [ev, z]; decide)
        obtain ⟨u, rfl⟩ : ∃ u, v = u + 1 := ⟨v - 1, by omega⟩
        have et : y_tkv (ch_bw Z 7 o (Z 7 o + 1)) (nI p) 1 = nI u := by
          unfold y_tkv
          rw [nI_clamp (by omega), ch_bw_c (by decide), ev, nI_pred, if_neg (nI_pos (by omega))]
        unfold y_tk
        rw [et, nI_clamp (show p < 2 ^ 31 by omega)]
        by_cases e0 : u = 0
        · rw [if_pos (by rw [e0]; rfl), e0]
          exact ⟨y_inv_sq (v := 0) hT r1 hp (by omega) (Or.inl ⟨rfl, rfl⟩), by rw [ch_bw_c (by decide), ch_bw_c (by decide), ch_bw_c (by decide)]; exact e8⟩
        · rw [if_neg (nI_ne0 (by omega) (by omega))]
          exact ⟨y_inv_2 (c := o) hT r1 hp (by omega) e0 (by rw [ch_bw_c (by decide)]; exact ho) (by rw [ch_bw_c (by decide)]; exact a), by rw [ch_bw_c (by decide), ch_bw_c (by decide)]; exact e8⟩
    · exact ⟨ih, e8⟩
theorem y_ct_n (Y : ch_B) (c : Int32) (f : Nat → Int32) (n : Nat) : ∃ a, a ≤ n ∧ y_ct Y c f n = nI a := by
  induction n with
  | zero => exact ⟨0, Nat.le_refl _, rfl⟩
  | succ n ih =>
    obtain ⟨a, h1, h2⟩ := ih
    rw [y_ct]
    split
    · exact ⟨a + 1, by omega, by rw [h2, nI_1]⟩
    · exact ⟨a, by omega, h2⟩
theorem y_inv_hop {T : Nat} (hT : T + 12 < 2 ^ 31) {Y : ch_B} (h : y_inv T Y) {c : Int32} (hc : 0 ≤ c ∧ c < Y 0 8) (f : Nat → Int32) {n : Nat} (hn : n ≤ 12) : y_inv (T + 12) (y_hopB Y c f n) := by
  obtain ⟨z, hz, ez⟩ := vp_in_of (y_i8 h) (by decide)
  obtain ⟨k, hk, rfl⟩ := y_D_chd (T := T) ez hz hc
  have ck : (nI k).toNatClampNeg = k := nI_clamp (by omega)
  obtain ⟨r1, e8⟩ := y_inv_hk (by omega) h (nI k) f n
  obtain ⟨a, ha, ea⟩ := y_ct_n Y (nI k) f n
  have hk8 : k < (y_hk Y (nI k) f n 0 8).toNatClampNeg := by rw [e8, ez, nI_clamp (by omega)]; exact hk
  have r2 := y_inv_mono (T' := T + 12) hT (y_inv_4 (a := a) (by omega) r1 hk8) (by omega)
  have r3 := y_inv_cnt (k := 12) (v := y_hk Y (nI k) f n 0 12 + nI a) r2 (by decide)
  unfold y_hopB
  rw [ck, ea]
  exact y_inv_67 hT r3 (Or.inl rfl) (by rw [ch_bw_k (by decide), ch_bw_c (by decide)]; exact hk8)
