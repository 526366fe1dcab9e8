theorem m_row_mem {f : Nat → Int32} {n : Nat} {x : Int32} (h : x ∈ m_row f n) : ∃ k, k < n ∧ f k = x := by
  unfold m_row at h
  obtain ⟨k, hk, e⟩ := List.mem_map.mp h
  exact ⟨k, List.mem_range.mp hk, e⟩
theorem m_clB_eqv {Y : ch_B} {c : Nat} (hc : c < 5) (h9 : vp_in (Y 0 9) 6) (hm : ∀ k, k < (Y 0 9).toNatClampNeg → ∃ a, a < 5 ∧ Y 8 k = nI a ∧ ¬ Y 5 a ≤ 0) : y_eqv (m_clB Y c) (y_clB (ch_bw Y 5 c 0)) := by
  obtain ⟨s, hs, es⟩ := vp_in_of h9 (by decide)
  have e0 : (Y 0 9).toNatClampNeg = s := by rw [es, nI_clamp (by omega)]
  have e1 : ch_bw Y 5 c 0 8 = Y 8 := by
    funext i
    exact ch_bw_c (by decide)
  have e2 : (ch_bw Y 5 c 0 0 9).toNatClampNeg = s := by
    rw [ch_bw_c (by decide)]
    exact e0
  have eR : m_row (m_cmp (fun x => !decide (x = nI c)) (Y 8) s).1 (m_cmp (fun x => !decide (x = nI c)) (Y 8) s).2 = m_row (y_clk (ch_bw Y 5 c 0) s).1 (y_clk (ch_bw Y 5 c 0) s).2 := by
    rw [y_clk_cmp, e1, m_cmp_row, m_cmp_row]
    apply List.filter_congr
    intro x hx
    obtain ⟨k, hk, rfl⟩ := m_row_mem hx
    obtain ⟨a, ha, ea, en⟩ := hm k (by omega)
    rw [ea, nI_clamp (by omega)]
    by_cases h : a = c
    · subst h
      rw [ch_bw_at]
      simp
    · rw [ch_bw_k h]
      have : ¬ nI a = nI c := fun z => h ((nI_eq (by omega) (by omega)).mp z)
      simp [this, en]
  obtain ⟨ec, ei⟩ := m_row_inj eR
  have hl := m_cmp_le (fun x => !decide (x = nI c)) (Y 8) s
  unfold y_eqv y_clB m_clB
  rw [e0, e2]
  generalize m_cmp (fun x => !decide (x = nI c)) (Y 8) s = X at *
  generalize y_clk (ch_bw Y 5 c 0) s = Z at *
  have ez : (nI X.2).toNatClampNeg = X.2 := nI_clamp (by omega)
  unfold ch_bw
  refine ⟨fun k h1 h2 => ?_, fun a k h1 h2 h3 => ?_, fun a k h1 h2 h3 => ?_, fun k h1 h2 => ?_⟩ <;> grind
theorem y_imem {T : Nat} {Y : ch_B} (h : y_inv T Y) : ∀ k, k < (Y 0 9).toNatClampNeg → ∃ a, a < 5 ∧ Y 8 k = nI a ∧ ¬ Y 5 a ≤ 0 := by
  intro k hk
  obtain ⟨s, hs, es⟩ := vp_in_of (y_i9 h) (by decide)
  have hs2 : k < s := by rw [es, nI_clamp (by omega)] at hk; exact hk
  obtain ⟨a, ha, ea⟩ := vp_in_of (y_i8k h k (by omega)) (by decide)
  refine ⟨a, ha, ea, ?_⟩
  have h5 := (h.2.2.2.2.1.1 a ha).mpr ⟨k, hk, ea⟩
  obtain ⟨w, hw, ew⟩ := vp_in_of (y_i5 h ha) (by decide)
  rw [ew] at h5 ⊢
  exact nI_nle (by have : w ≠ 0 := fun z => h5 (by rw [z]; decide)
                   omega) (by omega)
set_option maxHeartbeats 1600000 in
theorem s_m_strikes (g : ch_G) (q : Int32 → ch_M → Prop) (T_ : Nat) (Y_ : ch_B) (p1 : Int32) (m : ch_M) (h : (m_rel Y_ (m (9, 0, 1))) ∧ (y_inv T_ Y_) ∧ (((r_ws Y_ p1).1 = 0) → (∀ (B_ : ch_B), (m_did (ch_ob m 9 0) B_ (y_strB Y_ p1) (Y_ 3 (Int32.toNatClampNeg p1) - Y_ 5 (Int32.toNatClampNeg p1))) → q 1 (ch_os m 9 0 B_))) ∧ ((¬ (r_ws Y_ p1).1 = 0) → q 0 (ch_os m 9 0 (m_refB (ch_ob m 9 0) (r_ws Y_ p1).1 (r_ws Y_ p1).2)))) : ch_C g m_m_strikes [.inr (9, 0, 0), .inl (.int p1)] m (ch_oi q) := by
  refine e_m_strikes g _ p1 m ?_
  obtain ⟨hr, hi, ha, hb⟩ := h
  have hB : m_rel Y_ (ch_ob m 9 0 1) := hr
  have h8 := y_i8 hi
  unfold r_ws at ha hb
  refine g_m_strikes_0 g _ _ _ ⟨fun c => ?_, fun c => ?_⟩
  · have c1 : 0 ≤ p1 ∧ p1 < Y_ 0 8 := (m_chi h8).mp (by rw [← m_co hr]; exact c)
    have hv := m_chv h8 c1
    obtain ⟨k, hk, rfl⟩ := vp_in_of hv (by decide)
    have ck : (nI k).toNatClampNeg = k := nI_clamp (by omega)
    rw [if_pos c1, ck] at ha hb
    have ep : m (9, 0, 1) (38 + 5 * k + 0) = Y_ 3 k := m_pe hr hk
    have ew : m (9, 0, 1) (38 + 5 * k + 2) = Y_ 5 k := m_wa hr hk
    have r1 := m_pay_rel hB hk (Y_ 5 k)
    simp only [ch_oi_iff, ck, ep, ew, forall_eq, ch_os_wr, ch_wr_os, ch_ob_os, ch_os_os, ch_os_at]
    refine ⟨hv, fun d => ⟨fun e => ⟨ch_bw (ch_bw Y_ 3 k (Y_ 3 k - Y_ 5 k)) 0 10 (Y_ 0 10 + Y_ 5 k), r1, ?_, fun B h1 h2 => ?_⟩, fun e => ?_⟩, fun d => ?_⟩
    · rw [ch_bw_k (by decide), ch_bw_c (by decide)]
      exact y_i9 hi
    · rw [if_neg d, if_pos e] at ha
      have q1 : y_eqv (m_clB (ch_bw (ch_bw Y_ 3 k (Y_ 3 k - Y_ 5 k)) 0 10 (Y_ 0 10 + Y_ 5 k)) k) (y_strB Y_ (nI k)) := by
        unfold y_strB
        rw [ck]
        refine m_clB_eqv hk ?_ ?_
        · rw [ch_bw_k (by decide), ch_bw_c (by decide)]
          exact y_i9 hi
        · intro j hj
          rw [ch_bw_k (by decide), ch_bw_c (by decide)] at hj
          obtain ⟨a, h1, h2, h3⟩ := y_imem hi j hj
          exact ⟨a, h1, h2, h3⟩
      have r2 := m_rel_eqv h1 q1
      refine ha rfl _ ⟨?_, ?_, ?_⟩
      · rw [ch_bw1 (by decide)]
        exact r2
      · rw [ch_bw_at, m_pe r2 hk]
        unfold y_strB
        rw [y_clB_o (by decide) (by omega), ck, ch_bw_c (by decide), ch_bw_c (by decide), ch_bw_at]
      · intro a i h3 h4
        have := h2 a i h3
        unfold m_payB at this
        unfold ch_bw at this ⊢
        grind
    · rw [if_neg d, if_neg e] at hb
      exact hb (m_nz (by decide))
    · rw [if_pos d] at hb
      exact hb (m_nz (by decide))
  · rw [if_neg (fun z => c (by rw [m_co hr]; exact (m_chi h8).mpr z))] at hb
    simp only [ch_oi_iff, forall_eq, ch_os_wr, ch_wr_os, ch_ob_os, ch_os_os, ch_os_at, m_co hr]
    exact hb (m_nz (by decide))
