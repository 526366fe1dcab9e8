theorem m_cmp_cg {p : Int32 → Bool} {f g : Nat → Int32} {n : Nat} (h : ∀ k, k < n → f k = g k) : (m_cmp p f n).2 = (m_cmp p g n).2 ∧ ∀ i, i < (m_cmp p f n).2 → (m_cmp p f n).1 i = (m_cmp p g n).1 i := by
  refine m_row_inj ?_
  rw [m_cmp_row, m_cmp_row, m_row_cg h]
/-- the reference's block amid a closing -/
def m_clK (B : ch_B) (c k : Nat) : ch_B := fun a i => if a = 1 ∧ 9 ≤ i ∧ i < 14 then (m_cmp (fun x => !decide (x = nI c)) (fun j => B 1 (9 + j)) k).1 (i - 9) else if a = 1 ∧ i = 38 + 5 * c + 2 then 0 else B a i
set_option maxHeartbeats 1600000 in
theorem s_m_closes (g : ch_G) (q : ch_M → Prop) (Y_ : ch_B) (p1 : Int32) (m : ch_M) (h : (m_rel Y_ (m (9, 0, 1))) ∧ (vp_in p1 5) ∧ (vp_in (Y_ 0 9) 6) ∧ (∀ (B_ : ch_B), (m_rel (m_clB Y_ (Int32.toNatClampNeg p1)) (B_ 1)) → (∀ a_ i_, a_ ≠ 1 → B_ a_ i_ = ch_ob m 9 0 a_ i_) → q (ch_os m 9 0 B_))) : ch_C g m_m_closes [.inr (9, 0, 0), .inl (.int p1)] m (ch_ov q) := by
  refine e_m_closes g _ p1 m ?_
  obtain ⟨hr, h1, h9, hq⟩ := h
  obtain ⟨c, hc, rfl⟩ := vp_in_of h1 (by decide)
  obtain ⟨n, hn, en⟩ := vp_in_of h9 (by decide)
  have cc : (nI c).toNatClampNeg = c := nI_clamp (by omega)
  have hB : m_rel Y_ (ch_ob m 9 0 1) := hr
  rw [cc] at hq
  refine g_m_closes_0 g _ _ _ ⟨h1, ?_⟩
  rw [cc]
  intro m2 e2
  have e00 : ch_bw (ch_ob m 9 0) 1 (38 + 5 * c + 2) 0 = m_clK (ch_ob m 9 0) c 0 := by
    funext a i
    unfold ch_bw m_clK
    have ez : (m_cmp (fun x => !decide (x = nI c)) (fun j => ch_ob m 9 0 1 (9 + j)) 0).1 = (fun j => ch_ob m 9 0 1 (9 + j)) := rfl
    rw [ez]
    grind
  rw [ch_wr_os, e00] at e2
  subst e2
  have key : ∀ k, k ≤ n → ch_J g m_m_closes (ch_rm m_m_closes) (ch_E g m_m_closes (ch_ov q)) 11 [some (.inr (9, 0, 0)), some (.inl (.int (nI c))), some (.inl (.int (nI (m_cmp (fun x => !decide (x = nI c)) (fun j => ch_ob m 9 0 1 (9 + j)) k).2))), some (.inl (.int (nI k)))] [] (ch_os m 9 0 (m_clK (ch_ob m 9 0) c k)) 0 := by
    have e8 : ∀ k, m_clK (ch_ob m 9 0) c k 1 8 = nI n := by
      intro k
      have : m_clK (ch_ob m 9 0) c k 1 8 = ch_ob m 9 0 1 8 := by
        unfold m_clK
        rw [if_neg (by omega), if_neg (by omega)]
      rw [this]
      exact (m_st hB).trans en
    refine ch_down _ n ?_ ?_
    · refine g_m_closes_11 g _ _ _ _ _ ?_
      simp only [ch_ov_iff, ch_os_at, e8, ch_os_wr]
      refine ⟨fun _ m1 e1 => ?_, fun c => absurd (nI_le (Nat.le_refl n) (by omega)) c⟩
      subst e1
      refine hq _ ?_ ?_
      · have hl := m_cmp_le (fun x => !decide (x = nI c)) (fun j => ch_ob m 9 0 1 (9 + j)) n
        obtain ⟨ea, eb⟩ := m_cmp_cg (p := fun x => !decide (x = nI c)) (f := fun j => ch_ob m 9 0 1 (9 + j)) (g := Y_ 8) (n := n) (fun k hk => hB.2.1 k (by omega) (by rw [en, nI_clamp (by omega)]; exact hk))
        have e9 : (Y_ 0 9).toNatClampNeg = n := by rw [en, nI_clamp (by omega)]
        unfold m_clK m_clB
        rw [e9]
        generalize hX : m_cmp (fun x => !decide (x = nI c)) (fun j => ch_ob m 9 0 1 (9 + j)) n = X at *
        generalize hZ : m_cmp (fun x => !decide (x = nI c)) (Y_ 8) n = Z at *
        obtain ⟨⟨a0, a1, a2, a3, a4, a5, a6, a7, a8⟩, h2, h3, h4⟩ := hB
        have ez : (nI Z.2).toNatClampNeg = Z.2 := nI_clamp (by omega)
        unfold m_rel ch_bw
        refine ⟨⟨?_, ?_, ?_, ?_, ?_, ?_, ?_, ?_, ?_⟩, fun k hk5 hk => ?_, fun k hk => ⟨?_, ?_⟩, fun d hd => ⟨?_, ?_, ?_, ?_, ?_⟩⟩ <;> grind
      · intro a i ha
        unfold m_clK ch_bw
        grind
    · intro k hk ih
      obtain ⟨a1, a2, a3, a4⟩ := ch_kn hk (by omega)
      have hl := m_cmp_le (fun x => !decide (x = nI c)) (fun j => ch_ob m 9 0 1 (9 + j)) k
      have hh := m_cmp_hi (fun x => !decide (x = nI c)) (fun j => ch_ob m 9 0 1 (9 + j)) k k (Nat.le_refl k)
      have e9 : (9 : Int32) + nI k = nI (9 + k) := nI_add 9 k
      have e9' : (9 : Int32) + nI (m_cmp (fun x => !decide (x = nI c)) (fun j => ch_ob m 9 0 1 (9 + j)) k).2 = nI (9 + (m_cmp (fun x => !decide (x = nI c)) (fun j => ch_ob m 9 0 1 (9 + j)) k).2) := nI_add 9 _
      refine g_m_closes_11 g _ _ _ _ _ ?_
      have er : m_clK (ch_ob m 9 0) c k 1 (9 + k) = ch_ob m 9 0 1 (9 + k) := by
        unfold m_clK
        rw [if_pos ⟨rfl, by omega, by omega⟩, show 9 + k - 9 = k by omega, hh]
      simp only [ch_ov_iff, ch_os_at, e8, a4, e9, e9', nI_1, nI_clamp (show 9 + k < 2 ^ 31 by omega), nI_clamp (show 9 + (m_cmp (fun x => !decide (x = nI c)) (fun j => ch_ob m 9 0 1 (9 + j)) k).2 < 2 ^ 31 by omega), er, ch_os_wr]
      refine ⟨fun c => absurd c a1, fun _ => ⟨vp_in_nI (by omega) (by decide), fun d => ?_, fun d => ⟨vp_in_nI (by omega) (by decide), fun m4 e4 => ?_⟩⟩⟩
      · have e1 : m_cmp (fun x => !decide (x = nI c)) (fun j => ch_ob m 9 0 1 (9 + j)) (k + 1) = m_cmp (fun x => !decide (x = nI c)) (fun j => ch_ob m 9 0 1 (9 + j)) k := by
          rw [m_cmp, hh, if_neg (by simp [d])]
        have e5 : m_clK (ch_ob m 9 0) c (k + 1) = m_clK (ch_ob m 9 0) c k := by
          unfold m_clK
          rw [e1]
        rw [e1, e5] at ih
        exact ih
      · have e1 : m_cmp (fun x => !decide (x = nI c)) (fun j => ch_ob m 9 0 1 (9 + j)) (k + 1) = (fun i => if i = (m_cmp (fun x => !decide (x = nI c)) (fun j => ch_ob m 9 0 1 (9 + j)) k).2 then ch_ob m 9 0 1 (9 + k) else (m_cmp (fun x => !decide (x = nI c)) (fun j => ch_ob m 9 0 1 (9 + j)) k).1 i, (m_cmp (fun x => !decide (x = nI c)) (fun j => ch_ob m 9 0 1 (9 + j)) k).2 + 1) := by
          rw [m_cmp, hh, if_pos (by simp [d])]
        have e5 : ch_bw (m_clK (ch_ob m 9 0) c k) 1 (9 + (m_cmp (fun x => !decide (x = nI c)) (fun j => ch_ob m 9 0 1 (9 + j)) k).2) (ch_ob m 9 0 1 (9 + k)) = m_clK (ch_ob m 9 0) c (k + 1) := by
          funext a i
          unfold m_clK
          rw [e1]
          generalize m_cmp (fun x => !decide (x = nI c)) (fun j => ch_ob m 9 0 1 (9 + j)) k = X at *
          unfold ch_bw
          grind
        rw [e5] at e4
        subst e4
        rw [e1] at ih
        exact ih
  exact key 0 (by omega)
