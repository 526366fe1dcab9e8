/-! the row of longs: a cell beside the world -/
def ch_rw (g : ch_G) (a : Nat) : ch_G := (g.1, g.2.1, g.2.2.1, g.2.2.2.1, (fun x => if x = (14, 0, 1) then a else ch_xa g x), (fun x => x = (14, 0, 1)), g.2.2.2.2.2.2)
theorem ch_rw_adr {g : ch_G} {a : Nat} {x : ch_Ad} (h : x ≠ (14, 0, 1)) : ch_adr (ch_rw g a) x = ch_adr g x := by
  unfold ch_adr
  by_cases h8 : x.1 ≤ 8
  · rw [if_pos h8, if_pos h8]
    rfl
  · rw [if_neg h8, if_neg h8]
    show (if x = (14, 0, 1) then a else ch_xa g x) = _
    rw [if_neg h]
theorem ch_rw_14 {g : ch_G} {a : Nat} : ch_adr (ch_rw g a) (14, 0, 1) = a := by
  unfold ch_adr
  rw [if_neg (by decide)]
  show (if ((14, 0, 1) : ch_Ad) = (14, 0, 1) then a else ch_xa g (14, 0, 1)) = a
  rw [if_pos rfl]
theorem ch_rw_fx {g : ch_G} {a q : Nat} (hxi : ∀ x, ¬ ch_xi g x) (ha : (ch_H0 g).size ≤ a) : ch_fx (ch_rw g a) q ↔ ch_fx g q := by
  constructor
  · rintro ⟨h1, h2⟩
    refine ⟨h1, fun x hx => ?_⟩
    rcases hx with hx | hx
    · have hn : x ≠ (14, 0, 1) := fun z => by
        rw [z] at hx
        exact absurd hx.1 (by decide)
      rw [← ch_rw_adr (a := a) hn]
      exact h2 x (Or.inl hx)
    · exact absurd hx (hxi x)
  · rintro ⟨h1, h2⟩
    refine ⟨h1, fun x hx => ?_⟩
    rcases hx with hx | hx
    · have hn : x ≠ (14, 0, 1) := fun z => by
        rw [z] at hx
        exact absurd hx.1 (by decide)
      rw [ch_rw_adr hn]
      exact h2 x (Or.inl hx)
    · have hx : x = (14, 0, 1) := hx
      rw [hx, ch_rw_14]
      have h1 : q < (ch_H0 g).size := h1
      omega
theorem ch_WV_rw {g : ch_G} {a : Nat} {U : State} (hxi : ∀ x, ¬ ch_xi g x) (ha : (ch_H0 g).size ≤ a) (h : ch_WV g U) : ch_WV (ch_rw g a) U := by
  have fx : (fun q => ¬ ch_fx (ch_rw g a) q) = fun q => ¬ ch_fx g q := by
    funext q
    rw [ch_rw_fx hxi ha]
  have e : ∀ x : ch_Ad, x.1 ≠ 14 → ch_xa (ch_rw g a) x = ch_xa g x := fun x hx => if_neg (fun z => hx (by rw [z]))
  have e11 : ch_scr (ch_rw g a) = ch_scr g := by
    show (ch_xa (ch_rw g a) (11, 0, 0), _) = (ch_xa g (11, 0, 0), _)
    rw [e _ (by decide)]
    rfl
  have e12 : ∀ i, ch_xa (ch_rw g a) (12, i, 0) = ch_xa g (12, i, 0) := fun i => e _ (by show ¬ (12 : Nat) = 14; decide)
  have e13 : ∀ i, ch_xa (ch_rw g a) (13, i, 0) = ch_xa g (13, i, 0) := fun i => e _ (by show ¬ (13 : Nat) = 14; decide)
  have e15 : ∀ i, ch_xa (ch_rw g a) (15, i, 0) = ch_xa g (15, i, 0) := fun i => e _ (by show ¬ (15 : Nat) = 14; decide)
  obtain ⟨h1, h2, h3, h4, h5, h6, h7, h8, h9, h10⟩ := h
  refine ⟨h1, h2, h3, h4, h5, by rw [e11]; exact h6, by rw [e11]; exact (ch_rw_fx hxi ha).mpr h7, by rw [e11]; exact h8, ?_, h10⟩
  unfold ch_SW at h9 ⊢
  rw [fx]
  simp only [e12, e13, e15]
  exact h9
theorem ch_FR_rw {g : ch_G} {a : Nat} {f : ch_MI} {p : Program} {s : State} {m : MethodId} {args : Array Value} {meth : Method} {c : Code} (hxi : ∀ x, ¬ ch_xi g x) (ha : (ch_H0 g).size ≤ a) (h : ch_FR g f p s m args meth c) : ch_FR (ch_rw g a) f p s m args meth c := by
  obtain ⟨h1, h2, h3, h4, h5, h6, h7, h8, h9, h10, h11, h12⟩ := h
  exact ⟨h1, h2, h3, h4, h5, h6, ch_WV_rw hxi ha h7, h8, h9, h10, h11, h12⟩
theorem ch_rw_ok {g : ch_G} {a : Nat} {v : ch_V} (hxi : ∀ x, ¬ ch_xi g x) (h : ch_ok g v) : ch_ok (ch_rw g a) v ∧ ch_tr (ch_rw g a) v = ch_tr g v := by
  cases v with
  | inl v => exact ⟨ch_okl, rfl⟩
  | inr b =>
    have hb := h b rfl
    have hn : b ≠ (14, 0, 1) := fun z => by
      rw [z] at hb
      rcases hb with (hb | hb) | hb | ⟨i, hi, hb | hb⟩ | ⟨i, hi, hb⟩
      · exact absurd hb.1 (by decide)
      · exact hxi _ hb
      · exact absurd (congrArg Prod.fst hb) (by decide)
      · exact absurd (show (14 : Nat) = 12 from congrArg Prod.fst hb) (by decide)
      · exact absurd (show (14 : Nat) = 13 from congrArg Prod.fst hb) (by decide)
      · exact absurd (show (14 : Nat) = 15 from congrArg Prod.fst hb) (by decide)
    refine ⟨fun b' hb' => ?_, ?_⟩
    · cases hb'
      rcases hb with (hb | hb) | hb
      · exact Or.inl (Or.inl hb)
      · exact absurd hb (hxi _)
      · exact Or.inr hb
    · show Value.ref _ = Value.ref _
      rw [ch_rw_adr hn]
/-- the memory with an empty row -/
def m_14 (m : ch_M) : ch_M := fun x k => if x = (14, 0, 1) then 0 else m x k
theorem m_14_ne {m : ch_M} {x : ch_Ad} (h : x ≠ (14, 0, 1)) : m_14 m x = m x := by
  funext k
  exact if_neg h
theorem a_W_m14 {A : a_G} {Y : ch_B} {R : Int32 × Int32 × Int32} {m : ch_M} (h : a_W A Y R m) : a_W A Y R (m_14 m) := by
  have e : ∀ a j c i, a ≠ 14 → m_14 m (a, j, c) i = m (a, j, c) i := fun a j c i ha => by
    rw [m_14_ne (fun z => ha (congrArg Prod.fst z))]
  obtain ⟨b1, b2, b3, b4, b5, b6⟩ := h
  have e10 : ch_ob (m_14 m) 1 0 = ch_ob m 1 0 := by
    funext c i
    exact e 1 0 c i (by decide)
  exact ⟨a_S_kp b1 (fun a j c i z _ => e a j c i (by omega)) ⟨by rw [e 6 1 0 1 (by decide)]; exact b1.2.1.1, fun i hi => by rw [e 6 1 1 i (by decide)]; exact b1.2.1.2 i hi⟩ (by rw [e 5 0 0 1 (by decide)]; exact b1.2.2.2.2.2), b2, by rw [e10]; exact b3, by rw [e 3 0 0 0 (by decide)]; exact b4, by rw [e 3 0 0 1 (by decide)]; exact b5, by rw [e 3 0 0 2 (by decide)]; exact b6⟩
