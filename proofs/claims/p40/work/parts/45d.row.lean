theorem ch_lw_0 : ch_lw 0 0 = 0 := by decide
theorem ch_rf_14 {ci k j : Nat} {b : ch_Ad} (h : ch_rf ci k j = some b) : b ≠ (14, 0, 1) := by
  intro z
  subst z
  unfold ch_rf at h
  split at h <;> (try split at h) <;> simp at h
theorem ch_Rp_rw {g : ch_G} {m : ch_M} {H H1 : Heap} (hxi : ∀ x, ¬ ch_xi g x) (hsz : (ch_H0 g).size ≤ H.size) (h : ch_Rp g m H) (e1 : H1[H.size]? = some (arrV (ch_cA g 2) 9 (fun _ => defaultValue (ch_ty 2)))) (z1 : H1.size = H.size + 1) (o1 : ∀ q, q < H.size → H1[q]? = H[q]?) : ch_Rp (ch_rw g H.size) (m_14 m) H1 := by
  obtain ⟨h1, h2, h3, h4⟩ := h
  have hin : ∀ {x}, ch_inx (ch_rw g H.size) x → (ch_in x ∧ x ≠ (14, 0, 1)) ∨ x = (14, 0, 1) := fun {x} hx => by
    rcases hx with hx | hx
    · exact Or.inl ⟨hx, fun z => by
        rw [z] at hx
        exact absurd hx.1 (by decide)⟩
    · exact Or.inr hx
  have hlt : ∀ x, ch_in x → ch_adr g x < H.size := fun x hx => by
    have hc := h3 x (Or.inl hx)
    obtain ⟨ci, j, c⟩ := x
    cases c with
    | zero =>
      obtain ⟨r, hr, cell, q1, -⟩ := hc
      exact (Array.getElem?_eq_some_iff.mp q1).1
    | succ c =>
      have hc : H[ch_adr g (ci, j, c + 1)]? = some _ := hc
      exact (Array.getElem?_eq_some_iff.mp hc).1
  refine ⟨by show ch_lo g ≤ _; omega, fun q hq => ?_, fun x hx => ?_, fun x y hx hy e => ?_, fun x hx => ?_, fun j hj => ?_, fun x hx => ?_⟩
  · have hq' := (ch_rw_fx hxi hsz).mp hq
    have : q < (ch_H0 g).size := hq'.1
    exact (o1 q (by omega)).trans (h2 q hq')
  · rcases hin hx with ⟨hx1, hn⟩ | hx1
    · have hc := h3 x (Or.inl hx1)
      have hl := hlt x hx1
      obtain ⟨ci, j, c⟩ := x
      cases c with
      | zero =>
        obtain ⟨r, hr, hob⟩ := hc
        refine ⟨r, hr, ?_⟩
        rw [ch_rw_adr hn]
        have hob1 := hob.kept (o1 _ hl)
        refine hob1.to (fun k hk => ?_)
        unfold ch_gv
        cases hf : ch_rf ci k j with
        | none =>
          show Value.int (m (ci, j, 0) k) = Value.int (m_14 m (ci, j, 0) k)
          rw [m_14_ne hn]
        | some b =>
          show Value.ref (ch_adr g b) = Value.ref (ch_adr (ch_rw g H.size) b)
          rw [ch_rw_adr (ch_rf_14 hf)]
      | succ c =>
        have hc : H[ch_adr g (ci, j, c + 1)]? = some (arrV (ch_cA g (ch_ak ci (c + 1)).1) (ch_ak ci (c + 1)).2 (fun k => ch_ev g m (ci, j, c + 1) (ch_ak ci (c + 1)).1 k)) := hc
        show H1[ch_adr (ch_rw g H.size) (ci, j, c + 1)]? = some (arrV (ch_cA g (ch_ak ci (c + 1)).1) (ch_ak ci (c + 1)).2 (fun k => ch_ev (ch_rw g H.size) (m_14 m) (ci, j, c + 1) (ch_ak ci (c + 1)).1 k))
        rw [ch_rw_adr hn, o1 _ hl, hc]
        congr 2
        funext k
        unfold ch_ev
        rw [m_14_ne hn]
        split
        all_goals first
          | rfl
          | (rw [ch_rw_adr (fun z => absurd (show (1 : Nat) = 14 from congrArg Prod.fst z) (by decide))])
    · subst hx1
      show H1[ch_adr (ch_rw g H.size) (14, 0, 1)]? = some (arrV (ch_cA g 2) 9 (fun k => Value.long (ch_lw (m_14 m (14, 0, 1) (2 * k)) (m_14 m (14, 0, 1) (2 * k + 1)))))
      have f : (fun k => Value.long (ch_lw (m_14 m (14, 0, 1) (2 * k)) (m_14 m (14, 0, 1) (2 * k + 1)))) = fun _ => defaultValue (ch_ty 2) := by
        funext k
        have z : ∀ i, m_14 m (14, 0, 1) i = 0 := fun i => if_pos rfl
        rw [z, z, ch_lw_0]
        rfl
      rw [ch_rw_14, e1, f]
  · rcases hin hx with ⟨hx1, hn⟩ | hx1
    · rcases hin hy with ⟨hy1, hm⟩ | hy1
      · rw [ch_rw_adr hn, ch_rw_adr hm] at e
        exact h4.1 x y (Or.inl hx1) (Or.inl hy1) e
      · rw [ch_rw_adr hn, hy1, ch_rw_14] at e
        have := hlt x hx1
        omega
    · rcases hin hy with ⟨hy1, hm⟩ | hy1
      · rw [ch_rw_adr hm, hx1, ch_rw_14] at e
        have := hlt y hy1
        omega
      · rw [hx1, hy1]
  · rcases hin hx with ⟨hx1, hn⟩ | hx1
    · rw [ch_rw_adr hn]
      exact h4.2.1 x (Or.inl hx1)
    · rw [hx1, ch_rw_14]
      exact h1
  · exact absurd (show ((9, j, 0) : ch_Ad) = (14, 0, 1) from hj) (fun z => absurd (show (9 : Nat) = 14 from congrArg Prod.fst z) (by decide))
  · have hx : x = (14, 0, 1) := hx
    rw [hx]
    exact Or.inr rfl
