/-! the law's loop -/
theorem lw_len {L t : Nat} (hL : L ≤ 2048) (ht : t ≤ 512) : (Int32.ofNat L - 4 < nI (4 * t) ↔ L < 4 * t + 4) := by
  have e1 : (nI (4 * t)).toInt = (4 * t : Nat) := nI_toInt (by omega)
  have e2 : (Int32.ofNat L).toInt = (L : Nat) := nI_toInt (n := L) (by omega)
  have e3 : (Int32.ofNat L - 4).toInt = (L : Int) - 4 := by
    rw [Int32.toInt_sub, e2]
    show Int.bmod ((L : Int) - 4) (2 ^ 32) = (L : Int) - 4
    rw [Int.bmod_eq_of_le (by omega) (by omega)]
  rw [Int32.lt_iff_toInt_lt, e1, e3]
  omega
theorem lw_loop {g : ch_G} {E : ch_En} (hL : (ch_scr g).2.1 ≤ 2048) (hend : ∀ (m : ch_M) (k : Nat) (ls : ch_LT), k ≤ 4000 → ch_J g m_l_law room_1 E 2103 ls [.inl (.int 1)] m k) : ∀ (n t k : Nat) (o6 o7 o8 o9 : Option ch_V) (m : ch_M), t + n = 512 → k ≤ 2000 + 2 * t → lw_inv (1 + 800 * t) m → ch_J g m_l_law room_1 E 28 (lw_L (nI (4 * t)) o6 o7 o8 o9) [] m k := by
  have hR : ch_RR room_1 18 := ⟨by decide, by decide⟩
  have hcs : ∀ k, k ≤ 4000 → k + 40 ≤ room_1.cells ∧ 6 * k + 240 ≤ room_1.slots := fun k hk => by
    have a : 4040 ≤ room_1.cells := Nat.le_of_ble_eq_true rfl
    have b : 24240 ≤ room_1.slots := Nat.le_of_ble_eq_true rfl
    exact ⟨by omega, by omega⟩
  intro n
  induction n with
  | zero =>
    intro t k o6 o7 o8 o9 m ht hk h
    refine g_l_law_28 g room_1 E k hR (hcs k (by omega)) (nI (4 * t)) o6 o7 o8 o9 m ⟨fun _ => hend _ _ _ (by omega), fun z => absurd ((lw_len hL (by omega)).mpr (by omega)) z⟩
  | succ n ih =>
    intro t k o6 o7 o8 o9 m ht hk h
    refine g_l_law_28 g room_1 E k hR (hcs k (by omega)) (nI (4 * t)) o6 o7 o8 o9 m ⟨fun _ => hend _ _ _ (by omega), fun z => ?_⟩
    have hlt : 4 * t + 4 ≤ (ch_scr g).2.1 := by
      by_cases y : (ch_scr g).2.1 < 4 * t + 4
      · exact absurd ((lw_len hL (by omega)).mpr y) z
      · omega
    have hx : ∀ j, j < 4 → vp_in (nI (4 * t + j)) (ch_scr g).2.1 := fun j hj => vp_in_nI (by omega) (by omega)
    have hx0 := hx 0 (by omega)
    have hx1 : vp_in (nI (4 * t) + 1) (ch_scr g).2.1 := by
      rw [nI_1]
      exact hx 1 (by omega)
    have hx2 : vp_in (nI (4 * t) + 2) (ch_scr g).2.1 := by
      rw [show (2 : Int32) = nI 2 from rfl, nI_add]
      exact hx 2 (by omega)
    have hx3 : vp_in (nI (4 * t) + 3) (ch_scr g).2.1 := by
      rw [show (3 : Int32) = nI 3 from rfl, nI_add]
      exact hx 3 (by omega)
    have hn : lw_N g room_1 E (nI (4 * t)) k (1 + 800 * t + 800) := by
      intro m' k' p6 p7 p8 p9 h' hk'
      refine g_l_law_2096 g room_1 E k' hR (hcs k' (by omega)) (nI (4 * t)) p6 p7 p8 p9 m' ?_
      have := ih (t + 1) k' p6 p7 p8 p9 m' (by omega) (by omega) (by rw [show 1 + 800 * (t + 1) = 1 + 800 * t + 800 by omega]; exact h')
      rw [show 4 * (t + 1) = 4 * t + 4 by omega, ← nI_add] at this
      exact this
    have hT : 1 + 800 * t + 800 < 2 ^ 30 := by omega
    have hT0 : 0 < 1 + 800 * t := by omega
    have hc := hcs k (by omega)
    exact ⟨hx0, fun _ => lw_c208 g room_1 E k hR hc _ _ hT hT0 hx1 hx2 hx3 hn _ _ _ _ _ h, fun _ => lw_c264 g room_1 E k hR hc _ _ hT hT0 hx1 hx2 hx3 hn _ _ _ _ _ h, fun _ => lw_c332 g room_1 E k hR hc _ _ hT hT0 hx1 hx2 hx3 hn _ _ _ _ _ h, fun _ => lw_c400 g room_1 E k hR hc _ _ hT hT0 hx1 hx2 hx3 hn _ _ _ _ _ h, fun _ => lw_c456 g room_1 E k hR hc _ _ hT hT0 hx1 hx2 hx3 hn _ _ _ _ _ h, fun _ => lw_c512 g room_1 E k hR hc _ _ hT hT0 hx1 hx2 hx3 hn _ _ _ _ _ h, fun _ => lw_c568 g room_1 E k hR hc _ _ hT hT0 hx1 hx2 hx3 hn _ _ _ _ _ h, fun _ => lw_c612 g room_1 E k hR hc _ _ hT hT0 hx1 hx2 hx3 hn _ _ _ _ _ h, fun _ => lw_c692 g room_1 E k hR hc _ _ hT hT0 hx1 hx2 hx3 hn _ _ _ _ _ h, fun _ => lw_c776 g room_1 E k hR hc _ _ hT hT0 hx1 hx2 hx3 hn _ _ _ _ _ h, fun _ => lw_c844 g room_1 E k hR hc _ _ hT hT0 hx1 hx2 hx3 hn _ _ _ _ _ h, fun _ => lw_c900 g room_1 E k hR hc _ _ hT hT0 hx1 hx2 hx3 hn _ _ _ _ _ h, fun _ => lw_c956 g room_1 E k hR hc _ _ hT hT0 hx1 hx2 hx3 hn _ _ _ _ _ h, fun _ => lw_c1012 g room_1 E k hR hc _ _ hT hT0 hx1 hx2 hx3 hn _ _ _ _ _ h, fun _ => lw_c1068 g room_1 E k hR hc _ _ hT hT0 hx1 hx2 hx3 hn _ _ _ _ _ h, fun _ => lw_c1136 g room_1 E k hR hc _ _ hT hT0 hx1 hx2 hx3 hn _ _ _ _ _ h, fun _ => lw_c1204 g room_1 E k hR hc _ _ hT hT0 hx1 hx2 hx3 hn _ _ _ _ _ h, fun _ => lw_c1260 g room_1 E k hR hc _ _ hT hT0 hx1 hx2 hx3 hn _ _ _ _ _ h, fun _ => lw_c1273 g room_1 E k hR hc _ _ hT hT0 hx1 hx2 hx3 hn _ _ _ _ _ h, fun _ => lw_c1329 g room_1 E k hR hc _ _ hT hT0 hx1 hx2 hx3 hn _ _ _ _ _ h, fun _ => lw_c1385 g room_1 E k hR hc _ _ hT hT0 hx1 hx2 hx3 hn _ _ _ _ _ h, fun _ => lw_c1441 g room_1 E k hR hc _ _ hT hT0 hx1 hx2 hx3 hn _ _ _ _ _ h, fun _ => lw_c1497 g room_1 E k hR hc _ _ hT hT0 hx1 hx2 hx3 hn _ _ _ _ _ h, fun _ => lw_c1565 g room_1 E k hR hc _ _ hT hT0 hx1 hx2 hx3 hn _ _ _ _ _ h, fun _ => lw_c1578 g room_1 E k hR hc _ _ hT hT0 hx1 hx2 hx3 hn _ _ _ _ _ h, fun _ => lw_c1636 g room_1 E k hR hc _ _ hT hT0 hx1 hx2 hx3 hn _ _ _ _ _ h, fun _ => lw_c1680 g room_1 E k hR hc _ _ hT hT0 hx1 hx2 hx3 hn _ _ _ _ _ h, fun _ => lw_c1693 g room_1 E k hR hc _ _ hT hT0 hx1 hx2 hx3 hn _ _ _ _ _ h, fun _ => lw_c1749 g room_1 E k hR hc _ _ hT hT0 hx1 hx2 hx3 hn _ _ _ _ _ h, fun _ => lw_c1762 g room_1 E k hR hc _ _ hT hT0 hx1 hx2 hx3 hn _ _ _ _ _ h, fun _ => lw_c1775 g room_1 E k hR hc _ _ hT hT0 hx1 hx2 hx3 hn _ _ _ _ _ h, fun _ => lw_c1831 g room_1 E k hR hc _ _ hT hT0 hx1 hx2 hx3 hn _ _ _ _ _ h, fun _ => lw_c1896 g room_1 E k hR hc _ _ hT hT0 hx1 hx2 hx3 hn _ _ _ _ _ h, fun _ => lw_c1939 g room_1 E k hR hc _ _ hT hT0 hx1 hx2 hx3 hn _ _ _ _ _ h, fun _ => lw_c1995 g room_1 E k hR hc _ _ hT hT0 hx1 hx2 hx3 hn _ _ _ _ _ h, fun _ => lw_c2039 g room_1 E k hR hc _ _ hT hT0 hx1 hx2 hx3 hn _ _ _ _ _ h, fun _ => lw_c2052 g room_1 E k hR hc _ _ hT hT0 hx1 hx2 hx3 hn _ _ _ _ _ h, fun _ => hn _ _ _ _ _ _ (lw_inv_mono h (by omega) (by omega)) (by omega)⟩
