theorem cb_y0 {Y : ch_B} (h1 : ∀ i, i < 12 → Y 1 i = -1) (hz : ∀ a i, a ≠ 1 → Y a i = 0) : y_inv 1 Y := by
  have i0 : ∀ n, 0 < n → n < 2 ^ 31 → vp_in 0 n := fun n h1 h2 => vp_in_nI (n := 0) h1 h2
  have c0 : (0 : Int32).toNatClampNeg = 0 := by decide
  unfold y_inv y_tot
  rw [hz 0 8 (by decide), hz 0 9 (by decide), hz 0 10 (by decide), hz 0 11 (by decide), hz 3 0 (by decide), hz 3 1 (by decide), hz 3 2 (by decide), hz 3 3 (by decide), hz 3 4 (by decide), c0]
  refine ⟨⟨i0 6 (by decide) (by decide), i0 6 (by decide) (by decide), fun k hk => ?_⟩, fun q hq => ⟨?_, Or.inl ⟨h1 q hq, hz 2 q (by decide)⟩⟩, fun c hc => ⟨?_, ?_, ?_⟩, fun c _ _ => ⟨hz 3 c (by decide), hz 4 c (by decide), hz 5 c (by decide), hz 6 c (by decide), hz 7 c (by decide)⟩, ⟨fun c hc => ⟨fun z => absurd (hz 5 c (by decide)) z, fun ⟨k, hk, _⟩ => absurd hk (by omega)⟩, fun i j _ hj => absurd hj (by omega)⟩, by omega, by omega, i0 496 (by decide) (by decide), i0 496 (by decide) (by decide)⟩
  · rw [hz 8 k (by decide)]; exact i0 5 (by decide) (by decide)
  · rw [hz 2 q (by decide)]; exact i0 10 (by decide) (by decide)
  · rw [hz 3 c (by decide)]; exact i0 496 (by decide) (by decide)
  · rw [hz 4 c (by decide)]; exact i0 1 (by decide) (by decide)
  · rw [hz 5 c (by decide)]; exact i0 10 (by decide) (by decide)
def e_0 : a_G := (1, 0, (fun _ => e_Y 0 0), ((0 : Int32), e_Y 0 0), (0 : Int32))
theorem cb_W0 : a_W e_0 (e_Y 0 0) (0, 0, 0) cb_M := by
  have hY : y_inv 1 (ch_ob cb_M 1 0) := by
    refine cb_y0 (fun i hi => if_pos (Or.inl ⟨rfl, rfl, hi⟩)) (fun a i ha => if_neg ?_)
    rintro (⟨-, z, -⟩ | ⟨z, -⟩ | ⟨z, -⟩)
    · exact ha z
    · exact absurd (show (1 : Nat) = 0 from z) (by decide)
    · exact absurd (show (1 : Nat) = 9 from z) (by decide)
  have hZ : ∀ c j a i, c ≠ 0 → c ≠ 1 → c ≠ 9 → cb_M (c, j, a) i = 0 := fun c j a i h1 h2 h3 => if_neg (by rintro (⟨z, -⟩ | ⟨z, -⟩ | ⟨z, -⟩) <;> first | exact h1 z | exact h2 z | exact h3 z)
  have hsm : y_sm (e_Y 0 0) (ch_ob cb_M 1 0) := fun c k e => by
    have hc : c = 1 ∨ c ≠ 1 := by omega
    rcases hc with hc | hc
    · subst hc
      have hk : k < 12 := by
        rcases y_rl.mp e with z | z | z <;> omega
      show cb_M (1, 0, 1) k = _
      refine (if_pos (Or.inl ⟨rfl, rfl, hk⟩)).trans ?_
      show (-1 : Int32) = if k < 0 then (0 : Int32) else -1
      rw [if_neg (by omega)]
    · have e0 : ch_ob cb_M 1 0 c k = 0 := by
        refine if_neg ?_
        rintro (⟨-, z, -⟩ | ⟨z, -⟩ | ⟨z, -⟩)
        · exact hc z
        · exact absurd (show (1 : Nat) = 0 from z) (by decide)
        · exact absurd (show (1 : Nat) = 9 from z) (by decide)
      rw [e0]
      unfold e_Y
      by_cases c0 : c = 0
      · rw [if_pos c0]
        split
        · rfl
        · split
          · rfl
          · split
            · rw [if_pos rfl]
            · rfl
      · rw [if_neg c0, if_neg hc]
        split
        · rw [if_neg (by omega)]
        · split
          · split
            · rw [if_pos rfl]
            · rw [if_neg (by omega)]
          · rfl
  have i0 : ∀ n, 0 < n → n < 2 ^ 31 → vp_in 0 n := fun n h1 h2 => vp_in_nI (n := 0) h1 h2
  refine ⟨⟨hY, ⟨by rw [hZ 6 1 0 1 (by decide) (by decide) (by decide)]; exact i0 61 (by decide) (by decide), fun i hi => by rw [hZ 6 1 1 i (by decide) (by decide) (by decide)]; decide⟩, ⟨⟨Nat.zero_le _, 0, by decide, hZ 2 0 0 1 (by decide) (by decide) (by decide), hZ 2 0 0 2 (by decide) (by decide) (by decide), fun k hk => absurd hk (Nat.not_lt_zero _)⟩, fun k hk => absurd hk (Nat.not_lt_zero _)⟩, ⟨?_, fun z => absurd rfl z⟩, hZ 6 0 0 1 (by decide) (by decide) (by decide), by rw [hZ 5 0 0 1 (by decide) (by decide) (by decide)]; exact i0 13 (by decide) (by decide)⟩, ⟨rfl, by decide, by decide⟩, hsm, hZ 3 0 0 0 (by decide) (by decide) (by decide), hZ 3 0 0 1 (by decide) (by decide) (by decide), hZ 3 0 0 2 (by decide) (by decide) (by decide)⟩
  show cb_M (0, 0, 0) 12 = 0
  decide
