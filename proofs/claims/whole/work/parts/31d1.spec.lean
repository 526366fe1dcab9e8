/-- ahead in an order by values, the lower place first -/
def m_ah (v : Nat → Nat) (q c : Nat) : Prop := v c < v q ∨ (v q = v c ∧ q < c)
def m_ahB (v : Nat → Nat) (q c : Nat) : Bool := decide (v c < v q) || (decide (v q = v c) && decide (q < c))
theorem m_ahB_iff (v : Nat → Nat) (q c : Nat) : m_ahB v q c = true ↔ m_ah v q c := by
  unfold m_ahB m_ah
  simp
def m_rk (v : Nat → Nat) (c : Nat) : Nat → Nat
  | 0 => 0
  | n + 1 => if m_ahB v n c = true then m_rk v c n + 1 else m_rk v c n
theorem m_rk_le (v : Nat → Nat) (c n : Nat) : m_rk v c n + (if c < n then 1 else 0) ≤ n := by
  induction n with
  | zero => simp [m_rk]
  | succ n ih =>
    rw [m_rk]
    by_cases e : c = n
    · subst e
      have h0 : ¬ m_ahB v c c = true := fun z => by
        have := (m_ahB_iff v c c).mp z
        unfold m_ah at this
        omega
      rw [if_neg h0, if_pos (by omega)]
      rw [if_neg (by omega)] at ih
      omega
    · split
      · by_cases l : c < n
        · rw [if_pos l] at ih
          rw [if_pos (by omega)]
          omega
        · rw [if_neg l] at ih
          rw [if_neg (by omega)]
          omega
      · by_cases l : c < n
        · rw [if_pos l] at ih
          rw [if_pos (by omega)]
          omega
        · rw [if_neg l] at ih
          rw [if_neg (by omega)]
          omega
theorem m_rk_lt (v : Nat → Nat) {c d : Nat} (h : m_ah v c d) (n : Nat) : m_rk v c n + (if c < n then 1 else 0) ≤ m_rk v d n := by
  induction n with
  | zero => simp [m_rk]
  | succ n ih =>
    rw [m_rk, m_rk]
    have hi : m_ahB v n c = true → m_ahB v n d = true := fun z => by
      have z := (m_ahB_iff v n c).mp z
      refine (m_ahB_iff v n d).mpr ?_
      unfold m_ah at *
      omega
    have hc : n = c → ¬ m_ahB v n c = true ∧ m_ahB v n d = true := fun z => by
      subst z
      refine ⟨fun y => ?_, (m_ahB_iff v n d).mpr h⟩
      have y := (m_ahB_iff v n n).mp y
      unfold m_ah at y
      omega
    by_cases e : n = c
    · obtain ⟨h1, h2⟩ := hc e
      rw [if_neg h1, if_pos h2, if_pos (show c < n + 1 by omega)]
      rw [if_neg (by omega)] at ih
      omega
    · by_cases l : c < n
      · rw [if_pos l] at ih
        rw [if_pos (show c < n + 1 by omega)]
        by_cases z : m_ahB v n c = true
        · rw [if_pos z, if_pos (hi z)]
          omega
        · rw [if_neg z]
          split <;> omega
      · rw [if_neg l] at ih
        rw [if_neg (show ¬ c < n + 1 by omega)]
        by_cases z : m_ahB v n c = true
        · rw [if_pos z, if_pos (hi z)]
          omega
        · rw [if_neg z]
          split <;> omega
theorem m_rk_ne (v : Nat → Nat) {c d n : Nat} (hc : c < n) (hd : d < n) (h : c ≠ d) : m_rk v c n ≠ m_rk v d n := by
  have ht : m_ah v c d ∨ m_ah v d c := by
    unfold m_ah
    omega
  rcases ht with a | a
  · have := m_rk_lt v a n
    rw [if_pos hc] at this
    omega
  · have := m_rk_lt v a n
    rw [if_pos hd] at this
    omega
theorem m_rk_ex (v : Nat → Nat) {n p : Nat} (hn : n ≤ 5) (hp : p < n) : ∃ c, c < n ∧ m_rk v c n = p := by
  by_cases h : ∃ c, c < n ∧ m_rk v c n = p
  · exact h
  · exfalso
    have lt : ∀ c, c < n → m_rk v c n < n := fun c hc => by
      have := m_rk_le v c n
      rw [if_pos hc] at this
      omega
    have ne : ∀ c, c < n → m_rk v c n ≠ p := fun c hc z => h ⟨c, hc, z⟩
    obtain ⟨r, er⟩ : ∃ r : Nat → Nat, ∀ c, r c = if c < n then m_rk v c n else c := ⟨_, fun c => rfl⟩
    have r5 : ∀ c, c < 5 → r c < 5 := fun c hc => by
      rw [er]
      split
      · rename_i l
        have := lt c l
        omega
      · exact hc
    have rne : ∀ c d, c < d → d < 5 → r c ≠ r d := fun c d hcd hd => by
      rw [er, er]
      by_cases l : d < n
      · rw [if_pos l, if_pos (by omega)]
        exact m_rk_ne v (by omega) l (by omega)
      · rw [if_neg l]
        by_cases l2 : c < n
        · rw [if_pos l2]
          have := lt c l2
          omega
        · rw [if_neg l2]
          omega
    have rp : ∀ c, c < 5 → r c ≠ p := fun c hc => by
      rw [er]
      by_cases l : c < n
      · rw [if_pos l]
        exact ne c l
      · rw [if_neg l]
        omega
    exact m_pig (r 0) (r 1) (r 2) (r 3) (r 4) p (r5 0 (by omega)) (r5 1 (by omega)) (r5 2 (by omega)) (r5 3 (by omega)) (r5 4 (by omega)) (by omega) (rne 0 1 (by omega) (by omega)) (rne 0 2 (by omega) (by omega)) (rne 0 3 (by omega) (by omega)) (rne 0 4 (by omega) (by omega)) (rne 1 2 (by omega) (by omega)) (rne 1 3 (by omega) (by omega)) (rne 1 4 (by omega) (by omega)) (rne 2 3 (by omega) (by omega)) (rne 2 4 (by omega) (by omega)) (rne 3 4 (by omega) (by omega)) (rp 0 (by omega)) (rp 1 (by omega)) (rp 2 (by omega)) (rp 3 (by omega)) (rp 4 (by omega))
theorem y_ms_n {T : Nat} {Y : ch_B} (hT : T ≤ 2 ^ 30) (hi : y_inv T Y) (w : Int32) : ∃ v : Nat → Nat, ∀ c, c < 5 → v c < 2 ^ 30 ∧ y_ms Y (nI c) w = nI (v c) := by
  refine ⟨fun c => (y_ms Y (nI c) w).toNatClampNeg, fun c hc => ?_⟩
  have : ∃ v, v < 2 ^ 30 ∧ y_ms Y (nI c) w = nI v := by
    unfold y_ms
    rw [nI_clamp (by omega)]
    split
    · obtain ⟨v, hv, ev⟩ := vp_in_of (y_i3 hi hc) (by decide)
      exact ⟨v, by omega, ev⟩
    · split
      · obtain ⟨v, hv, ev⟩ := ch_cnO_nn (Y 1) (nI c) 12
        exact ⟨v, by omega, ev⟩
      · split
        · obtain ⟨v, hv, ev⟩ := vp_in_of (y_i4 hi hc) (by omega)
          exact ⟨v, by omega, ev⟩
        · obtain ⟨v, hv, ev⟩ := vp_in_of (y_i5 hi hc) (by decide)
          exact ⟨v, by omega, ev⟩
  obtain ⟨v, hv, ev⟩ := this
  dsimp only
  rw [ev, nI_clamp (by omega)]
  exact ⟨hv, rfl⟩
theorem y_ca_n {Y : ch_B} {w : Int32} {v : Nat → Nat} (hv : ∀ c, c < 5 → v c < 2 ^ 30 ∧ y_ms Y (nI c) w = nI (v c)) {c : Nat} (hc : c < 5) (n : Nat) : n ≤ 5 → y_ca Y (nI c) w n = nI (m_rk v c n) := by
  induction n with
  | zero => exact fun _ => rfl
  | succ n ih =>
    intro hn
    obtain ⟨v1, e1⟩ := hv c hc
    obtain ⟨v2, e2⟩ := hv n (by omega)
    rw [y_ca, m_rk, e1, e2, ih (by omega)]
    by_cases a : v c < v n
    · rw [if_pos (nI_lt a (by omega)), if_pos ((m_ahB_iff v n c).mpr (Or.inl a)), nI_1]
    · rw [if_neg (nI_nlt (by omega) (by omega))]
      by_cases b : v n = v c
      · rw [b, if_neg (fun z => z rfl)]
        by_cases l : c ≤ n
        · rw [if_pos (nI_le l (by omega)), if_neg (fun z => by
            have := (m_ahB_iff v n c).mp z
            unfold m_ah at this
            omega)]
        · rw [if_neg (nI_ge (by omega) (by omega)), if_pos ((m_ahB_iff v n c).mpr (Or.inr ⟨b, by omega⟩)), nI_1]
      · rw [if_pos (fun z => b ((nI_eq (by omega) (by omega)).mp z)), if_neg (fun z => by
          have := (m_ahB_iff v n c).mp z
          unfold m_ah at this
          omega)]
theorem x_rk_at {Y : ch_B} {w p : Int32} {c : Nat} (k : Nat) (hc : c < k) (h1 : y_ca Y (nI c) w (Y 0 8).toNatClampNeg = p) (h2 : ∀ d, d < k → d ≠ c → ¬ y_ca Y (nI d) w (Y 0 8).toNatClampNeg = p) : x_rk Y w p k = nI c := by
  induction k with
  | zero => omega
  | succ k ih =>
    rw [x_rk]
    by_cases e : c = k
    · subst e
      rw [if_pos h1]
    · rw [if_neg (h2 k (by omega) (fun z => e z.symm))]
      exact ih (by omega) (fun d hd => h2 d (by omega))
set_option maxHeartbeats 1600000 in
theorem s_m_ranked (g : ch_G) (q : Int32 → ch_M → Prop) (T_ : Nat) (Y_ : ch_B) (p1 : Int32) (p2 : Int32) (m : ch_M) (h : (m_rel Y_ (m (9, 0, 1))) ∧ (y_inv T_ Y_) ∧ (T_ ≤ 2 ^ 30) ∧ (((0 ≤ p1 ∧ p1 ≤ 3) ∧ 0 ≤ p2 ∧ p2 < Y_ 0 8) → q (x_rk Y_ p1 p2 (Int32.toNatClampNeg (Y_ 0 8))) (ch_wr m (9, 0, 0) 19 0)) ∧ ((¬ (0 ≤ p1 ∧ p1 ≤ 3)) → q 0 (ch_wr m (9, 0, 0) 19 1)) ∧ (((0 ≤ p1 ∧ p1 ≤ 3) ∧ ¬ (0 ≤ p2 ∧ p2 < Y_ 0 8)) → q 0 (ch_wr m (9, 0, 0) 19 2))) : ch_C g m_m_ranked [.inr (9, 0, 0), .inl (.int p1), .inl (.int p2)] m (ch_oi q) := by
  refine e_m_ranked g _ p1 p2 m ?_
  obtain ⟨hr, hi, hT, ha, hb, hc⟩ := h
  obtain ⟨n, hn, en⟩ := vp_in_of (y_i8 hi) (by decide)
  have cn : (Y_ 0 8).toNatClampNeg = n := by rw [en, nI_clamp (by omega)]
  have e0 : m (9, 0, 1) 0 = nI n := (m_co hr).trans en
  refine g_m_ranked_0 g _ _ _ _ ?_
  simp only [forall_eq, ch_oi_iff, ch_wr_wr]
  refine ⟨fun c => ?_, fun c => hb c⟩
  obtain ⟨w, hw, ew⟩ := vp_in_of (ch_vp (x := p1) (n := 4) (by decide) (by have := c.1; grind) (by
    have h1 := c.2
    intro z
    exact absurd (Int32.le_trans z h1) (by decide))) (by decide)
  have hv4 : vp_in p1 4 := by rw [ew]; exact vp_in_nI hw (by decide)
  obtain ⟨v, hv⟩ := y_ms_n hT hi p1
  have key1 : ∀ c1, c1 ≤ n → (∀ d, d < c1 → ¬ y_ca Y_ (nI d) p1 n = p2) → ∀ o4 o5 o6, ch_J g m_m_ranked (ch_rm m_m_ranked) (ch_E g m_m_ranked (ch_oi q)) 22 [some (.inr (9, 0, 0)), some (.inl (.int p1)), some (.inl (.int p2)), some (.inl (.int (nI c1))), o4, o5, o6] [] (ch_wr m (9, 0, 0) 19 0) 0 := by
    refine ch_down _ n ?_ ?_
    · intro hno o4 o5 o6
      refine g_m_ranked_22 g _ _ _ _ _ _ _ _ ?_
      simp only [forall_eq, ch_oi_iff, ch_wr_wr, m_w1, e0]
      refine ⟨fun _ => hc ⟨c, fun z => ?_⟩, fun z => absurd (nI_le (Nat.le_refl _) (by omega)) z⟩
      rw [en] at z
      obtain ⟨p, hp, ep⟩ := vp_in_of (ch_vp (x := p2) (n := n) (by omega) (by have := z.1; grind) (by have := z.2; grind)) (by omega)
      obtain ⟨d, hd, ed⟩ := m_rk_ex v (by omega) hp
      exact hno d hd (by rw [y_ca_n hv (by omega) n (by omega), ed, ep])
    · intro c1 hc1 ih hno o4 o5 o6
      obtain ⟨a1, a2, a3, a4⟩ := ch_kn hc1 (by omega)
      have key2 : ∀ k, k ≤ n → ∀ o6, ch_J g m_m_ranked (ch_rm m_m_ranked) (ch_E g m_m_ranked (ch_oi q)) 38 [some (.inr (9, 0, 0)), some (.inl (.int p1)), some (.inl (.int p2)), some (.inl (.int (nI c1))), some (.inl (.int (y_ca Y_ (nI c1) p1 k))), some (.inl (.int (nI k))), o6] [] (ch_wr m (9, 0, 0) 19 0) 0 := by
        refine ch_down _ n ?_ ?_
        · intro o6
          refine g_m_ranked_38 g _ _ _ _ _ _ _ _ ?_
          simp only [ch_oi_iff, m_w1, e0, a4]
          refine ⟨fun _ => ⟨fun d => ?_, fun d => ?_⟩, fun z => absurd (nI_le (Nat.le_refl _) (by omega)) z⟩
          · exact ih (fun e he => by
              by_cases l : e = c1
              · rw [l]; exact d
              · exact hno e (by omega)) _ _ _
          · have hp : 0 ≤ p2 ∧ p2 < Y_ 0 8 := by
              have hl := m_rk_le v c1 n
              rw [if_pos hc1] at hl
              rw [← d, y_ca_n hv (by omega) n (by omega), en]
              exact ⟨nI_pos' (by omega), nI_lt (by omega) (by omega)⟩
            have ha := ha ⟨c, hp⟩
            rw [cn, x_rk_at n hc1 (by rw [cn]; exact d) (fun e he hne => by
              rw [cn, ← d, y_ca_n hv (by omega) n (by omega), y_ca_n hv (by omega) n (by omega)]
              intro z
              have l1 := m_rk_le v e n
              have l2 := m_rk_le v c1 n
              exact m_rk_ne v he hc1 hne ((nI_eq (by omega) (by omega)).mp z))] at ha
            exact ha
        · intro k hk ih2 o6
          obtain ⟨b1, b2, b3, b4⟩ := ch_kn hk (by omega)
          obtain ⟨v1, e1⟩ := hv c1 (by omega)
          obtain ⟨v2, e2⟩ := hv k (by omega)
          refine g_m_ranked_38 g _ _ _ _ _ _ _ _ ?_
          simp only [m_w1, e0, b4]
          refine ⟨fun z => absurd z b1, fun _ => ⟨Y_, hr, vp_in_nI (by omega) (by decide), hv4, Y_, hr, vp_in_nI (by omega) (by decide), ?_⟩⟩
          rw [y_ca] at ih2
          have es : (y_ms Y_ (nI k) p1 - y_ms Y_ (nI c1) p1).toInt = (v k : Int) - v c1 := by rw [e1, e2]; exact pk_sub_toInt v2 v1
          have z0 : (0 : Int32).toInt = 0 := by decide
          refine ⟨fun d => ?_, fun d => ⟨fun e => ?_, fun e => ⟨fun f => ?_, fun f => ?_⟩⟩⟩
          · rw [Int32.lt_iff_toInt_lt, es, z0] at d
            rw [if_pos (by rw [e1, e2]; exact nI_lt (by omega) (by omega))] at ih2
            exact ih2 _
          · rw [Int32.lt_iff_toInt_lt, es, z0] at d
            have hne : v k ≠ v c1 := fun z => e (by rw [e1, e2, z]; grind)
            rw [if_neg (by rw [e1, e2]; exact nI_nlt (by omega) (by omega)), if_pos (by rw [e1, e2]; exact fun z => hne ((nI_eq (by omega) (by omega)).mp z))] at ih2
            exact ih2 _
          · rw [Int32.lt_iff_toInt_lt, es, z0] at d
            have heq : v k = v c1 := by
              have := congrArg Int32.toInt e
              rw [es, z0] at this
              omega
            rw [if_neg (by rw [e1, e2]; exact nI_nlt (by omega) (by omega)), if_neg (by rw [e1, e2, heq]; exact fun z => z rfl), if_pos f] at ih2
            exact ih2 _
          · rw [Int32.lt_iff_toInt_lt, es, z0] at d
            have heq : v k = v c1 := by
              have := congrArg Int32.toInt e
              rw [es, z0] at this
              omega
            rw [if_neg (by rw [e1, e2]; exact nI_nlt (by omega) (by omega)), if_neg (by rw [e1, e2, heq]; exact fun z => z rfl), if_neg f] at ih2
            exact ih2 _
      refine g_m_ranked_22 g _ _ _ _ _ _ _ _ ?_
      simp only [m_w1, e0]
      exact ⟨fun z => absurd z a1, fun _ => key2 0 (by omega) o6⟩
  exact key1 0 (by omega) (fun d hd => absurd hd (by omega)) none none none
