def l_dg (x : Int32) (j : Nat) : Int32 := s_rr x j - s_rr x j / 10 * 10
theorem s_rw_at (B : ch_B) (x : Int32) {j : Nat} : ∀ n, j < n → n ≤ 9 → s_rw B x n 1 (8 - j) = l_dg x j := by
  intro n
  induction n with
  | zero => intro h; omega
  | succ n ih =>
    intro h hn
    rw [s_rw]
    by_cases e : j = n
    · rw [e, ch_bw_at]
      rfl
    · rw [ch_bw_k (by omega)]
      exact ih (by omega) (by omega)
/-- the digits that steps have, by place -/
def l_fd (x : Int32) : Nat → Int32 := fun k => l_dg x (s_rn x - 1 - k)
theorem s_rf_at (B : ch_B) (x : Int32) {k : Nat} (hk : k < s_rc x) : s_rf B x k = l_fd x k := by
  obtain ⟨h1, h2⟩ := s_rc_le x
  unfold s_rf
  rw [if_pos hk, show 9 - s_rn x + k = 8 - (s_rn x - 1 - k) by omega]
  exact s_rw_at B x _ (by omega) h2
theorem s_ok_cg {f f' : Nat → Int32} : ∀ n, (∀ k, k < n → f k = f' k) → s_ok f n = s_ok f' n := by
  intro n
  induction n with
  | zero => intro _; rfl
  | succ n ih =>
    intro h
    rw [s_ok, s_ok, ih (fun k hk => h k (by omega)), h n (by omega)]
theorem ch_ps_cg {f f' : Nat → Int32} : ∀ n, (∀ k, k < n → f k = f' k) → ch_ps f n = ch_ps f' n := by
  intro n
  induction n with
  | zero => intro _; rfl
  | succ n ih =>
    intro h
    rw [ch_ps, ch_ps, ih (fun k hk => h k (by omega)), h n (by omega)]
theorem y_mfO_cg {f f' : Nat → Int32} : ∀ n, (∀ k, k < n → f k = f' k) → y_mfO f n = y_mfO f' n := by
  intro n
  induction n with
  | zero => intro _; rfl
  | succ n ih =>
    intro h
    rw [y_mfO, y_mfO, ih (fun k hk => h k (by omega)), ch_ps_cg n (fun k hk => h k (by omega))]
theorem y_mf_cg {f f' : Nat → Int32} {n : Nat} (h : ∀ k, k < n → f k = f' k) : y_mf f n = y_mf f' n := by
  unfold y_mf
  rw [y_mfO_cg n h, ch_ps_cg n h]
/-- how many steps a number has, and where they end -/
def l_hn (x : Int32) : Int32 := if s_ok (l_fd x) (s_rc x) = true then nI (s_rc x) else 0
def l_hm (x : Int32) : Int32 := y_mf (l_fd x) (l_hn x).toNatClampNeg
theorem s_hn (B : ch_B) (x : Int32) : s_rfB B x 0 1 = l_hn x := by
  have e : s_rfB B x 0 1 = if s_ok (s_rf B x) (s_rc x) = true then nI (s_rc x) else 0 := rfl
  rw [e, s_ok_cg (s_rc x) (fun k hk => s_rf_at B x hk)]
  rfl
theorem s_hm (B : ch_B) (x : Int32) : y_mf (s_rf B x) (l_hn x).toNatClampNeg = l_hm x := by
  obtain ⟨h1, h2⟩ := s_rc_le x
  refine y_mf_cg (fun k hk => s_rf_at B x ?_)
  unfold l_hn at hk
  by_cases c : s_ok (l_fd x) (s_rc x) = true
  · rw [if_pos c, nI_clamp (by omega)] at hk
    exact hk
  · rw [if_neg c] at hk
    have : Int32.toNatClampNeg 0 = 0 := by decide
    omega
theorem r_wh_x (Y : ch_B) (c : Int32) (B : ch_B) (x : Int32) : r_wh Y c (s_rf B x) (s_rfB B x 0 1) = if 0 ≤ c ∧ c < Y 0 8 then (if Y 5 c.toNatClampNeg ≤ 0 then (if l_hn x = 0 then (1, 0) else if l_hm x = -1 then (0, 0) else (8, l_hm x)) else (7, Y 5 c.toNatClampNeg)) else (3, Y 0 8) := by
  unfold r_wh
  rw [s_hn, s_hm]
def l_gd (x : Int32) : Bool := !decide (l_hn x = 0) && decide (l_hm x = -1)
/-- what the loop reaches -/
def l_lv : Nat → List (Int32 × Int32)
  | 0 => [(-1, 0)]
  | n + 1 => (l_lv n).flatMap (fun p => if 11 ≤ p.1 then [] else (if 3 < n then [3] else [1, 2, 3]).map (fun s => (p.1 + s, 10 * p.2 + s)))
theorem l_lv_7 : (l_lv 7).all (fun p => decide (11 ≤ p.1)) = true := by decide +kernel
theorem l_lv_gd : (List.range 8).all (fun n => (l_lv n).all (fun p => !decide (11 ≤ p.1) || l_gd p.2)) = true := by decide +kernel
theorem l_rem (v n : Int32) (hn : 0 < n.toInt) : (v - v / n * n).toInt = v.toInt.tmod n.toInt := by
  have hv1 := Int32.le_toInt v
  have hv2 := Int32.toInt_lt v
  have hn2 := Int32.toInt_lt n
  have hd := Int.mul_tdiv_add_tmod v.toInt n.toInt
  have e1 : v.toInt - v.toInt.tdiv n.toInt * n.toInt = v.toInt.tmod n.toInt := by
    rw [Int.mul_comm] at hd
    omega
  have b1 : v.toInt.tmod n.toInt < n.toInt := Int.tmod_lt_of_pos _ hn
  have b2 : - n.toInt < v.toInt.tmod n.toInt := Int.lt_tmod_of_pos _ hn
  rw [Int32.toInt_sub, Int32.toInt_mul, Int32.toInt_div, Int.bmod_mul_bmod, Int.sub_bmod_bmod, e1]
  rw [Int.bmod_eq_of_le (by omega) (by omega)]
theorem l_sm_in (v n : Int32) (hn : 0 < n.toInt) : 0 ≤ (l_sm v n).toInt ∧ (l_sm v n).toInt < n.toInt := by
  have hv1 := Int32.le_toInt v
  have hv2 := Int32.toInt_lt v
  have hn2 := Int32.toInt_lt n
  have b1 : v.toInt.tmod n.toInt < n.toInt := Int.tmod_lt_of_pos _ hn
  have b2 : - n.toInt < v.toInt.tmod n.toInt := Int.lt_tmod_of_pos _ hn
  have e := l_rem v n hn
  unfold l_sm
  by_cases c : 0 ≤ v - v / n * n
  · rw [if_pos c, e]
    have := Int32.le_iff_toInt_le.mp c
    rw [e] at this
    have e0 : (0 : Int32).toInt = 0 := by decide
    omega
  · rw [if_neg c, Int32.toInt_add, e]
    have : ¬ (0 : Int32).toInt ≤ (v - v / n * n).toInt := fun z => c (Int32.le_iff_toInt_le.mpr z)
    rw [e] at this
    have e0 : (0 : Int32).toInt = 0 := by decide
    rw [Int.bmod_eq_of_le (by omega) (by omega)]
    omega
theorem l_sm_lt (v n : Int32) (hn : 0 < n.toInt) : 0 ≤ l_sm v n ∧ l_sm v n < n := by
  obtain ⟨h1, h2⟩ := l_sm_in v n hn
  have e0 : (0 : Int32).toInt = 0 := by decide
  exact ⟨Int32.le_iff_toInt_le.mpr (by omega), Int32.lt_iff_toInt_lt.mpr h2⟩
theorem l_sm3 (v : Int32) : l_sm v 3 = 0 ∨ l_sm v 3 = 1 ∨ l_sm v 3 = 2 := by
  obtain ⟨h1, h2⟩ := l_sm_in v 3 (by decide)
  have e3 : (3 : Int32).toInt = 3 := by decide
  rw [e3] at h2
  have : (l_sm v 3).toInt = 0 ∨ (l_sm v 3).toInt = 1 ∨ (l_sm v 3).toInt = 2 := by omega
  rcases this with e | e | e
  · exact Or.inl (Int32.toInt_inj.mp (e.trans (by decide)))
  · exact Or.inr (Or.inl (Int32.toInt_inj.mp (e.trans (by decide))))
  · exact Or.inr (Or.inr (Int32.toInt_inj.mp (e.trans (by decide))))
set_option maxHeartbeats 1600000 in
theorem s_l_steps (g : ch_G) (q : Int32 → ch_M → Prop) (p0 : Int32) (m : ch_M) (h : (∀ (R_ : Int32), (l_gd R_ = true) → q R_ m)) : ch_C g m_l_steps [.inl (.int p0)] m (ch_oi q) := by
  refine e_l_steps g _ p0 m ?_
  have hg : ∀ n p, n < 8 → p ∈ l_lv n → 11 ≤ p.1 → l_gd p.2 = true := fun n p hn hp h11 => by
    have h1 := List.all_eq_true.mp l_lv_gd n (List.mem_range.mpr hn)
    have h2 := List.all_eq_true.mp h1 p hp
    rw [decide_eq_true h11] at h2
    simpa using h2
  have key : ∀ n, n ≤ 7 → ∀ (p : Int32 × Int32) x o, p ∈ l_lv n → ch_J g m_l_steps (ch_rm m_l_steps) (ch_E g m_l_steps (ch_oi q)) 9 [some (.inl (.int p0)), some (.inl (.int p.1)), some (.inl (.int p.2)), some (.inl (.int x)), some (.inl (.int (nI n))), o] [] m 0 := by
    refine ch_down (fun n => ∀ (p : Int32 × Int32) x o, p ∈ l_lv n → ch_J g m_l_steps (ch_rm m_l_steps) (ch_E g m_l_steps (ch_oi q)) 9 [some (.inl (.int p0)), some (.inl (.int p.1)), some (.inl (.int p.2)), some (.inl (.int x)), some (.inl (.int (nI n))), o] [] m 0) 7 ?_ ?_
    · intro p x o hp
      have h11 : 11 ≤ p.1 := of_decide_eq_true (List.all_eq_true.mp l_lv_7 p hp)
      exact g_l_steps_9 g _ _ _ _ _ _ _ m ⟨fun _ => ch_oi_iff.mpr (h _ (hg 7 p (by omega) hp h11)), fun z => absurd h11 z⟩
    · intro n hn ih p x o hp
      refine g_l_steps_9 g _ _ _ _ _ _ _ m ⟨fun h11 => ch_oi_iff.mpr (h _ (hg n p (by omega) hp h11)), fun h11 => ⟨by decide, fun z => ?_, fun z => ?_⟩⟩
      · have h3 : ¬ 3 < n := fun w => absurd z (nI_ge (b := n) (a := 3) w (by omega))
        rw [nI_1]
        refine ih (p.1 + (1 + l_sm x 3), 10 * p.2 + (1 + l_sm x 3)) _ _ ?_
        rw [l_lv]
        refine List.mem_flatMap.mpr ⟨p, hp, ?_⟩
        rw [if_neg h11, if_neg h3]
        refine List.mem_map.mpr ⟨1 + l_sm x 3, ?_, rfl⟩
        obtain e | e | e := l_sm3 x <;> rw [e] <;> decide
      · have h3 : 3 < n := by
          by_cases w : 3 < n
          · exact w
          · exact absurd (nI_le (a := n) (b := 3) (by omega) (by decide)) z
        rw [nI_1]
        refine ih (p.1 + 3, 10 * p.2 + 3) _ _ ?_
        rw [l_lv]
        refine List.mem_flatMap.mpr ⟨p, hp, ?_⟩
        rw [if_neg h11, if_pos h3]
        exact List.mem_map.mpr ⟨3, by decide, rfl⟩
  exact g_l_steps_0 g _ _ m (key 0 (by omega) (-1, 0) p0 none (by decide))
set_option maxHeartbeats 1600000 in
theorem s_l_isAt (g : ch_G) (q : Int32 → ch_M → Prop) (p1 : Int32) (p2 : Int32) (p3 : Int32) (m : ch_M) (h : (¬ m (3, 0, 0) 0 = 0) ∧ q (l_is3 m p1 p2 p3) m) : ch_C g m_l_isAt [.inr (0, 0, 0), .inl (.int p1), .inl (.int p2), .inl (.int p3)] m (ch_oi q) := by
  refine e_l_isAt g _ p1 p2 p3 m ?_
  obtain ⟨hw, hq⟩ := h
  refine g_l_isAt_0 g _ 0 (by decide) _ _ _ m ⟨hw, ?_⟩
  unfold l_is3 at hq
  rw [l_rs_0, l_rs_1, l_rs_2, l_rs_3]
  by_cases c1 : m (3, 0, 0) 0 = p2
  · refine ⟨fun z => absurd c1 z, fun _ => ⟨hw, ?_⟩⟩
    by_cases c2 : m (3, 0, 0) 1 = p3
    · refine ⟨fun z => absurd c2 z, fun _ => ⟨hw, ?_⟩⟩
      by_cases c3 : m (3, 0, 0) 2 = p1
      · refine ⟨fun z => absurd c3 z, fun _ => ⟨hw, fun z => absurd rfl z, fun _ => ?_⟩⟩
        rw [if_pos ⟨c1, c2, c3⟩] at hq
        exact ch_oi_iff.mpr hq
      · refine ⟨fun _ => ?_, fun z => absurd z c3⟩
        rw [if_neg (fun z => c3 z.2.2)] at hq
        exact ch_oi_iff.mpr hq
    · refine ⟨fun _ => ?_, fun z => absurd z c2⟩
      rw [if_neg (fun z => c2 z.2.1)] at hq
      exact ch_oi_iff.mpr hq
  · refine ⟨fun _ => ?_, fun z => absurd z c1⟩
    rw [if_neg (fun z => c1 z.1)] at hq
    exact ch_oi_iff.mpr hq
