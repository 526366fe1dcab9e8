set_option maxHeartbeats 1600000 in
theorem s_x_character (g : ch_G) (q : Int32 → ch_M → Prop) (x : Nat → ch_M → Prop) (p1 : Int32) (m : ch_M) (h : (vp_in (m (6, 1, 0) 1) 61) ∧ (∀ i_, i_ < 60 → narrow .char (.int (m (6, 1, 1) i_)) = .int (m (6, 1, 1) i_)) ∧ ((0 ≤ p1 ∧ p1 < m (6, 1, 0) 1) → q (m (6, 1, 1) (Int32.toNatClampNeg p1)) m) ∧ ((¬ (0 ≤ p1 ∧ p1 < m (6, 1, 0) 1)) → x 1 m)) : ch_C g m_x_character [.inr (0, 0, 0), .inl (.int p1)] m (ch_ox (ch_oi q) x) := by
  refine e_x_character g _ p1 m ?_
  obtain ⟨h1, h2, ha, hb⟩ := h
  have hp : ¬ p1 < 0 → p1 < m (6, 1, 0) 1 → vp_in p1 60 := by
    intro a b
    obtain ⟨n, hn, he⟩ := vp_in_of h1 (by decide)
    rw [he] at b
    refine ch_vp (n := 60) (by decide) a (fun z => ?_)
    have := nI_le (a := n) (b := 60) (by omega) (by decide)
    grind
  refine g_x_character_0 g _ _ _ ?_
  simp only [ch_ox_l, ch_oi_iff, ch_ox_oi]
  refine ⟨fun c => ⟨by decide, hb (by grind)⟩, fun c => ⟨fun d => ⟨hp c d, ?_, ha (by grind)⟩, fun d => ⟨by decide, hb (by grind)⟩⟩⟩
  obtain ⟨k, hk, rfl⟩ := vp_in_of (hp c d) (by decide)
  rw [nI_clamp (by omega)]
  exact h2 k hk
theorem y_cp_f (Y Y' : ch_B) {k : Nat} (h1 : 8 ≤ k) (h2 : k ≤ 16) : y_cp Y Y' 0 k = Y 0 k := if_pos (Or.inl ⟨rfl, h1, h2⟩)
theorem y_cp_12 (Y Y' : ch_B) {c k : Nat} (h1 : c = 1 ∨ c = 2) (h2 : k < 12) : y_cp Y Y' c k = Y c k := if_pos (Or.inr (Or.inl ⟨h1, h2⟩))
theorem y_cp_5 (Y Y' : ch_B) {c k : Nat} (h1 : 3 ≤ c) (h2 : c ≤ 8) (h3 : k < 5) : y_cp Y Y' c k = Y c k := if_pos (Or.inr (Or.inr ⟨h1, h2, h3⟩))
set_option maxHeartbeats 1600000 in
theorem s_x_wouldEnd (g : ch_G) (q : Int32 → ch_M → Prop) (x : Nat → ch_M → Prop) (p1 : Int32) (m : ch_M) (h : (vp_in (m (1, 0, 0) 9) 6) ∧ (∀ i_, i_ < 5 → vp_in (m (1, 0, 8) i_) 5) ∧ ((1 ≤ p1 ∧ p1 ≤ 9) → q (y_washR (y_cp (ch_ob m 1 0) (ch_ob m 1 2)) p1) (ch_os m 1 2 (y_washB (y_cp (ch_ob m 1 0) (ch_ob m 1 2)) p1))) ∧ ((¬ (1 ≤ p1 ∧ p1 ≤ 9)) → x 2 m)) : ch_C g m_x_wouldEnd [.inr (0, 0, 0), .inl (.int p1)] m (ch_ox (ch_oi q) x) := by
  refine e_x_wouldEnd g _ p1 m ?_
  obtain ⟨h1, h2, ha, hb⟩ := h
  refine g_x_wouldEnd_0 g _ _ _ ?_
  simp only [ch_ox_l, ch_oi_iff, ch_ox_oi, forall_eq, ch_os_at, ch_ob_os, ch_os_os]
  refine ⟨fun c => ⟨by decide, hb (by grind)⟩, fun c => ⟨fun d => ⟨?_, fun i hi => ?_, ha (by grind)⟩, fun d => ⟨by decide, hb (by grind)⟩⟩⟩
  · rw [y_cp_f _ _ (by decide) (by decide)]
    exact h1
  · rw [y_cp_5 _ _ (by decide) (by decide) hi]
    exact h2 i hi
def x_wtP (F : ch_B) : Bool := !decide (F 0 1 = 0) && decide (y_mf (F 1) (F 0 1).toNatClampNeg = -1)
theorem s_rfB_n (B : ch_B) (x : Int32) : vp_in (s_rfB B x 0 1) 13 := by
  have := s_rc_le x
  show vp_in (if s_ok (s_rf B x) (s_rc x) = true then nI (s_rc x) else 0) 13
  split
  · exact vp_in_nI (by omega) (by decide)
  · exact vp_in_nI (n := 0) (by decide) (by decide)
set_option maxHeartbeats 1600000 in
theorem s_x_wouldTread (g : ch_G) (q : Int32 → ch_M → Prop) (x : Nat → ch_M → Prop) (p1 : Int32) (p2 : Int32) (m : ch_M) (h : (((0 ≤ p1 ∧ p1 < m (1, 0, 0) 8) ∧ x_wtP (s_rfB (ch_ob m 5 1) p2) = true) → q (y_ct (ch_ob m 1 0) p1 (s_rfB (ch_ob m 5 1) p2 1) (Int32.toNatClampNeg (s_rfB (ch_ob m 5 1) p2 0 1))) (ch_os m 5 1 (s_rfB (ch_ob m 5 1) p2))) ∧ ((¬ (0 ≤ p1 ∧ p1 < m (1, 0, 0) 8)) → x 1 m) ∧ (((0 ≤ p1 ∧ p1 < m (1, 0, 0) 8) ∧ ¬ x_wtP (s_rfB (ch_ob m 5 1) p2) = true) → x 2 (ch_os m 5 1 (s_rfB (ch_ob m 5 1) p2)))) : ch_C g m_x_wouldTread [.inr (0, 0, 0), .inl (.int p1), .inl (.int p2)] m (ch_ox (ch_oi q) x) := by
  refine e_x_wouldTread g _ p1 p2 m ?_
  obtain ⟨ha, hb, hc⟩ := h
  refine g_x_wouldTread_0 g _ _ _ _ ?_
  simp only [ch_ox_l, ch_oi_iff, ch_ox_oi, forall_eq, ch_os_at, ch_ob_c (show (1 : Nat) ≠ 5 by decide)]
  have e1 : ch_os m 5 1 (s_rfB (ch_ob m 5 1) p2) (5, 1, 1) = s_rfB (ch_ob m 5 1) p2 1 := by funext k; exact ch_os_at _ _ _ _ _ _
  rw [e1]
  refine ⟨fun c => ⟨fun d => ⟨by decide, hc ⟨c, fun z => ?_⟩⟩, fun d => ⟨s_rfB_n _ _, fun e => ha ⟨c, ?_⟩, fun e => ⟨by decide, hc ⟨c, fun z => ?_⟩⟩⟩⟩, fun c => ⟨by decide, hb c⟩⟩
  · simp [x_wtP, d] at z
  · simp [x_wtP, d, e]
  · simp [x_wtP, d, e] at z
theorem w_ty_3 (B : ch_B) (lv : Int32) (s n : Nat) (p : Int32) (i : Nat) : w_ty B lv s n p 3 i = B 3 i ∨ (i = s ∧ w_ty B lv s n p 3 i = p) := by
  unfold w_ty
  split
  · by_cases h : i = s
    · subst h
      exact Or.inr ⟨rfl, ch_bw_at _ _ _ _⟩
    · exact Or.inl (by rw [ch_bw_k h, ch_bw_c (by decide), ch_bw_c (by decide)])
  · exact Or.inl rfl
theorem w_ty_0 (B : ch_B) (lv : Int32) (s n : Nat) (p : Int32) (h : B 3 s = 0) : w_ty B lv s n p 3 s = p := by
  unfold w_ty
  rw [if_pos (Or.inl h), ch_bw_at]
theorem w_s1_3 (B : ch_B) (l : Int32 → Int32) (s : Nat) : w_s1 B l s 3 s = 1 ∨ w_s1 B l s 3 s = 2 ∨ w_s1 B l s 3 s = 3 := by
  have a : w_t1 (ch_bw B 3 s 0) l s 3 3 s = 3 := w_ty_0 _ _ _ _ _ (ch_bw_at _ _ _ _)
  rcases w_ty_3 (w_t1 (w_t1 (ch_bw B 3 s 0) l s 3) l s 2) (l (nI (s + 1))) s (s + 1) (nI 1) s with h | ⟨_, h⟩
  · rcases w_ty_3 (w_t1 (ch_bw B 3 s 0) l s 3) (l (nI (s + 2))) s (s + 2) (nI 2) s with h2 | ⟨_, h2⟩
    · exact Or.inr (Or.inr (h.trans (h2.trans a)))
    · exact Or.inr (Or.inl (h.trans (h2.trans (by decide))))
  · exact Or.inl (h.trans (by decide))
theorem w_s1_n (B : ch_B) (l : Int32 → Int32) (s i : Nat) (hi : i ≠ s) : w_s1 B l s 3 i = B 3 i := by
  have g : ∀ B t, w_t1 B l s t 3 i = B 3 i := fun B t => (w_ty_3 B (l (nI (s + t))) s (s + t) (nI t) i).elim id (fun z => absurd z.1 hi)
  show w_t1 (w_t1 (w_t1 (ch_bw B 3 s 0) l s 3) l s 2) l s 1 3 i = B 3 i
  rw [g, g, g, ch_bw_k hi]
theorem w_fl_3 (B : ch_B) (l : Int32 → Int32) (n i : Nat) (hn : n ≤ 12) (h1 : 12 - n ≤ i) (h2 : i < 12) : w_fl B l n 3 i = 1 ∨ w_fl B l n 3 i = 2 ∨ w_fl B l n 3 i = 3 := by
  induction n with
  | zero => omega
  | succ n ih =>
    rw [w_fl]
    by_cases h : i = 11 - n
    · rw [h]
      exact w_s1_3 _ _ _
    · rw [w_s1_n _ _ _ _ h]
      exact ih (by omega) (by omega)
def x_sW (m : ch_M) (c : Int32) : ch_B := w_fl (ch_ob m 8 0) (w_l (ch_ob m 1 0) c) 12
def x_sT (T W : ch_B) : ch_B := w_tl (W 3) 12 0 (ch_bw T 0 1 0)
theorem w_tl_n (st : Nat → Int32) (n : Nat) (s : Int32) (B : ch_B) (h : vp_in (B 0 1) 13) : vp_in (w_tl st n s B 0 1) 13 := by
  induction n generalizing s B with
  | zero => exact h
  | succ n ih =>
    rw [w_tl]
    split
    · exact h
    · refine ih _ _ ?_
      obtain ⟨k, hk, he⟩ := vp_in_of h (by decide)
      by_cases h12 : k < 12
      · rw [s_addB_n he h12]
        exact vp_in_nI (by omega) (by decide)
      · have : s_addB B (st s.toNatClampNeg) = B := if_pos (by rw [he]; exact nI_le (a := 12) (by omega) (by omega))
        rw [this]
        exact h
set_option maxHeartbeats 1600000 in
theorem s_x_step (g : ch_G) (q : Int32 → ch_M → Prop) (x : Nat → ch_M → Prop) (p1 : Int32) (p2 : Int32) (m : ch_M) (h : (((0 ≤ p1 ∧ p1 < m (1, 0, 0) 8) ∧ 0 ≤ p2 ∧ p2 < x_sT (ch_ob m 5 1) (x_sW m p1) 0 1) → q (x_sT (ch_ob m 5 1) (x_sW m p1) 1 (Int32.toNatClampNeg p2)) (ch_os (ch_os m 8 0 (x_sW m p1)) 5 1 (x_sT (ch_ob m 5 1) (x_sW m p1)))) ∧ ((¬ (0 ≤ p1 ∧ p1 < m (1, 0, 0) 8)) → x 1 m) ∧ (((0 ≤ p1 ∧ p1 < m (1, 0, 0) 8) ∧ ¬ (0 ≤ p2 ∧ p2 < x_sT (ch_ob m 5 1) (x_sW m p1) 0 1)) → x 3 (ch_os (ch_os m 8 0 (x_sW m p1)) 5 1 (x_sT (ch_ob m 5 1) (x_sW m p1))))) : ch_C g m_x_step [.inr (0, 0, 0), .inl (.int p1), .inl (.int p2)] m (ch_ox (ch_oi q) x) := by
  refine e_x_step g _ p1 p2 m ?_
  obtain ⟨ha, hb, hc⟩ := h
  refine g_x_step_0 g _ _ _ _ ?_
  have e8 : ch_os m 8 0 (w_fl (ch_ob m 8 0) (w_l (ch_ob m 1 0) p1) 12) (8, 0, 3) = x_sW m p1 3 := by funext k; exact ch_os_at _ _ _ _ _ _
  simp only [ch_ox_l, ch_oi_iff, ch_ox_oi, forall_eq, e8, ch_ob_c (show (5 : Nat) ≠ 8 by decide), ch_os_at]
  have e9 : w_tl (x_sW m p1 3) 12 0 (ch_bw (ch_ob m 5 1) 0 1 0) = x_sT (ch_ob m 5 1) (x_sW m p1) := rfl
  have e10 : w_fl (ch_ob m 8 0) (w_l (ch_ob m 1 0) p1) 12 = x_sW m p1 := rfl
  rw [e9, e10]
  have hn : vp_in (x_sT (ch_ob m 5 1) (x_sW m p1) 0 1) 13 := w_tl_n _ _ _ _ (by rw [ch_bw_at]; exact vp_in_nI (n := 0) (by decide) (by decide))
  refine ⟨fun c => ⟨fun i hi => w_fl_3 _ _ 12 i (by decide) (by omega) hi, fun d => ⟨by decide, hc ⟨c, fun z => by grind⟩⟩, fun d => ⟨fun e => ⟨?_, ha ⟨c, by grind, e⟩⟩, fun e => ⟨by decide, hc ⟨c, fun z => e z.2⟩⟩⟩⟩, fun c => ⟨by decide, hb c⟩⟩
  obtain ⟨n, hn, he⟩ := vp_in_of hn (by decide)
  rw [he] at e
  refine ch_vp (n := 12) (by decide) d (fun z => ?_)
  have := nI_le (a := n) (b := 12) (by omega) (by decide)
  grind
def x_bB (B : ch_B) : ch_B := if B 0 1 ≤ 0 then B else t_putB B 32
set_option maxHeartbeats 1600000 in
theorem s_x_putBlankBetween (g : ch_G) (q : ch_M → Prop)  (m : ch_M) (h : (vp_in (m (6, 1, 0) 1) 61) ∧ q (ch_os m 6 1 (x_bB (ch_ob m 6 1)))) : ch_C g m_x_putBlankBetween [.inr (0, 0, 0)] m (ch_ov q) := by
  refine e_x_putBlankBetween g _  m ?_
  obtain ⟨h1, hq⟩ := h
  refine g_x_putBlankBetween_0 g _ _ ⟨fun c => ?_, fun c => ⟨h1, fun m2 e2 => ?_⟩⟩
  · have e : x_bB (ch_ob m 6 1) = ch_ob m 6 1 := if_pos c
    rw [e, ch_os_self] at hq
    exact ch_ov_iff.mpr hq
  · have e : x_bB (ch_ob m 6 1) = t_putB (ch_ob m 6 1) 32 := if_neg c
    rw [e] at hq
    rw [e2]
    exact ch_ov_iff.mpr hq
def x_c48 (a : Int32) : Int32 := (Int32.toUInt32 (48 + a) % 65536).toInt32
def x_pB (B : ch_B) (a b c : Int32) : ch_B := t_putB (t_putB (t_putB B (x_c48 a)) b) (x_c48 c)
theorem t_putB_n {B : ch_B} (p : Int32) (h : vp_in (B 0 1) 61) : vp_in (t_putB B p 0 1) 61 := by
  unfold t_putB
  obtain ⟨k, hk, he⟩ := vp_in_of h (by decide)
  split
  · exact h
  · rename_i c
    rw [ch_bw_at, he, nI_1]
    refine vp_in_nI ?_ (by decide)
    by_cases h2 : k < 60
    · omega
    · exact absurd (by rw [he]; exact nI_le (a := 60) (by omega) (by omega)) c
set_option maxHeartbeats 1600000 in
theorem s_x_putPair (g : ch_G) (q : ch_M → Prop) (p1 : Int32) (p2 : Int32) (p3 : Int32) (m : ch_M) (h : (vp_in (m (6, 1, 0) 1) 61) ∧ q (ch_os m 6 1 (x_pB (ch_ob m 6 1) p1 p2 p3))) : ch_C g m_x_putPair [.inr (0, 0, 0), .inl (.int p1), .inl (.int p2), .inl (.int p3)] m (ch_ov q) := by
  refine e_x_putPair g _ p1 p2 p3 m ?_
  obtain ⟨h1, hq⟩ := h
  refine g_x_putPair_0 g _ _ _ _ _ ?_
  simp only [forall_eq, ch_ov_iff, ch_os_at, ch_ob_os, ch_os_os]
  exact ⟨h1, t_putB_n _ h1, t_putB_n _ (t_putB_n _ h1), hq⟩
