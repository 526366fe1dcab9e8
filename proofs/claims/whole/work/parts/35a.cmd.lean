/-! a command of a text: the class's memory in one form -/
theorem ch_os_cm {m : ch_M} {a j b i : Nat} {B C : ch_B} (h : ¬ (a = b ∧ j = i)) : ch_os (ch_os m a j B) b i C = ch_os (ch_os m b i C) a j B := by
  funext x k
  unfold ch_os
  by_cases h1 : x.1 = b ∧ x.2.1 = i
  · rw [if_pos h1, if_pos h1, if_neg (fun z => h ⟨z.1.symm.trans h1.1, z.2.symm.trans h1.2⟩)]
  · rw [if_neg h1, if_neg h1]
theorem ch_ob_ne {m : ch_M} {a j b i : Nat} {B : ch_B} (h : ¬ (b = a ∧ i = j)) : ch_ob (ch_os m a j B) b i = ch_ob m b i := by
  funext c k
  unfold ch_ob
  rw [ch_os_ne (fun z => h z)]
theorem ch_bw_bw (B : ch_B) (a k : Nat) (x y : Int32) : ch_bw (ch_bw B a k x) a k y = ch_bw B a k y := by
  funext c i
  unfold ch_bw
  by_cases h : c = a ∧ i = k
  · rw [if_pos h, if_pos h]
  · rw [if_neg h, if_neg h, if_neg h]
def d_mk (M : ch_M) (K S : ch_B) (p : Nat) : ch_M := ch_os (ch_os (ch_os M 4 0 K) 5 0 S) 7 0 (ch_bw (ch_ob M 7 0) 0 0 (nI p))
theorem d_mk_self {M : ch_M} {p : Nat} (h : M (7, 0, 0) 0 = nI p) : d_mk M (ch_ob M 4 0) (ch_ob M 5 0) p = M := by
  unfold d_mk
  rw [ch_os_self, ch_os_self, ← h]
  have := ch_bw_self (ch_ob M 7 0) 0 0
  have e : ch_ob M 7 0 0 0 = M (7, 0, 0) 0 := rfl
  rw [e] at this
  rw [this, ch_os_self]
theorem d_mk_ob {M : ch_M} {K S : ch_B} {p a j : Nat} (h4 : ¬ (a = 4 ∧ j = 0)) (h5 : ¬ (a = 5 ∧ j = 0)) (h7 : ¬ (a = 7 ∧ j = 0)) : ch_ob (d_mk M K S p) a j = ch_ob M a j := by
  unfold d_mk
  rw [ch_ob_ne h7, ch_ob_ne h5, ch_ob_ne h4]
theorem d_mk_p (M : ch_M) (K S : ch_B) (p : Nat) : d_mk M K S p (7, 0, 0) 0 = nI p := by
  unfold d_mk
  rw [ch_os_at, ch_bw_at]
theorem d_mk_7 (M : ch_M) (K S : ch_B) (p : Nat) : ch_ob (d_mk M K S p) 7 0 = ch_bw (ch_ob M 7 0) 0 0 (nI p) := by
  unfold d_mk
  rw [ch_ob_os]
theorem d_mk_4 (M : ch_M) (K S : ch_B) (p : Nat) : ch_ob (d_mk M K S p) 4 0 = K := by
  unfold d_mk
  rw [ch_ob_ne (by omega), ch_ob_ne (by omega), ch_ob_os]
theorem d_mk_5 (M : ch_M) (K S : ch_B) (p : Nat) : ch_ob (d_mk M K S p) 5 0 = S := by
  unfold d_mk
  rw [ch_ob_ne (by omega), ch_ob_os]
theorem d_mk_w4 (M : ch_M) (K S K' : ch_B) (p : Nat) : ch_os (d_mk M K S p) 4 0 K' = d_mk M K' S p := by
  unfold d_mk
  rw [ch_os_cm (a := 7) (by omega), ch_os_cm (a := 5) (by omega), ch_os_os]
theorem d_mk_w5 (M : ch_M) (K S S' : ch_B) (p : Nat) : ch_os (d_mk M K S p) 5 0 S' = d_mk M K S' p := by
  unfold d_mk
  rw [ch_os_cm (a := 7) (by omega), ch_os_os]
theorem d_mk_nx (M : ch_M) (K S : ch_B) (p : Nat) : d_nx (d_mk M K S p) = d_mk M K S (p + 1) := by
  unfold d_nx
  rw [d_mk_7, d_mk_p, ch_bw_bw, nI_1]
  unfold d_mk
  rw [ch_os_os]
theorem d_mk_6 (M : ch_M) (K S : ch_B) (p : Nat) : ch_ob (d_mk M K S p) 6 0 = ch_ob M 6 0 := d_mk_ob (by omega) (by omega) (by omega)
theorem d_ts_mk (M : ch_M) (K S : ch_B) (p : Nat) (c : Int32) : d_ts (d_mk M K S p) 0 c = if d_sg (ch_ob M 6 0) (nI p) = c then (true, d_mk M K S (p + 1)) else (false, d_mk M K S p) := by
  unfold d_ts
  rw [d_mk_6, d_mk_p, d_mk_nx]
theorem d_pd_mk (M : ch_M) (K S : ch_B) (p : Nat) : d_pd (d_mk M K S p) 0 = if 0 ≤ d_dg (ch_ob M 6 0) (nI p) then (true, d_mk M K S (p + 1)) else (false, d_mk M K S p) := by
  unfold d_pd
  rw [d_mk_6, d_mk_p, d_mk_nx]
theorem d_tk_mk (f : Nat) (M : ch_M) (K S : ch_B) (p : Nat) : d_tk f (d_mk M K S p) 0 = if 0 ≤ d_dg (ch_ob M 6 0) (nI p) then (true, d_mk M (ch_bw K 0 f (d_dg (ch_ob M 6 0) (nI p))) S (p + 1)) else (false, d_mk M (ch_bw K 0 f (d_dg (ch_ob M 6 0) (nI p))) S p) := by
  unfold d_tk
  rw [d_mk_6, d_mk_p, d_mk_4, d_mk_w4, d_pd_mk]
def d_n2 (T : ch_B) (p : Nat) : Int32 := if 0 ≤ d_dg T (nI (p + 1)) then d_dg T (nI p) * 10 + d_dg T (nI (p + 1)) else d_dg T (nI p)
def d_e2 (T : ch_B) (p : Nat) : Nat := if 0 ≤ d_dg T (nI (p + 1)) then p + 2 else p + 1
theorem d_tn_mk (M : ch_M) (K S : ch_B) (p : Nat) : d_tn (d_mk M K S p) 0 = if 0 ≤ d_dg (ch_ob M 6 0) (nI p) then (true, d_mk M (ch_bw K 0 4 (d_n2 (ch_ob M 6 0) p)) S (d_e2 (ch_ob M 6 0) p)) else (false, d_mk M (ch_bw K 0 4 (d_dg (ch_ob M 6 0) (nI p))) S p) := by
  unfold d_tn d_n2 d_e2
  rw [d_tk_mk]
  by_cases h : 0 ≤ d_dg (ch_ob M 6 0) (nI p)
  · rw [if_pos h, if_pos h, if_pos rfl]
    dsimp only
    rw [d_pd_mk, d_mk_6, d_mk_p]
    by_cases h2 : 0 ≤ d_dg (ch_ob M 6 0) (nI (p + 1))
    · rw [if_pos h2, if_pos rfl, if_pos h2, if_pos h2, d_mk_4, d_mk_w4]
      have e : d_mk M (ch_bw K 0 4 (d_dg (ch_ob M 6 0) (nI p))) S (p + 1 + 1) (4, 0, 0) 4 = d_dg (ch_ob M 6 0) (nI p) := by
        have : d_mk M (ch_bw K 0 4 (d_dg (ch_ob M 6 0) (nI p))) S (p + 1 + 1) (4, 0, 0) 4 = ch_ob (d_mk M (ch_bw K 0 4 (d_dg (ch_ob M 6 0) (nI p))) S (p + 1 + 1)) 4 0 0 4 := rfl
        rw [this, d_mk_4, ch_bw_at]
      dsimp only
      rw [e, ch_bw_bw]
    · rw [if_neg h2, if_neg Bool.false_ne_true, if_neg h2, if_neg h2]
  · rw [if_neg h, if_neg h, if_neg Bool.false_ne_true]
theorem d_sl_mk (M : ch_M) (K : ch_B) (n : Nat) : ∀ (S : ch_B) (p s : Nat), S 0 1 = nI s → s + n ≤ 12 → ∃ S', d_sl 0 0 n (d_mk M K S p) = d_mk M K S' (p + d_ns (ch_ob M 6 0) p n) ∧ S' 0 1 = nI (s + d_ns (ch_ob M 6 0) p n) ∧ (∀ i, i < s → S' 1 i = S 1 i) ∧ ∀ i, i < d_ns (ch_ob M 6 0) p n → S' 1 (s + i) = d_dg (ch_ob M 6 0) (nI (p + i)) := by
  induction n with
  | zero => exact fun S p s h _ => ⟨S, rfl, h, fun _ _ => rfl, fun i hi => absurd hi (by unfold d_ns; omega)⟩
  | succ n ih =>
    intro S p s hS hs
    rw [d_sl, d_mk_6, d_mk_p, d_ns]
    by_cases h : 1 ≤ d_dg (ch_ob M 6 0) (nI p) ∧ d_dg (ch_ob M 6 0) (nI p) ≤ 3
    · rw [if_pos h, if_pos h, d_mk_5, d_mk_w5, d_mk_nx]
      have ea : s_addB S (d_dg (ch_ob M 6 0) (nI p)) = ch_bw (ch_bw S 1 s (d_dg (ch_ob M 6 0) (nI p))) 0 1 (nI (s + 1)) := by
        unfold s_addB
        rw [hS, if_neg (show ¬ (12 : Int32) ≤ nI s from nI_ge (b := 12) (by omega) (by decide)), nI_clamp (by omega), nI_1]
      rw [ea]
      obtain ⟨S', e1, e2, e3, e4⟩ := ih (ch_bw (ch_bw S 1 s (d_dg (ch_ob M 6 0) (nI p))) 0 1 (nI (s + 1))) (p + 1) (s + 1) (ch_bw_at _ _ _ _) (by omega)
      refine ⟨S', ?_, ?_, fun i hi => ?_, fun i hi => ?_⟩
      · rw [e1, show p + 1 + d_ns (ch_ob M 6 0) (p + 1) n = p + (d_ns (ch_ob M 6 0) (p + 1) n + 1) by omega]
      · rw [e2, show s + 1 + d_ns (ch_ob M 6 0) (p + 1) n = s + (d_ns (ch_ob M 6 0) (p + 1) n + 1) by omega]
      · rw [e3 i (by omega), ch_bw_c (by decide), ch_bw_k (by omega)]
      · cases i with
        | zero => rw [Nat.add_zero, Nat.add_zero, e3 s (by omega), ch_bw_c (by decide), ch_bw_at]
        | succ i =>
          rw [show s + (i + 1) = s + 1 + i by omega, show p + (i + 1) = p + 1 + i by omega]
          exact e4 i (by omega)
    · rw [if_neg h, if_neg h]
      exact ⟨S, rfl, hS, fun _ _ => rfl, fun i hi => absurd hi (by omega)⟩
theorem d_st_mk (M : ch_M) (K S : ch_B) (p : Nat) : ∃ S', d_st (d_mk M K S p) 0 0 = (decide (¬ d_ns (ch_ob M 6 0) p 12 = 0), d_mk M K S' (p + d_ns (ch_ob M 6 0) p 12)) ∧ S' 0 1 = nI (d_ns (ch_ob M 6 0) p 12) ∧ ∀ i, i < d_ns (ch_ob M 6 0) p 12 → S' 1 i = d_dg (ch_ob M 6 0) (nI (p + i)) := by
  have hl := d_ns_le (ch_ob M 6 0) 12 p
  unfold d_st
  rw [d_mk_5, d_mk_w5]
  obtain ⟨S', e1, e2, -, e4⟩ := d_sl_mk M K 12 (ch_bw S 0 1 0) p 0 (ch_bw_at _ _ _ _) (by omega)
  refine ⟨S', ?_, by rw [e2, Nat.zero_add], fun i hi => by rw [← e4 i hi, Nat.zero_add]⟩
  rw [e1]
  congr 1
  apply decide_eq_decide.mpr
  have e5 : d_mk M K S' (p + d_ns (ch_ob M 6 0) p 12) (5, 0, 0) 1 = nI (d_ns (ch_ob M 6 0) p 12) := by
    have : d_mk M K S' (p + d_ns (ch_ob M 6 0) p 12) (5, 0, 0) 1 = ch_ob (d_mk M K S' (p + d_ns (ch_ob M 6 0) p 12)) 5 0 0 1 := rfl
    rw [this, d_mk_5, e2, Nat.zero_add]
  rw [e5]
  refine not_congr ⟨fun z => ?_, fun z => by rw [z]; decide⟩
  by_cases e : d_ns (ch_ob M 6 0) p 12 = 0
  · exact e
  · exact absurd z (nI_nle (by omega) (by omega))
/-- a command that has been read, by its kind: told by the class's blocks K, S and by the reference's cells t, w, B -/
def m_cmK (K S : ch_B) (B : ch_B) : Prop :=
  B 0 12 = K 0 1 ∧ d_kd (K 0 1) ∧ (K 0 1 = 110 → B 8 0 = K 0 4) ∧ (K 0 1 = 99 → B 8 0 = K 0 2 ∧ B 8 1 = K 0 4) ∧
  (K 0 1 = 104 → B 8 0 = K 0 2 ∧ ∃ n, 1 ≤ n ∧ n ≤ 12 ∧ S 0 1 = nI n ∧ B 0 21 = nI n ∧ ∀ i, i < n → B 9 i = S 1 i ∧ 1 ≤ S 1 i ∧ S 1 i ≤ 3) ∧
  (K 0 1 = 119 → B 8 0 = K 0 2) ∧ (K 0 1 = 115 → B 8 0 = K 0 2) ∧ (K 0 1 = 114 → B 8 0 = K 0 4) ∧
  (K 0 1 = 103 → B 8 0 = K 0 2 ∧ B 8 1 = K 0 3 ∧ B 8 2 = K 0 4)
def m_pf (B B' : ch_B) : Prop := ∀ a i, a ≠ 8 → a ≠ 9 → ¬ (a = 0 ∧ (i = 11 ∨ i = 12 ∨ i = 21)) → B' a i = B a i
/-- the reference's block amid reading -/
def m_mkB (B : ch_B) (t : Nat → Int32) (w : Int32) (p : Nat) : ch_B := fun a i => if a = 8 then t i else if a = 0 ∧ i = 12 then w else if a = 0 ∧ i = 11 then nI p else B a i
theorem m_mk_8 (B : ch_B) (t : Nat → Int32) (w : Int32) (p k : Nat) (v : Int32) : ch_bw (m_mkB B t w p) 8 k v = m_mkB B (fun i => if i = k then v else t i) w p := by
  funext a i
  unfold ch_bw m_mkB
  grind
theorem m_mk_11 (B : ch_B) (t : Nat → Int32) (w : Int32) (p p' : Nat) : ch_bw (m_mkB B t w p) 0 11 (nI p') = m_mkB B t w p' := by
  funext a i
  unfold ch_bw m_mkB
  grind
theorem m_mk_pf (B : ch_B) (t : Nat → Int32) (w : Int32) (p : Nat) : m_pf B (m_mkB B t w p) := by
  intro a i h1 h2 h3
  unfold m_mkB
  rw [if_neg h1, if_neg (by omega), if_neg (by omega)]
theorem m_mk_tx {T B : ch_B} {p0 : Nat} (h : m_tx T B p0) (t : Nat → Int32) (w : Int32) {p : Nat} (hp : p ≤ (T 0 1).toNatClampNeg) : m_tx T (m_mkB B t w p) p := by
  obtain ⟨h1, h2, h3, h4, h5⟩ := h
  refine ⟨h1, ?_, fun k hk => ?_, ?_, hp⟩
  · rw [m_mk_pf B t w p 0 10 (by decide) (by decide) (by omega)]
    exact h2
  · rw [m_mk_pf B t w p 7 k (by decide) (by decide) (by omega)]
    exact h3 k hk
  · unfold m_mkB
    rw [if_neg (by decide), if_neg (by omega), if_pos ⟨rfl, rfl⟩]
theorem m_mk_w (B : ch_B) (t : Nat → Int32) (w : Int32) (p : Nat) : m_mkB B t w p 0 12 = w := by
  unfold m_mkB
  rw [if_neg (by decide), if_pos ⟨rfl, rfl⟩]
theorem m_mk_a (B : ch_B) (t : Nat → Int32) (w : Int32) (p : Nat) : m_mkB B t w p 0 11 = nI p := by
  unfold m_mkB
  rw [if_neg (by decide), if_neg (by omega), if_pos ⟨rfl, rfl⟩]
theorem m_mk_t (B : ch_B) (t : Nat → Int32) (w : Int32) (p i : Nat) : m_mkB B t w p 8 i = t i := if_pos rfl
theorem c_m_digits1 (k : Int32) (g : ch_G) (q : Int32 → ch_M → Prop) (T_ : ch_B) (p_ : Nat) (m : ch_M) (h : m_tx T_ (ch_ob m 9 0) p_ ∧ vp_in k 3 ∧ (¬ 0 ≤ d_dg T_ (nI p_) → q 0 (ch_os m 9 0 (ch_bw (ch_ob m 9 0) 8 k.toNatClampNeg 0))) ∧ (0 ≤ d_dg T_ (nI p_) → q 1 (ch_os m 9 0 (ch_bw (ch_bw (ch_ob m 9 0) 0 11 (nI (p_ + 1))) 8 k.toNatClampNeg (d_dg T_ (nI p_)))))) : ch_C g m_m_digits [.inr (9, 0, 0), .inl (.int k), .inl (.int 1)] m (ch_oi q) :=
  s_m_digits g q T_ p_ k 1 m ⟨h.1, h.2.1, Or.inl rfl, h.2.2.1, fun z => h.2.2.2 z.1, fun z => absurd z.2.1 (by decide)⟩
theorem c_m_digits2 (k : Int32) (g : ch_G) (q : Int32 → ch_M → Prop) (T_ : ch_B) (p_ : Nat) (m : ch_M) (h : m_tx T_ (ch_ob m 9 0) p_ ∧ vp_in k 3 ∧ (¬ 0 ≤ d_dg T_ (nI p_) → q 0 (ch_os m 9 0 (ch_bw (ch_ob m 9 0) 8 k.toNatClampNeg 0))) ∧ (0 ≤ d_dg T_ (nI p_) → q 1 (ch_os m 9 0 (ch_bw (ch_bw (ch_ob m 9 0) 0 11 (nI (d_e2 T_ p_))) 8 k.toNatClampNeg (d_n2 T_ p_))))) : ch_C g m_m_digits [.inr (9, 0, 0), .inl (.int k), .inl (.int 2)] m (ch_oi q) := by
  obtain ⟨h1, h2, h3, h4⟩ := h
  unfold d_e2 d_n2 at h4
  refine s_m_digits g q T_ p_ k 2 m ⟨h1, h2, Or.inr rfl, h3, fun z => ?_, fun z => ?_⟩
  · rcases z.2 with z2 | z2
    · exact absurd z2 (by decide)
    · have := h4 z.1
      rw [if_neg z2, if_neg z2] at this
      exact this
  · have := h4 z.1
    rw [if_pos z.2.2, if_pos z.2.2] at this
    exact this
theorem d_dg_lt {T : ch_B} {p : Nat} (h1 : vp_in (T 0 1) 61) (hp : p < 2 ^ 31) (h : 0 ≤ d_dg T (nI p)) : p < (T 0 1).toNatClampNeg := by
  by_cases l : p < (T 0 1).toNatClampNeg
  · exact l
  · exact absurd h (d_dg_out h1 hp l)
theorem d_sg_lt {T : ch_B} {p : Nat} {c : Int32} (h1 : vp_in (T 0 1) 61) (hp : p < 2 ^ 31) (hc : ¬ c = -1) (h : d_sg T (nI p) = c) : p < (T 0 1).toNatClampNeg := by
  by_cases l : p < (T 0 1).toNatClampNeg
  · exact l
  · exact absurd (h.symm.trans (d_sg_out h1 hp l)) hc
theorem d_ns_lt {T : ch_B} (h1 : vp_in (T 0 1) 61) (n : Nat) : ∀ p, p ≤ (T 0 1).toNatClampNeg → p + d_ns T p n ≤ (T 0 1).toNatClampNeg := by
  obtain ⟨L, hL, eL⟩ := vp_in_of h1 (by decide)
  have cL : (T 0 1).toNatClampNeg = L := by rw [eL, nI_clamp (by omega)]
  induction n with
  | zero => exact fun p hp => by rw [d_ns]; omega
  | succ n ih =>
    intro p hp
    rw [d_ns]
    split
    · rename_i h
      have hl := d_dg_lt h1 (by omega) (Int32.le_trans (by decide) h.1)
      have := ih (p + 1) (by omega)
      omega
    · omega
theorem d_ns_st {T : ch_B} (n : Nat) : ∀ p i, i < d_ns T p n → 1 ≤ d_dg T (nI (p + i)) ∧ d_dg T (nI (p + i)) ≤ 3 := by
  induction n with
  | zero => exact fun p i hi => absurd hi (by rw [d_ns]; omega)
  | succ n ih =>
    intro p i hi
    rw [d_ns] at hi
    by_cases h : 1 ≤ d_dg T (nI p) ∧ d_dg T (nI p) ≤ 3
    · rw [if_pos h] at hi
      cases i with
      | zero => exact h
      | succ i =>
        rw [show p + (i + 1) = p + 1 + i by omega]
        exact ih (p + 1) i (by omega)
    · rw [if_neg h] at hi
      omega
