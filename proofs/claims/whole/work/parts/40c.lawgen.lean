/-! turns of the law: what they share -/
def lw_L (x5 : Int32) (o6 o7 o8 o9 : Option ch_V) : ch_LT := [some (.inr (11, 0, 0)), some (.inr (0, 0, 0)), some (.inr (9, 0, 0)), some (.inr (10, 0, 1)), some (.inr (10, 0, 2)), some (.inl (.int x5)), o6, o7, o8, o9]
/-- from the end of a turn on -/
def lw_N (g : ch_G) (R : Room) (E : ch_En) (x5 : Int32) (k T : Nat) : Prop := ∀ (m' : ch_M) (k' : Nat) (o6 o7 o8 o9 : Option ch_V), lw_inv T m' → k' ≤ k + 2 → ch_J g m_l_law R E 2096 (lw_L x5 o6 o7 o8 o9) [] m' k'
theorem lw_cmp0 (x : Int64) : lg_cmp x x = 0 := by
  unfold lg_cmp
  rw [if_neg (show ¬ x > x from Int64.lt_irrefl), if_pos rfl]
theorem lw_f0 {t o v : Int32} {A B C : Prop} (ht : t = 0) (ho : o = v) (hA : A) : (t = 0 → ((lg_cmp o.toInt64 v.toInt64 = 0 → A) ∧ (¬ lg_cmp o.toInt64 v.toInt64 = 0 → B))) ∧ (¬ t = 0 → C) := by
  subst ho
  exact ⟨fun _ => ⟨fun _ => hA, fun z => absurd (lw_cmp0 _) z⟩, fun z => absurd ht z⟩
theorem lw_f1 {t w : Int32} {A C : Prop} (ht : t = w) (hA : A) : (t = w → A) ∧ (¬ t = w → C) := ⟨fun _ => hA, fun z => absurd ht z⟩
theorem lw_f2 {a b : Int32} {A C : Prop} (ht : a = b) (hA : A) : (a = b → A) ∧ (¬ a = b → C) := lw_f1 ht hA
theorem lw_h4 {T : Nat} {m : ch_M} (h : lw_inv T m) : vp_in (m (9, 0, 0) 4) 9 := by
  obtain ⟨-, -, -, -, -, -, ⟨n, c, p1, p2, p3, p4, p5, p6⟩, -⟩ := h
  have e : m (9, 0, 0) 4 = nI c := p5
  rw [e]
  exact vp_in_nI (by omega) (by decide)
theorem lw_pn {T : Nat} {m : ch_M} (h : lw_inv T m) : vp_in (m (2, 0, 0) 1) 8 := by
  obtain ⟨-, -, -, -, -, -, ⟨n, c, p1, p2, p3, p4, p5, p6⟩, -⟩ := h
  have e : m (2, 0, 0) 1 = nI n := p3
  rw [e]
  exact vp_in_nI p1 (by decide)
theorem lw_y {T : Nat} {m : ch_M} (h : lw_inv T m) : y_inv T (ch_ob m 1 0) := h.1.1
theorem lw_r {T : Nat} {m : ch_M} (h : lw_inv T m) : m_rel (ch_ob m 1 0) (m (9, 0, 1)) := h.1.2
theorem lw_s {T : Nat} {m : ch_M} (h : lw_inv T m) : vp_in (m (5, 0, 0) 1) 13 := h.2.2.2.2.2.2.2
theorem lw_inv_K {T : Nat} {m : ch_M} (h : lw_inv T m) (a b c d : Int32) : lw_inv T (x_K m a b c d) := by
  refine lw_inv_same h (lw_same_os m _ (fun c i => by unfold lw_used; omega)) ?_
  unfold x_K
  rw [ch_ob_ne (by omega)]
  exact lw_bq_refl _
theorem lw_inv_S {T : Nat} {m : ch_M} (h : lw_inv T m) (p : Int32) : lw_inv T (x_S m p) := by
  have k : ∀ a j, a ≠ 5 → ch_ob (x_S m p) a j = ch_ob m a j := fun a j h1 => ch_ob_ne (fun z => h1 z.1)
  have kc : ∀ a j c i, a ≠ 5 → x_S m p (a, j, c) i = m (a, j, c) i := fun a j c i h1 => congrFun (congrFun (k a j h1) c) i
  obtain ⟨h1, h2, h3, h4, h5, h6, h7, h8⟩ := h
  have e3 : (fun i => ch_ob (x_S m p) 1 (4 + i)) = fun i => ch_ob m 1 (4 + i) := by
    funext i
    exact k 1 (4 + i) (by decide)
  have e5 : x_S m p (5, 0, 0) 1 = s_rfB (ch_ob m 5 0) p 0 1 := by
    unfold x_S
    rw [ch_os_at]
  unfold lw_inv
  rw [k 1 0 (by decide), k 1 3 (by decide), e3, k 2 0 (by decide), k 3 0 (by decide), k 6 0 (by decide), k 6 1 (by decide), k 9 0 (by decide), kc 0 0 0 12 (by decide), kc 0 0 0 13 (by decide), e5]
  exact ⟨h1, h2, h3, h4, h5, h6, h7, s_rfB_n _ _⟩
theorem lw_pre {T : Nat} {M : ch_M} (h : lw_inv T M) (hT : T + 12 < 2 ^ 31) (hT0 : 0 < T) : vp_in (M (1, 0, 0) 8) 6 ∧ vp_in (M (5, 0, 0) 1) 13 ∧ vp_in (M (2, 0, 0) 1) 8 ∧ ((x_R M).1 = 0 → y_inv (T + 12) (x_C M).2 ∧ y_carP (ch_ob M 1 0) (ch_ob M 4 0) (M (5, 0, 0) 1)) :=
  ⟨y_i8 (lw_y h), lw_s h, lw_pn h, fun z => y_car_inv hT hT0 (lw_y h) (lw_s h) z⟩
theorem lw_K4 (m : ch_M) (a b c d : Int32) : ch_ob (x_K m a b c d) 4 0 0 1 = a ∧ ch_ob (x_K m a b c d) 4 0 0 2 = b ∧ ch_ob (x_K m a b c d) 4 0 0 3 = c ∧ ch_ob (x_K m a b c d) 4 0 0 4 = d := by
  unfold x_K
  rw [ch_ob_os]
  unfold c_setB
  refine ⟨?_, ?_, ?_, ch_bw_at _ _ _ _⟩
  · rw [ch_bw_k (by decide), ch_bw_k (by decide), ch_bw_k (by decide), ch_bw_at]
  · rw [ch_bw_k (by decide), ch_bw_k (by decide), ch_bw_at]
  · rw [ch_bw_k (by decide), ch_bw_at]
theorem lw_K9 (m : ch_M) (a b c d : Int32) : ch_ob (x_K m a b c d) 9 0 = ch_ob m 9 0 := ch_ob_ne (by omega)
theorem lw_RC {M : ch_M} {a : Int32} (h1 : ch_ob M 4 0 0 1 = a) :
    (a = 110 → x_R M = r_wn (ch_ob M 1 0) (ch_ob M 4 0 0 4) ∧ x_C M = (ch_ob M 1 0 0 8 + 1 - 1, y_briB (ch_ob M 1 0) (ch_ob M 4 0 0 4))) ∧
    (a = 99 → x_R M = r_wc (ch_ob M 1 0) (ch_ob M 4 0 0 2) (ch_ob M 4 0 0 4) ∧ x_C M = (y_chv (ch_ob M 1 0) (ch_ob M 4 0 0 4), y_chaB (ch_ob M 1 0) (ch_ob M 4 0 0 2) (ch_ob M 4 0 0 4))) ∧
    (a = 104 → x_R M = r_wh (ch_ob M 1 0) (ch_ob M 4 0 0 2) (M (5, 0, 1)) (M (5, 0, 0) 1) ∧ x_C M = (y_ct (ch_ob M 1 0) (ch_ob M 4 0 0 2) (M (5, 0, 1)) (M (5, 0, 0) 1).toNatClampNeg, y_hopB (ch_ob M 1 0) (ch_ob M 4 0 0 2) (M (5, 0, 1)) (M (5, 0, 0) 1).toNatClampNeg)) ∧
    (a = 119 → x_R M = r_ww (ch_ob M 1 0) (ch_ob M 4 0 0 2) ∧ x_C M = (if 9 < ch_ob M 1 0 4 (ch_ob M 4 0 0 2).toNatClampNeg then 9 else ch_ob M 1 0 4 (ch_ob M 4 0 0 2).toNatClampNeg, y_wriB (ch_ob M 1 0) (ch_ob M 4 0 0 2))) ∧
    (a = 115 → x_R M = r_ws (ch_ob M 1 0) (ch_ob M 4 0 0 2) ∧ x_C M = (ch_ob M 1 0 3 (ch_ob M 4 0 0 2).toNatClampNeg - ch_ob M 1 0 5 (ch_ob M 4 0 0 2).toNatClampNeg, y_strB (ch_ob M 1 0) (ch_ob M 4 0 0 2))) ∧
    (a = 114 → x_R M = r_wr (ch_ob M 1 0) (ch_ob M 4 0 0 4) ∧ x_C M = (y_washR (ch_ob M 1 0) (ch_ob M 4 0 0 4), y_washB (ch_ob M 1 0) (ch_ob M 4 0 0 4))) ∧
    (a = 116 → x_R M = r_wt (ch_ob M 1 0) ∧ x_C M = (y_termR (ch_ob M 1 0), y_termB (ch_ob M 1 0))) ∧
    (a = 103 → x_R M = r_wg (ch_ob M 1 0) (ch_ob M 4 0 0 2) (ch_ob M 4 0 0 3) (ch_ob M 4 0 0 4) ∧ x_C M = (y_givB (ch_ob M 1 0) (ch_ob M 4 0 0 2) (ch_ob M 4 0 0 3) (ch_ob M 4 0 0 4) 3 (ch_ob M 4 0 0 2).toNatClampNeg, y_givB (ch_ob M 1 0) (ch_ob M 4 0 0 2) (ch_ob M 4 0 0 3) (ch_ob M 4 0 0 4))) := by
  unfold x_R x_C r_w y_car
  rw [h1]
  refine ⟨fun z => ?_, fun z => ?_, fun z => ?_, fun z => ?_, fun z => ?_, fun z => ?_, fun z => ?_, fun z => ?_⟩
  · subst z; exact ⟨rfl, rfl⟩
  · subst z; exact ⟨rfl, rfl⟩
  · subst z; exact ⟨rfl, rfl⟩
  · subst z; exact ⟨rfl, rfl⟩
  · subst z; exact ⟨rfl, rfl⟩
  · subst z; exact ⟨rfl, rfl⟩
  · subst z; exact ⟨rfl, rfl⟩
  · subst z; exact ⟨rfl, rfl⟩
/-- a call that changes -/
theorem lw_mut {T T' : Nat} {M : ch_M} {W : Int32 × Int32} {v : Int32} {Y' : ch_B} (hM : lw_inv T M) (hT : T' < 2 ^ 31) (hl : T + 12 ≤ T') (hT0 : 0 < T) (hR : x_R M = W) (hC : x_C M = (v, Y')) :
    (∀ m3, m3 = ch_wr (ch_os (p_kM M 0) 1 0 (x_C M).2) (10, 0, 1) 0 (x_C M).1 → ch_ob m3 9 0 = ch_ob M 9 0 ∧ m_rel (ch_ob M 1 0) (m3 (9, 0, 1)) ∧ vp_in (m3 (9, 0, 0) 4) 9 ∧ (W.1 = 0 → ∀ B m', m_done (ch_ob m3 9 0) B Y' → m' = ch_os m3 9 0 B → m' (9, 0, 0) 19 = 0 ∧ m' (10, 0, 1) 0 = v ∧ lw_inv T' m')) ∧
    (∀ m3, m3 = r_kp M (x_R M).1 (x_R M).2 → m_rel (ch_ob M 1 0) (m3 (9, 0, 1)) ∧ vp_in (m3 (9, 0, 0) 4) 9 ∧ (∀ B m', m_rfd (ch_ob m3 9 0) B W.1 W.2 → m' = ch_os m3 9 0 B → m' (9, 0, 0) 19 = 1 ∧ lw_inv T' m')) := by
  refine ⟨fun m3 e3 => ?_, fun m3 e3 => ?_⟩
  · have e9 : ch_ob m3 9 0 = ch_ob M 9 0 := by
      rw [e3, lw_9_wr _ _ (by omega), ch_ob_ne (by omega)]
      unfold p_kM
      rw [ch_ob_ne (by omega), ch_ob_ne (by omega)]
    have e91 : m3 (9, 0, 1) = M (9, 0, 1) := congrFun e9 1
    have e90 : m3 (9, 0, 0) 4 = M (9, 0, 0) 4 := congrFun (congrFun e9 0) 4
    refine ⟨e9, by rw [e91]; exact lw_r hM, by rw [e90]; exact lw_h4 hM, fun z B m' hB e' => ⟨?_, ?_, ?_⟩⟩
    · rw [e', ch_os_at]
      exact hB.2.1
    · rw [e', e3, hC]
      exact ((congrFun (ch_os_ne (by intro z; exact absurd z.1 (by show ¬ (10 : Nat) = 9; decide))) 0).trans (ch_wr_v _ _ _ _))
    · rw [e', e3]
      rw [e9] at hB
      have hz : (x_R M).1 = 0 := by rw [hR]; exact z
      have hp := (lw_pre hM (by omega) hT0).2.2.2 hz
      have hC2 : (x_C M).2 = Y' := by rw [hC]
      refine lw_inv_done hM hT (by omega) (y_inv_mono hT hp.1 hl) ?_
      rw [hC2]
      exact hB
  · have e9 : ch_ob m3 9 0 = ch_ob M 9 0 := by
      rw [e3]
      unfold r_kp
      rw [ch_ob_ne (by omega)]
    have e91 : m3 (9, 0, 1) = M (9, 0, 1) := congrFun e9 1
    have e90 : m3 (9, 0, 0) 4 = M (9, 0, 0) 4 := congrFun (congrFun e9 0) 4
    refine ⟨by rw [e91]; exact lw_r hM, by rw [e90]; exact lw_h4 hM, fun B m' hB e' => ⟨?_, ?_⟩⟩
    · rw [e', ch_os_at]
      exact hB.2.1
    · rw [e', e3, hR]
      rw [e9] at hB
      exact lw_inv_mono (lw_inv_rfd hM hB) hT (by omega)
section LWQ
variable {g : ch_G} {R : Room} {E : ch_En} {x5 : Int32} {k T : Nat} {m m3 m' : ch_M} {v w : Int32} {k' : Nat} {B C : Prop} {o6 o7 o8 o9 : Option ch_V}
theorem lw_q0 (h : lw_inv T m) (hT : T + 800 < 2 ^ 30) (hn : lw_N g R E x5 k (T + 800)) (e3 : m3 = ch_wr m (10, 0, 1) 0 v) (e' : m' = ch_wr m3 (9, 0, 0) 19 0) (ev : v = w) (hk : k' ≤ k + 2) : (m' (9, 0, 0) 19 = 0 → ((lg_cmp (m' (10, 0, 1) 0).toInt64 w.toInt64 = 0 → ch_J g m_l_law R E 2096 (lw_L x5 o6 o7 o8 o9) [] m' k') ∧ (¬ lg_cmp (m' (10, 0, 1) 0).toInt64 w.toInt64 = 0 → B))) ∧ (¬ m' (9, 0, 0) 19 = 0 → C) := by
  subst e3 e'
  refine lw_f0 (ch_wr_v _ _ _ _) ?_ (hn _ _ _ _ _ _ (lw_inv_mono (lw_inv_q h _ _) (by omega) (by omega)) hk)
  rw [ch_wr_ne (by decide), ch_wr_v]
  exact ev
theorem lw_q1 {t : Int32} (h : lw_inv T m) (hT : T + 800 < 2 ^ 30) (hn : lw_N g R E x5 k (T + 800)) (e' : m' = ch_wr m (9, 0, 0) 19 t) (hk : k' ≤ k + 2) : (m' (9, 0, 0) 19 = t → ch_J g m_l_law R E 2096 (lw_L x5 o6 o7 o8 o9) [] m' k') ∧ (¬ m' (9, 0, 0) 19 = t → C) := by
  subst e'
  exact lw_f1 (ch_wr_v _ _ _ _) (hn _ _ _ _ _ _ (lw_inv_mono (lw_inv_t h _) (by omega) (by omega)) hk)
theorem lw_q2 {t : Int32} {a b : Int32} (h : lw_inv T m) (hT : T + 800 < 2 ^ 30) (hn : lw_N g R E x5 k (T + 800)) (e' : m' = ch_wr m (9, 0, 0) 19 t) (hk : k' ≤ k + 2) (hab : a = b) : (a = b → ch_J g m_l_law R E 2096 (lw_L x5 o6 o7 o8 o9) [] m' k') ∧ (¬ a = b → C) := by
  subst e'
  exact lw_f1 hab (hn _ _ _ _ _ _ (lw_inv_mono (lw_inv_t h _) (by omega) (by omega)) hk)
theorem lw_93 (e3 : m3 = ch_wr m (10, 0, 1) 0 v) (c : Nat) : m3 (9, 0, c) = m (9, 0, c) := by
  rw [e3]
  exact ch_wr_ne (by intro z; injection z with z1 z2; exact absurd z1 (by decide))
theorem lw_rr3 (h : lw_inv T m) (e3 : m3 = ch_wr m (10, 0, 1) 0 v) : m_rel (ch_ob m 1 0) (m3 (9, 0, 1)) := by
  rw [lw_93 e3]
  exact lw_r h
end LWQ
theorem y_ev_inv {T : Nat} {Y : ch_B} (h : y_inv T Y) : x_ev Y := by
  obtain ⟨n, hn, en⟩ := vp_in_of (y_i8 h) (by decide)
  have cn : (Y 0 8).toNatClampNeg = n := by rw [en, nI_clamp (by omega)]
  obtain ⟨a0, h0, e0⟩ := vp_in_of (y_i3 h (c := 0) (by decide)) (by decide)
  obtain ⟨a1, h1, e1⟩ := vp_in_of (y_i3 h (c := 1) (by decide)) (by decide)
  obtain ⟨a2, h2, e2⟩ := vp_in_of (y_i3 h (c := 2) (by decide)) (by decide)
  obtain ⟨a3, h3, e3⟩ := vp_in_of (y_i3 h (c := 3) (by decide)) (by decide)
  obtain ⟨a4, h4, e4⟩ := vp_in_of (y_i3 h (c := 4) (by decide)) (by decide)
  obtain ⟨-, hq, -, hz, -, g1, g2, g3, g4⟩ := h
  obtain ⟨C, hC, eC⟩ := vp_in_of g4 (by decide)
  obtain ⟨Br, hBr, eBr⟩ := vp_in_of g3 (by decide)
  have g5 : a0 + a1 + a2 + a3 + a4 + C = Br := by
    unfold y_tot at g1
    rw [e0, e1, e2, e3, e4, eC, eBr, nI_clamp (by omega), nI_clamp (by omega), nI_clamp (by omega), nI_clamp (by omega), nI_clamp (by omega), nI_clamp (by omega), nI_clamp (by omega)] at g1
    exact g1
  have z : ∀ c a, c < 5 → n ≤ c → Y 3 c = nI a → a < 496 → a = 0 := fun c a hc hl e ha => by
    have := (hz c (by omega) hc).1
    rw [e] at this
    exact (nI_0i (by omega)).mp this
  refine ⟨?_, ?_⟩
  · rw [cn, eC, eBr, ← g5]
    have s0 : y_sum (Y 3) 0 = nI 0 := rfl
    have s1 : y_sum (Y 3) 1 = nI a0 := by rw [y_sum, s0, e0, nI_add, Nat.zero_add]
    have s2 : y_sum (Y 3) 2 = nI (a0 + a1) := by rw [y_sum, s1, e1, nI_add]
    have s3 : y_sum (Y 3) 3 = nI (a0 + a1 + a2) := by rw [y_sum, s2, e2, nI_add]
    have s4 : y_sum (Y 3) 4 = nI (a0 + a1 + a2 + a3) := by rw [y_sum, s3, e3, nI_add]
    have s5 : y_sum (Y 3) 5 = nI (a0 + a1 + a2 + a3 + a4) := by rw [y_sum, s4, e4, nI_add]
    have z0 := z 0 a0 (by decide)
    have z1 := z 1 a1 (by decide)
    have z2 := z 2 a2 (by decide)
    have z3 := z 3 a3 (by decide)
    have z4 := z 4 a4 (by decide)
    match n, hn with
    | 0, _ =>
      have := z0 (by omega) e0 h0
      have := z1 (by omega) e1 h1
      have := z2 (by omega) e2 h2
      have := z3 (by omega) e3 h3
      have := z4 (by omega) e4 h4
      rw [s0, nI_add]
      congr 1
      omega
    | 1, _ =>
      have := z1 (by omega) e1 h1
      have := z2 (by omega) e2 h2
      have := z3 (by omega) e3 h3
      have := z4 (by omega) e4 h4
      rw [s1, nI_add]
      congr 1
      omega
    | 2, _ =>
      have := z2 (by omega) e2 h2
      have := z3 (by omega) e3 h3
      have := z4 (by omega) e4 h4
      rw [s2, nI_add]
      congr 1
      omega
    | 3, _ =>
      have := z3 (by omega) e3 h3
      have := z4 (by omega) e4 h4
      rw [s3, nI_add]
      congr 1
      omega
    | 4, _ =>
      have := z4 (by omega) e4 h4
      rw [s4, nI_add]
      congr 1
      omega
    | 5, _ =>
      rw [s5, nI_add]
  · intro k hk
    obtain ⟨v, hv, ev⟩ := vp_in_of (hq k hk).1 (by decide)
    rcases (hq k hk).2 with ⟨b1, b2⟩ | ⟨c, b1, b2, b3⟩
    · rw [b1, b2]
      exact ⟨fun y => absurd (by decide) y, fun y => absurd rfl y⟩
    · rw [cn] at b1
      rw [b2, ev]
      have hv0 : v ≠ 0 := fun y => b3 (by rw [ev, y]; rfl)
      refine ⟨fun _ y => ?_, fun _ => nI_nle (by omega) (by omega)⟩
      exact nI_pos (n := c) (by omega) (by rw [y]; decide)
