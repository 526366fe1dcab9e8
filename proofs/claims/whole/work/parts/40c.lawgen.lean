/-! turns of the law: what they share -/
def lw_L (x5 : Int32) (o6 o7 o8 o9 : Option ch_V) : ch_LT := [some (.inr (11, 0, 0)), some (.inr (0, 0, 0)), some (.inr (9, 0, 0)), some (.inr (10, 0, 1)), some (.inr (10, 0, 2)), some (.inl (.int x5)), o6, o7, o8, o9]
/-- from the end of a turn on -/
def lw_N (g : ch_G) (R : Room) (E : ch_En) (x5 : Int32) (k T : Nat) : Prop := ∀ (m' : ch_M) (k' : Nat) (o6 o7 o8 o9 : Option ch_V), lw_inv T m' → k' ≤ k + 2 → ch_J g m_l_law R E 2096 (lw_L x5 o6 o7 o8 o9) [] m' k'
theorem lw_cmp0 (x : Int64) : lg_cmp x x = 0 := by
  unfold lg_cmp
  rw [if_neg (show ¬ x > x from Int64.lt_irrefl), if_pos rfl]
theorem lw_f0 {t o v : Int32} {A B C : Prop} (ht : t = 0) (ho : o = v) (hA : A) : (t = 0 → ((lg_cmp o.toInt64 v.toInt64 = 0 → A) ∧ (¬ lg_cmp o.toInt64 v.toInt64 = 0 → B))) ∧ (¬ t = 0 → C) := by
  subst ho
  exact ⟨fun _ => ⟨fun _ => hA, fun z => absurd (lw_cmp0 _) z⟩, fun z => absurd ht z⟩
theorem lw_f1 {t w : Int32} {A C : Prop} (ht : t = w) (hA : A) : (t = w → A) ∧ (¬ t = w → C) := ⟨fun _ => hA, fun z => absurd ht z⟩
theorem lw_f2 {a b : Int32} {A C : Prop} (ht : a = b) (hA : A) : (a = b → A) ∧ (¬ a = b → C) := lw_f1 ht hA
theorem lw_h4 {T : Nat} {m : ch_M} (h : lw_inv T m) : vp_in (m (9, 0, 0) 4) 9 := by
  obtain ⟨-, -, -, -, -, -, ⟨n, c, p1, p2, p3, p4, p5, p6⟩, -⟩ := h
  have e : m (9, 0, 0) 4 = nI c := p5
  rw [e]
  exact vp_in_nI (by omega) (by decide)
theorem lw_pn {T : Nat} {m : ch_M} (h : lw_inv T m) : vp_in (m (2, 0, 0) 1) 8 := by
  obtain ⟨-, -, -, -, -, -, ⟨n, c, p1, p2, p3, p4, p5, p6⟩, -⟩ := h
  have e : m (2, 0, 0) 1 = nI n := p3
  rw [e]
  exact vp_in_nI p1 (by decide)
theorem lw_y {T : Nat} {m : ch_M} (h : lw_inv T m) : y_inv T (ch_ob m 1 0) := h.1.1
theorem lw_r {T : Nat} {m : ch_M} (h : lw_inv T m) : m_rel (ch_ob m 1 0) (m (9, 0, 1)) := h.1.2
theorem lw_s {T : Nat} {m : ch_M} (h : lw_inv T m) : vp_in (m (5, 0, 0) 1) 13 := h.2.2.2.2.2.2.2
theorem lw_inv_K {T : Nat} {m : ch_M} (h : lw_inv T m) (a b c d : Int32) : lw_inv T (x_K m a b c d) := by
  refine lw_inv_same h (lw_same_os m _ (fun c i => by unfold lw_used; omega)) ?_
  unfold x_K
  rw [ch_ob_ne (by omega)]
  exact lw_bq_refl _
theorem lw_inv_S {T : Nat} {m : ch_M} (h : lw_inv T m) (p : Int32) : lw_inv T (x_S m p) := by
  have k : ∀ a j, a ≠ 5 → ch_ob (x_S m p) a j = ch_ob m a j := fun a j h1 => ch_ob_ne (fun z => h1 z.1)
  have kc : ∀ a j c i, a ≠ 5 → x_S m p (a, j, c) i = m (a, j, c) i := fun a j c i h1 => congrFun (congrFun (k a j h1) c) i
  obtain ⟨h1, h2, h3, h4, h5, h6, h7, h8⟩ := h
  have e3 : (fun i => ch_ob (x_S m p) 1 (4 + i)) = fun i => ch_ob m 1 (4 + i) := by
    funext i
    exact k 1 (4 + i) (by decide)
  have e5 : x_S m p (5, 0, 0) 1 = s_rfB (ch_ob m 5 0) p 0 1 := by
    unfold x_S
    rw [ch_os_at]
  unfold lw_inv
  rw [k 1 0 (by decide), k 1 3 (by decide), e3, k 2 0 (by decide), k 3 0 (by decide), k 6 0 (by decide), k 6 1 (by decide), k 9 0 (by decide), kc 0 0 0 12 (by decide), kc 0 0 0 13 (by decide), e5]
  exact ⟨h1, h2, h3, h4, h5, h6, h7, s_rfB_n _ _⟩
theorem lw_pre {T : Nat} {M : ch_M} (h : lw_inv T M) (hT : T + 12 < 2 ^ 31) (hT0 : 0 < T) : vp_in (M (1, 0, 0) 8) 6 ∧ vp_in (M (5, 0, 0) 1) 13 ∧ vp_in (M (2, 0, 0) 1) 8 ∧ ((x_R M).1 = 0 → y_inv (T + 12) (x_C M).2 ∧ y_carP (ch_ob M 1 0) (ch_ob M 4 0) (M (5, 0, 0) 1)) :=
  ⟨y_i8 (lw_y h), lw_s h, lw_pn h, fun z => y_car_inv hT hT0 (lw_y h) (lw_s h) z⟩
theorem lw_K4 (m : ch_M) (a b c d : Int32) : ch_ob (x_K m a b c d) 4 0 0 1 = a ∧ ch_ob (x_K m a b c d) 4 0 0 2 = b ∧ ch_ob (x_K m a b c d) 4 0 0 3 = c ∧ ch_ob (x_K m a b c d) 4 0 0 4 = d := by
  unfold x_K
  rw [ch_ob_os]
  unfold c_setB
  refine ⟨?_, ?_, ?_, ch_bw_at _ _ _ _⟩
  · rw [ch_bw_k (by decide), ch_bw_k (by decide), ch_bw_k (by decide), ch_bw_at]
  · rw [ch_bw_k (by decide), ch_bw_k (by decide), ch_bw_at]
  · rw [ch_bw_k (by decide), ch_bw_at]
theorem lw_K9 (m : ch_M) (a b c d : Int32) : ch_ob (x_K m a b c d) 9 0 = ch_ob m 9 0 := ch_ob_ne (by omega)
theorem lw_RC {M : ch_M} {a : Int32} (h1 : ch_ob M 4 0 0 1 = a) :
    (a = 110 → x_R M = r_wn (ch_ob M 1 0) (ch_ob M 4 0 0 4) ∧ x_C M = (ch_ob M 1 0 0 8 + 1 - 1, y_briB (ch_ob M 1 0) (ch_ob M 4 0 0 4))) ∧
    (a = 99 → x_R M = r_wc (ch_ob M 1 0) (ch_ob M 4 0 0 2) (ch_ob M 4 0 0 4) ∧ x_C M = (y_chv (ch_ob M 1 0) (ch_ob M 4 0 0 4), y_chaB (ch_ob M 1 0) (ch_ob M 4 0 0 2) (ch_ob M 4 0 0 4))) ∧
    (a = 104 → x_R M = r_wh (ch_ob M 1 0) (ch_ob M 4 0 0 2) (M (5, 0, 1)) (M (5, 0, 0) 1) ∧ x_C M = (y_ct (ch_ob M 1 0) (ch_ob M 4 0 0 2) (M (5, 0, 1)) (M (5, 0, 0) 1).toNatClampNeg, y_hopB (ch_ob M 1 0) (ch_ob M 4 0 0 2) (M (5, 0, 1)) (M (5, 0, 0) 1).toNatClampNeg)) ∧
    (a = 119 → x_R M = r_ww (ch_ob M 1 0) (ch_ob M 4 0 0 2) ∧ x_C M = (if 9 < ch_ob M 1 0 4 (ch_ob M 4 0 0 2).toNatClampNeg then 9 else ch_ob M 1 0 4 (ch_ob M 4 0 0 2).toNatClampNeg, y_wriB (ch_ob M 1 0) (ch_ob M 4 0 0 2))) ∧
    (a = 115 → x_R M = r_ws (ch_ob M 1 0) (ch_ob M 4 0 0 2) ∧ x_C M = (ch_ob M 1 0 3 (ch_ob M 4 0 0 2).toNatClampNeg - ch_ob M 1 0 5 (ch_ob M 4 0 0 2).toNatClampNeg, y_strB (ch_ob M 1 0) (ch_ob M 4 0 0 2))) ∧
    (a = 114 → x_R M = r_wr (ch_ob M 1 0) (ch_ob M 4 0 0 4) ∧ x_C M = (y_washR (ch_ob M 1 0) (ch_ob M 4 0 0 4), y_washB (ch_ob M 1 0) (ch_ob M 4 0 0 4))) ∧
    (a = 116 → x_R M = r_wt (ch_ob M 1 0) ∧ x_C M = (y_termR (ch_ob M 1 0), y_termB (ch_ob M 1 0))) ∧
    (a = 103 → x_R M = r_wg (ch_ob M 1 0) (ch_ob M 4 0 0 2) (ch_ob M 4 0 0 3) (ch_ob M 4 0 0 4) ∧ x_C M = (y_givB (ch_ob M 1 0) (ch_ob M 4 0 0 2) (ch_ob M 4 0 0 3) (ch_ob M 4 0 0 4) 3 (ch_ob M 4 0 0 2).toNatClampNeg, y_givB (ch_ob M 1 0) (ch_ob M 4 0 0 2) (ch_ob M 4 0 0 3) (ch_ob M 4 0 0 4))) := by
  unfold x_R x_C r_w y_car
  rw [h1]
  refine ⟨fun z => ?_, fun z => ?_, fun z => ?_, fun z => ?_, fun z => ?_, fun z => ?_, fun z => ?_, fun z => ?_⟩
  · subst z; exact ⟨rfl, rfl⟩
  · subst z; exact ⟨rfl, rfl⟩
  · subst z; exact ⟨rfl, rfl⟩
  · subst z; exact ⟨rfl, rfl⟩
  · subst z; exact ⟨rfl, rfl⟩
  · subst z; exact ⟨rfl, rfl⟩
  · subst z; exact ⟨rfl, rfl⟩
  · subst z; exact ⟨rfl, rfl⟩
/-- a call that changes -/
theorem lw_mut {T T' : Nat} {M : ch_M} {W : Int32 × Int32} {v : Int32} {Y' : ch_B} (hM : lw_inv T M) (hT : T' < 2 ^ 31) (hl : T + 12 ≤ T') (hT0 : 0 < T) (hR : x_R M = W) (hC : x_C M = (v, Y')) :
    (∀ m3, m3 = ch_wr (ch_os (p_kM M 0) 1 0 (x_C M).2) (10, 0, 1) 0 (x_C M).1 → ch_ob m3 9 0 = ch_ob M 9 0 ∧ m_rel (ch_ob M 1 0) (m3 (9, 0, 1)) ∧ vp_in (m3 (9, 0, 0) 4) 9 ∧ (W.1 = 0 → ∀ B m', m_done (ch_ob m3 9 0) B Y' → m' = ch_os m3 9 0 B → m' (9, 0, 0) 19 = 0 ∧ m' (10, 0, 1) 0 = v ∧ lw_inv T' m')) ∧
    (∀ m3, m3 = r_kp M (x_R M).1 (x_R M).2 → m_rel (ch_ob M 1 0) (m3 (9, 0, 1)) ∧ vp_in (m3 (9, 0, 0) 4) 9 ∧ (∀ B m', m_rfd (ch_ob m3 9 0) B W.1 W.2 → m' = ch_os m3 9 0 B → m' (9, 0, 0) 19 = 1 ∧ lw_inv T' m')) := by
  refine ⟨fun m3 e3 => ?_, fun m3 e3 => ?_⟩
  · have e9 : ch_ob m3 9 0 = ch_ob M 9 0 := by
      rw [e3, lw_9_wr _ _ (by omega), ch_ob_ne (by omega)]
      unfold p_kM
      rw [ch_ob_ne (by omega), ch_ob_ne (by omega)]
    have e91 : m3 (9, 0, 1) = M (9, 0, 1) := congrFun e9 1
    have e90 : m3 (9, 0, 0) 4 = M (9, 0, 0) 4 := congrFun (congrFun e9 0) 4
    refine ⟨e9, by rw [e91]; exact lw_r hM, by rw [e90]; exact lw_h4 hM, fun z B m' hB e' => ⟨?_, ?_, ?_⟩⟩
    · rw [e', ch_os_at]
      exact hB.2.1
    · rw [e', e3, hC]
      exact ((congrFun (ch_os_ne (by intro z; exact absurd z.1 (by show ¬ (10 : Nat) = 9; decide))) 0).trans (ch_wr_v _ _ _ _))
    · rw [e', e3]
      rw [e9] at hB
      have hz : (x_R M).1 = 0 := by rw [hR]; exact z
      have hp := (lw_pre hM (by omega) hT0).2.2.2 hz
      have hC2 : (x_C M).2 = Y' := by rw [hC]
      refine lw_inv_done hM hT (by omega) (y_inv_mono hT hp.1 hl) ?_
      rw [hC2]
      exact hB
  · have e9 : ch_ob m3 9 0 = ch_ob M 9 0 := by
      rw [e3]
      unfold r_kp
      rw [ch_ob_ne (by omega)]
    have e91 : m3 (9, 0, 1) = M (9, 0, 1) := congrFun e9 1
    have e90 : m3 (9, 0, 0) 4 = M (9, 0, 0) 4 := congrFun (congrFun e9 0) 4
    refine ⟨by rw [e91]; exact lw_r hM, by rw [e90]; exact lw_h4 hM, fun B m' hB e' => ⟨?_, ?_⟩⟩
    · rw [e', ch_os_at]
      exact hB.2.1
    · rw [e', e3, hR]
      rw [e9] at hB
      exact lw_inv_mono (lw_inv_rfd hM hB) hT (by omega)
