/-! the law's entry: the two sides and the two rows are made -/
theorem cb_e_10 (c t k : Nat) (ht : t = 2 ∨ t = 3) : cb_e (10, 0, c + 1) t k = .inl (defaultValue (ch_ty t)) := by
  have e : ∀ k, cb_M (10, 0, c + 1) k = 0 := fun k => by
    unfold cb_M
    rw [if_neg]
    rintro (⟨h1, -, -⟩ | ⟨h1, -, -⟩ | ⟨h1, -, -⟩)
    · exact absurd (show (10 : Nat) = 1 from h1) (by decide)
    · exact absurd (show (10 : Nat) = 0 from h1) (by decide)
    · exact absurd (show (10 : Nat) = 9 from h1) (by decide)
  rcases ht with rfl | rfl
  · show (Sum.inl (Value.long (cb_M (10, 0, c + 1) k).toInt64) : ch_V) = _
    rw [e]
    rfl
  · show (Sum.inl (Value.double (ch_dv (cb_M (10, 0, c + 1) 0) (cb_M (10, 0, c + 1) 1))) : ch_V) = _
    rw [e, e]
    rfl
set_option maxHeartbeats 1600000 in
theorem lw_entry {g : ch_G} {E : ch_En} (D : Nat → cb_d) (hi : lw_inv 1 cb_M) (hL : (ch_scr g).2.1 ≤ 2048) (hend : ∀ (m : ch_M) (k : Nat) (ls : ch_LT), k ≤ 4000 → ch_J g m_l_law room_1 E 2103 ls [.inl (.int 1)] m k) : cb_J g m_l_law room_1 E 0 [some (.inr (11, 0, 0)), none, none, none, none, none, none, none, none, none] [] (cb_H g 0 D) 0 := by
  have hx : ch_in (0, 0, 0) := cb_in (by decide) (by decide) (by decide) (by decide)
  have hm : ch_in (9, 0, 0) := cb_in (by decide) (by decide) (by decide) (by decide)
  have h1 : ch_in (10, 0, 0 + 1) := ⟨by decide, by decide, by decide, by decide⟩
  have h2 : ch_in (10, 0, 1 + 1) := ⟨by decide, by decide, by decide, by decide⟩
  refine cb_new (ci := 0) (j := 0) (N := 14) (T := ch_F0) (k' := 3) ch_T0 ch_Cl0 ty_0 d_l_law_0 cl_l_law_8 in_0.1 in_0.2 rfl hx ⟨by decide, by decide⟩ ⟨Nat.le_of_ble_eq_true rfl, Nat.le_of_ble_eq_true rfl⟩ ?_
  refine cb_dup d_l_law_3 rfl ?_
  refine cb_call (f' := n_x_init) d_l_law_4 nl_l_law_119 ni_x_init rfl rfl rfl ⟨Nat.le_of_ble_eq_true rfl, Nat.le_of_ble_eq_true rfl⟩ (Nat.le_of_ble_eq_true rfl) ⟨Nat.le_of_ble_eq_true rfl, Nat.le_of_ble_eq_true rfl⟩ (fun H h => by rw [h.1]; exact Nat.le_add_right _ _) (k_x_init g _) ?_
  refine cb_J_imp (P' := cb_H g 126 cb_T) (fun H h => cb_H_cong h (fun i hi => (if_neg (Nat.not_lt_zero i)).symm)) ?_
  refine cb_astore_n (i := 1) (ls' := [some (.inr (11, 0, 0)), some (.inr (0, 0, 0)), none, none, none, none, none, none, none, none]) d_l_law_7 rfl (Nat.le_of_ble_eq_true rfl) rfl ?_
  refine cb_new (ci := 9) (j := 0) (N := 24) (T := ch_F9) (k' := 208) ch_T9 ch_Cl9 ty_9 d_l_law_8 cl_l_law_120 in_9.1 in_9.2 rfl hm ⟨Nat.le_of_ble_eq_true rfl, Nat.le_of_ble_eq_true rfl⟩ ⟨Nat.le_of_ble_eq_true rfl, Nat.le_of_ble_eq_true rfl⟩ ?_
  refine cb_dup d_l_law_11 rfl ?_
  refine cb_call (f' := n_m_init) d_l_law_12 nl_l_law_122 ni_m_init rfl rfl rfl ⟨Nat.le_of_ble_eq_true rfl, Nat.le_of_ble_eq_true rfl⟩ (Nat.le_of_ble_eq_true rfl) ⟨Nat.le_of_ble_eq_true rfl, Nat.le_of_ble_eq_true rfl⟩ (fun H h => by rw [h.1]; exact Nat.le_add_right _ _) (k_m_init g cb_T) ?_
  refine cb_J_imp (P' := cb_H g 138 cb_T) (fun H h => cb_H_cong h (fun i hi => by
    by_cases z : i < ch_off 9 0
    · exact (if_pos z).symm
    · exact (if_neg z).symm)) ?_
  refine cb_astore_n (i := 2) (ls' := [some (.inr (11, 0, 0)), some (.inr (0, 0, 0)), some (.inr (9, 0, 0)), none, none, none, none, none, none, none]) d_l_law_15 rfl (Nat.le_of_ble_eq_true rfl) rfl ?_
  refine cb_iconst (v := 1) d_l_law_16 (by decide) ?_
  refine cb_newa (ci := 10) (j := 0) (c := 0) (t := 2) (len := 1) (k' := 400) d_l_law_17 (by decide) rfl ac_long rfl (by decide) rfl h1 ⟨Nat.le_of_ble_eq_true rfl, Nat.le_of_ble_eq_true rfl⟩ ⟨Nat.le_of_ble_eq_true rfl, Nat.le_of_ble_eq_true rfl⟩ ?_
  refine cb_J_imp (P' := cb_H g 139 cb_T) (fun H h => cb_H_cong h (fun i hi => by
    by_cases z : i = 138
    · rw [z, if_pos rfl, show (138 : Nat) = ch_off 10 0 + (0 + 1) from rfl, cb_T_a h1]
      show (Sum.inr (2, 1, _) : cb_d) = Sum.inr (2, 1, _)
      congr 3
    · exact (if_neg z).symm)) ?_
  refine cb_astore_n (i := 3) (ls' := [some (.inr (11, 0, 0)), some (.inr (0, 0, 0)), some (.inr (9, 0, 0)), some (.inr (10, 0, 1)), none, none, none, none, none, none]) d_l_law_19 rfl (Nat.le_of_ble_eq_true rfl) rfl ?_
  refine cb_iconst (v := 1) d_l_law_20 (by decide) ?_
  refine cb_newa (ci := 10) (j := 0) (c := 1) (t := 3) (len := 1) (k' := 500) d_l_law_21 (by decide) rfl ac_double rfl (by decide) rfl h2 ⟨Nat.le_of_ble_eq_true rfl, Nat.le_of_ble_eq_true rfl⟩ ⟨Nat.le_of_ble_eq_true rfl, Nat.le_of_ble_eq_true rfl⟩ ?_
  refine cb_J_imp (P' := cb_H g 140 cb_T) (fun H h => cb_H_cong h (fun i hi => by
    by_cases z : i = 139
    · rw [z, if_pos rfl, show (139 : Nat) = ch_off 10 0 + (1 + 1) from rfl, cb_T_a h2]
      show (Sum.inr (3, 1, _) : cb_d) = Sum.inr (3, 1, _)
      congr 3
    · exact (if_neg z).symm)) ?_
  refine cb_astore (i := 4) (ls' := [some (.inr (11, 0, 0)), some (.inr (0, 0, 0)), some (.inr (9, 0, 0)), some (.inr (10, 0, 1)), some (.inr (10, 0, 2)), none, none, none, none, none]) d_l_law_23 (Nat.le_of_ble_eq_true rfl) rfl ?_
  refine cb_iconst (v := 0) d_l_law_25 (by decide) ?_
  refine cb_istore (i := 5) (ls' := lw_L 0 none none none none) d_l_law_26 (Nat.le_of_ble_eq_true rfl) rfl ?_
  exact cb_J_imp (fun H h => cb_fin h) (cb_J_of (lw_loop hL hend 512 0 500 none none none none cb_M (by decide) (by decide) hi))
theorem cb_y0 {Y : ch_B} (h1 : ∀ i, i < 12 → Y 1 i = -1) (hz : ∀ a i, a ≠ 1 → Y a i = 0) : y_inv 1 Y ∧ ∀ N : Nat → Int32, (∀ i, N i = 0) → m_rel Y N := by
  have i0 : ∀ n, 0 < n → n < 2 ^ 31 → vp_in 0 n := fun n h1 h2 => vp_in_nI (n := 0) h1 h2
  have c0 : (0 : Int32).toNatClampNeg = 0 := by decide
  constructor
  · unfold y_inv y_tot
    rw [hz 0 8 (by decide), hz 0 9 (by decide), hz 0 10 (by decide), hz 0 11 (by decide), hz 3 0 (by decide), hz 3 1 (by decide), hz 3 2 (by decide), hz 3 3 (by decide), hz 3 4 (by decide), c0]
    refine ⟨⟨i0 6 (by decide) (by decide), i0 6 (by decide) (by decide), fun k hk => ?_⟩, fun q hq => ⟨?_, Or.inl ⟨h1 q hq, hz 2 q (by decide)⟩⟩, fun c hc => ⟨?_, ?_, ?_⟩, fun c _ _ => ⟨hz 3 c (by decide), hz 4 c (by decide), hz 5 c (by decide), hz 6 c (by decide), hz 7 c (by decide)⟩, ⟨fun c hc => ⟨fun z => absurd (hz 5 c (by decide)) z, fun ⟨k, hk, _⟩ => absurd hk (by omega)⟩, fun i j _ hj => absurd hj (by omega)⟩, by omega, by omega, i0 496 (by decide) (by decide), i0 496 (by decide) (by decide)⟩
    · rw [hz 8 k (by decide)]; exact i0 5 (by decide) (by decide)
    · rw [hz 2 q (by decide)]; exact i0 10 (by decide) (by decide)
    · rw [hz 3 c (by decide)]; exact i0 496 (by decide) (by decide)
    · rw [hz 4 c (by decide)]; exact i0 1 (by decide) (by decide)
    · rw [hz 5 c (by decide)]; exact i0 10 (by decide) (by decide)
  · intro N hN
    unfold m_rel
    rw [hz 0 9 (by decide), c0]
    refine ⟨⟨?_, ?_, ?_, ?_, ?_, ?_, ?_, ?_, ?_⟩, fun k _ hk => absurd hk (by omega), fun k hk => ⟨?_, ?_⟩, fun c hc => ⟨?_, ?_, ?_, ?_, ?_⟩⟩
    all_goals rw [hN]
    · rw [hz 0 8 (by decide)]
    · rw [hz 0 10 (by decide)]
    · rw [hz 0 11 (by decide)]
    · rw [hz 0 12 (by decide)]
    · rw [hz 0 13 (by decide)]
    · rw [hz 0 14 (by decide)]
    · rw [hz 0 15 (by decide)]
    · rw [hz 0 16 (by decide)]
    · rw [h1 k hk]; decide
    · rw [hz 2 k (by decide)]
    · rw [hz 3 c (by decide)]
    · rw [hz 4 c (by decide)]
    · rw [hz 5 c (by decide)]
    · rw [hz 6 c (by decide)]
    · rw [hz 7 c (by decide)]
theorem cb_M_inv : lw_inv 1 cb_M := by
  have hY : ∀ j, y_inv 1 (ch_ob cb_M 1 j) ∧ ∀ N : Nat → Int32, (∀ i, N i = 0) → m_rel (ch_ob cb_M 1 j) N := fun j => by
    refine cb_y0 (fun i hi => if_pos (Or.inl ⟨rfl, rfl, hi⟩)) (fun a i ha => if_neg ?_)
    rintro (⟨-, z, -⟩ | ⟨z, -⟩ | ⟨z, -⟩)
    · exact ha z
    · exact absurd (show (1 : Nat) = 0 from z) (by decide)
    · exact absurd (show (1 : Nat) = 9 from z) (by decide)
  have hB : ∀ a i, ¬ (a = 0 ∧ i = 14) → ch_ob cb_M 9 0 a i = 0 := fun a i h => by
    refine if_neg ?_
    rintro (⟨z, -⟩ | ⟨z, -⟩ | ⟨-, z1, z2⟩)
    · exact absurd (show (9 : Nat) = 1 from z) (by decide)
    · exact absurd (show (9 : Nat) = 0 from z) (by decide)
    · exact h ⟨z1, z2⟩
  have hZ : ∀ c j, c ≠ 0 → c ≠ 1 → c ≠ 9 → ch_ob cb_M c j = fun _ _ => 0 := fun c j h1 h2 h3 => by
    funext a i
    exact if_neg (by rintro (⟨z, -⟩ | ⟨z, -⟩ | ⟨z, -⟩) <;> first | exact h1 z | exact h2 z | exact h3 z)
  have i0 : ∀ n, 0 < n → n < 2 ^ 31 → vp_in 0 n := fun n h1 h2 => vp_in_nI (n := 0) h1 h2
  have c0 : (0 : Int32).toNatClampNeg = 0 := by decide
  unfold lw_inv
  rw [hZ 2 0 (by decide) (by decide) (by decide), hZ 3 0 (by decide) (by decide) (by decide), hZ 6 0 (by decide) (by decide) (by decide), hZ 6 1 (by decide) (by decide) (by decide)]
  have h6 : ch_ob cb_M 9 0 0 6 = 0 := hB 0 6 (by omega)
  refine ⟨⟨(hY 0).1, (hY 0).2 _ (fun i => hB 1 i (by omega))⟩, ⟨(hB 0 15 (by omega)).symm, (hB 0 16 (by omega)).symm, (hB 0 17 (by omega)).symm⟩, ?_, ⟨i0 61 (by decide) (by decide), hB 0 10 (by omega), fun k hk => ?_⟩, ⟨i0 61 (by decide) (by decide), (hB 0 8 (by omega)).symm, fun k hk => ?_, fun i _ => rfl⟩, ⟨?_, fun z => absurd ?_ z⟩, ⟨0, 0, by decide, by decide, rfl, rfl, hB 0 4 (by omega), fun k hk => absurd hk (by omega)⟩, ?_⟩
  · rfl
  · exact hB 7 k (by omega)
  · exact hB 6 k (by omega)
  · rw [h6]
    rfl
  · rfl
  · exact i0 13 (by decide) (by decide)
