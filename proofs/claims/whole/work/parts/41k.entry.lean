/-! the law's entry: the two sides and the two rows are made -/
theorem cb_e_10 (c t k : Nat) (ht : t = 2 ∨ t = 3) : cb_e (10, 0, c + 1) t k = .inl (defaultValue (ch_ty t)) := by
  have e : ∀ k, cb_M (10, 0, c + 1) k = 0 := fun k => by
    unfold cb_M
    rw [if_neg]
    rintro (⟨h1, -, -⟩ | ⟨h1, -, -⟩ | ⟨h1, -, -⟩)
    · exact absurd (show (10 : Nat) = 1 from h1) (by decide)
    · exact absurd (show (10 : Nat) = 0 from h1) (by decide)
    · exact absurd (show (10 : Nat) = 9 from h1) (by decide)
  rcases ht with rfl | rfl
  · show (Sum.inl (Value.long (cb_M (10, 0, c + 1) k).toInt64) : ch_V) = _
    rw [e]
    rfl
  · show (Sum.inl (Value.double (ch_dv (cb_M (10, 0, c + 1) 0) (cb_M (10, 0, c + 1) 1))) : ch_V) = _
    rw [e, e]
    rfl
set_option maxHeartbeats 1600000 in
theorem lw_entry {g : ch_G} {E : ch_En} (D : Nat → cb_d) (hi : lw_inv 1 cb_M) (hL : (ch_scr g).2.1 ≤ 2048) (hend : ∀ (m : ch_M) (k : Nat) (ls : ch_LT), k ≤ 4000 → ch_J g m_l_law room_1 E 2103 ls [.inl (.int 1)] m k) : cb_J g m_l_law room_1 E 0 [some (.inr (11, 0, 0)), none, none, none, none, none, none, none, none, none] [] (cb_H g 0 D) 0 := by
  have hx : ch_in (0, 0, 0) := cb_in (by decide) (by decide) (by decide) (by decide)
  have hm : ch_in (9, 0, 0) := cb_in (by decide) (by decide) (by decide) (by decide)
  have h1 : ch_in (10, 0, 0 + 1) := ⟨by decide, by decide, by decide, by decide⟩
  have h2 : ch_in (10, 0, 1 + 1) := ⟨by decide, by decide, by decide, by decide⟩
  refine cb_new (ci := 0) (j := 0) (N := 14) (T := ch_F0) (k' := 3) ch_T0 ch_Cl0 ty_0 d_l_law_0 cl_l_law_8 in_0.1 in_0.2 rfl hx ⟨by decide, by decide⟩ ⟨Nat.le_of_ble_eq_true rfl, Nat.le_of_ble_eq_true rfl⟩ ?_
  refine cb_dup d_l_law_3 rfl ?_
  refine cb_call (f' := n_x_init) d_l_law_4 nl_l_law_119 ni_x_init rfl rfl rfl ⟨Nat.le_of_ble_eq_true rfl, Nat.le_of_ble_eq_true rfl⟩ (Nat.le_of_ble_eq_true rfl) ⟨Nat.le_of_ble_eq_true rfl, Nat.le_of_ble_eq_true rfl⟩ (fun H h => by rw [h.1]; exact Nat.le_add_right _ _) (k_x_init g _) ?_
  refine cb_J_imp (P' := cb_H g 126 cb_T) (fun H h => cb_H_cong h (fun i hi => (if_neg (Nat.not_lt_zero i)).symm)) ?_
  refine cb_astore_n (i := 1) (ls' := [some (.inr (11, 0, 0)), some (.inr (0, 0, 0)), none, none, none, none, none, none, none, none]) d_l_law_7 rfl (Nat.le_of_ble_eq_true rfl) rfl ?_
  refine cb_new (ci := 9) (j := 0) (N := 24) (T := ch_F9) (k' := 208) ch_T9 ch_Cl9 ty_9 d_l_law_8 cl_l_law_120 in_9.1 in_9.2 rfl hm ⟨Nat.le_of_ble_eq_true rfl, Nat.le_of_ble_eq_true rfl⟩ ⟨Nat.le_of_ble_eq_true rfl, Nat.le_of_ble_eq_true rfl⟩ ?_
  refine cb_dup d_l_law_11 rfl ?_
  refine cb_call (f' := n_m_init) d_l_law_12 nl_l_law_122 ni_m_init rfl rfl rfl ⟨Nat.le_of_ble_eq_true rfl, Nat.le_of_ble_eq_true rfl⟩ (Nat.le_of_ble_eq_true rfl) ⟨Nat.le_of_ble_eq_true rfl, Nat.le_of_ble_eq_true rfl⟩ (fun H h => by rw [h.1]; exact Nat.le_add_right _ _) (k_m_init g cb_T) ?_
  refine cb_J_imp (P' := cb_H g 138 cb_T) (fun H h => cb_H_cong h (fun i hi => by
    by_cases z : i < ch_off 9 0
    · exact (if_pos z).symm
    · exact (if_neg z).symm)) ?_
  refine cb_astore_n (i := 2) (ls' := [some (.inr (11, 0, 0)), some (.inr (0, 0, 0)), some (.inr (9, 0, 0)), none, none, none, none, none, none, none]) d_l_law_15 rfl (Nat.le_of_ble_eq_true rfl) rfl ?_
  refine cb_iconst (v := 1) d_l_law_16 (by decide) ?_
  refine cb_newa (ci := 10) (j := 0) (c := 0) (t := 2) (len := 1) (k' := 400) d_l_law_17 (by decide) rfl ac_long rfl (by decide) rfl h1 ⟨Nat.le_of_ble_eq_true rfl, Nat.le_of_ble_eq_true rfl⟩ ⟨Nat.le_of_ble_eq_true rfl, Nat.le_of_ble_eq_true rfl⟩ ?_
  refine cb_J_imp (P' := cb_H g 139 cb_T) (fun H h => cb_H_cong h (fun i hi => by
    by_cases z : i = 138
    · rw [z, if_pos rfl, show (138 : Nat) = ch_off 10 0 + (0 + 1) from rfl, cb_T_a h1]
      show (Sum.inr (2, 1, _) : cb_d) = Sum.inr (2, 1, _)
      congr 3
      funext k
      exact cb_e_10 0 2 k (Or.inl rfl)
    · exact (if_neg z).symm)) ?_
  refine cb_astore_n (i := 3) (ls' := [some (.inr (11, 0, 0)), some (.inr (0, 0, 0)), some (.inr (9, 0, 0)), some (.inr (10, 0, 1)), none, none, none, none, none, none]) d_l_law_19 rfl (Nat.le_of_ble_eq_true rfl) rfl ?_
  refine cb_iconst (v := 1) d_l_law_20 (by decide) ?_
  refine cb_newa (ci := 10) (j := 0) (c := 1) (t := 3) (len := 1) (k' := 500) d_l_law_21 (by decide) rfl ac_double rfl (by decide) rfl h2 ⟨Nat.le_of_ble_eq_true rfl, Nat.le_of_ble_eq_true rfl⟩ ⟨Nat.le_of_ble_eq_true rfl, Nat.le_of_ble_eq_true rfl⟩ ?_
  refine cb_J_imp (P' := cb_H g 140 cb_T) (fun H h => cb_H_cong h (fun i hi => by
    by_cases z : i = 139
    · rw [z, if_pos rfl, show (139 : Nat) = ch_off 10 0 + (1 + 1) from rfl, cb_T_a h2]
      show (Sum.inr (3, 1, _) : cb_d) = Sum.inr (3, 1, _)
      congr 3
      funext k
      exact cb_e_10 1 3 k (Or.inr rfl)
    · exact (if_neg z).symm)) ?_
  refine cb_astore (i := 4) (ls' := [some (.inr (11, 0, 0)), some (.inr (0, 0, 0)), some (.inr (9, 0, 0)), some (.inr (10, 0, 1)), some (.inr (10, 0, 2)), none, none, none, none, none]) d_l_law_23 (Nat.le_of_ble_eq_true rfl) rfl ?_
  refine cb_iconst (v := 0) d_l_law_25 (by decide) ?_
  refine cb_istore (i := 5) (ls' := lw_L 0 none none none none) d_l_law_26 (Nat.le_of_ble_eq_true rfl) rfl ?_
  exact cb_J_imp (fun H h => cb_fin h) (cb_J_of (lw_loop hL hend 512 0 500 none none none none cb_M (by decide) (by decide) hi))
theorem cb_M_inv : lw_inv 1 cb_M := by
  have hY : ∀ j, ch_ob cb_M 1 j = fun a i => if a = 1 ∧ i < 12 then -1 else 0 := fun j => by
    funext a i
    show (if ((1 : Nat) = 1 ∧ a = 1 ∧ i < 12) ∨ ((1 : Nat) = 0 ∧ a = 0 ∧ i = 13) ∨ ((1 : Nat) = 9 ∧ a = 0 ∧ i = 14) then (-1 : Int32) else 0) = if a = 1 ∧ i < 12 then -1 else 0
    by_cases h : a = 1 ∧ i < 12
    · rw [if_pos h, if_pos (Or.inl ⟨rfl, h⟩)]
    · rw [if_neg h, if_neg (by omega)]
  have hB : ch_ob cb_M 9 0 = fun a i => if a = 0 ∧ i = 14 then -1 else 0 := by
    funext a i
    show (if ((9 : Nat) = 1 ∧ a = 1 ∧ i < 12) ∨ ((9 : Nat) = 0 ∧ a = 0 ∧ i = 13) ∨ ((9 : Nat) = 9 ∧ a = 0 ∧ i = 14) then (-1 : Int32) else 0) = if a = 0 ∧ i = 14 then -1 else 0
    by_cases h : a = 0 ∧ i = 14
    · rw [if_pos h, if_pos (Or.inr (Or.inr ⟨rfl, h⟩))]
    · rw [if_neg h, if_neg (by omega)]
  have hZ : ∀ c j, c ≠ 0 → c ≠ 1 → c ≠ 9 → ch_ob cb_M c j = fun _ _ => 0 := fun c j h1 h2 h3 => by
    funext a i
    exact if_neg (by rintro (⟨z, -⟩ | ⟨z, -⟩ | ⟨z, -⟩) <;> first | exact h1 z | exact h2 z | exact h3 z)
  have i0 : ∀ n, 0 < n → n < 2 ^ 31 → vp_in 0 n := fun n h1 h2 => vp_in_nI (n := 0) h1 h2
  unfold lw_inv
  rw [hY 0, hY 3, hB, hZ 2 0 (by decide) (by decide) (by decide), hZ 3 0 (by decide) (by decide) (by decide), hZ 6 0 (by decide) (by decide) (by decide), hZ 6 1 (by decide) (by decide) (by decide)]
  have c0 : (0 : Int32).toNatClampNeg = 0 := by decide
  refine ⟨⟨⟨⟨i0 6 (by decide) (by decide), i0 6 (by decide) (by decide), fun k hk => ?_⟩, fun q hq => ⟨?_, Or.inl ⟨?_, ?_⟩⟩, fun c hc => ⟨?_, ?_, ?_⟩, fun c _ _ => ⟨?_, ?_, ?_, ?_, ?_⟩, ⟨fun c hc => ⟨fun z => absurd ?_ z, fun ⟨k, hk, _⟩ => absurd hk ?_⟩, fun i j _ hj => absurd hj ?_⟩, ?_, ?_, i0 496 (by decide) (by decide), i0 496 (by decide) (by decide)⟩, ?_⟩, ⟨rfl, rfl, rfl⟩, rfl, ⟨i0 61 (by decide) (by decide), rfl, fun k hk => absurd hk (by dsimp only; rw [if_neg (by decide)] <;> omega)⟩, ⟨i0 61 (by decide) (by decide), rfl, fun k hk => absurd hk (by dsimp only; omega), fun i _ => rfl⟩, ⟨rfl, fun z => absurd rfl z⟩, ⟨0, 0, by decide, by decide, rfl, rfl, rfl, fun k hk => absurd hk (by omega)⟩, i0 13 (by decide) (by decide)⟩
  all_goals sorry
