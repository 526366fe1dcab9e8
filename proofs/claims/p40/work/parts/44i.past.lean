def pT (m : Nat) : Nat → cb_d := fun i => if i = ch_off 2 0 + 1 then .inr (4, 8, fun k => if k < m then .inr (1, 4 + k, 0) else .inl .null) else cb_T i
theorem pT_n {m i : Nat} (h : i ≠ ch_off 2 0 + 1) : pT m i = cb_T i := if_neg h
theorem pT_off (m : Nat) : ch_off 1 (4 + m) = ch_off 2 0 + 2 + 9 * m := by
  show (if 4 + m < 4 then _ else 39 + 9 * (4 + m - 4)) = 37 + 2 + 9 * m
  rw [if_neg (by omega)]
  omega
theorem k_p_init (g : ch_G) : cb_K g n_p_init 2 0 74 := by
  intro D
  have h0 : ch_in (2, 0, 0) := cb_in (by decide) (by decide) (by decide) (by decide)
  have h01 : ch_in (2, 0, 0 + 1) := cb_in (by decide) (by decide) (by decide) (by decide)
  refine cb_enter nf_p_init rfl (by intro v hv; rw [List.mem_singleton.mp hv]; rfl) (Nat.le_of_ble_eq_true rfl) ?_
  refine cb_J_imp (P' := cb_H g (ch_off 2 0 + 1) (cb_S (pT 0) D 2 0 0)) (fun H h => cb_H_cong h (cb_S_0 (pT 0) D 2 0)) ?_
  refine cb_aload_n (i := 0) d_p_init_0 rfl rfl ?_
  refine cb_objInit d_p_init_1 ol_p_init_3 oi_i oi_c ⟨Nat.le_of_ble_eq_true rfl, Nat.le_of_ble_eq_true rfl⟩ (by decide) ?_
  refine cb_aload_n (i := 0) d_p_init_4 rfl rfl ?_
  refine cb_bipush (v := 8) d_p_init_5 (by decide) ?_
  refine cb_anew (ci := 2) (j := 0) (c := 0) (len := 8) (k' := 2) d_p_init_7 cl_p_init_9 rfl (by decide) rfl h01 ⟨Nat.le_of_ble_eq_true rfl, Nat.le_of_ble_eq_true rfl⟩ ⟨Nat.le_of_ble_eq_true rfl, Nat.le_of_ble_eq_true rfl⟩ ?_
  refine cb_nA (T := pT 0) (by omega) ((if_pos rfl).trans rfl) ?_
  refine cb_putF (ci := 2) (j := 0) (kf := 0) (T := ch_F2) (ty := ch_T2 0) d_p_init_10 ch_Cl2 (by decide) rfl pl_p_init_11 rfl rfl rfl rfl (fun _ => ⟨rfl, rfl⟩) h0 (by omega) (cb_S_at _ _ _ _ _) ?_
  refine cb_nP rfl ?_
  refine cb_iconst (v := 0) d_p_init_13 (by decide) ?_
  refine cb_istore_n (i := 1) (ls' := [some (.inr (2, 0, 0)), some (.inl (.int 0))]) d_p_init_14 rfl (Nat.le_of_ble_eq_true rfl) rfl ?_
  refine ch_down (fun m => cb_J g n_p_init (ch_rm n_p_init) (cb_E g n_p_init (cb_H g (ch_off 2 0 + 74) (fun i => if i < ch_off 2 0 then D i else cb_T i))) 15 [some (.inr (2, 0, 0)), some (.inl (.int (nI m)))] [] (cb_H g (ch_off 2 0 + 2 + 9 * m) (cb_S (pT m) D 2 0 1)) (2 + 13 * m)) 8 ?_ ?_ 0 (by omega)
  · refine cb_iload_n (i := 1) d_p_init_15 rfl rfl ?_
    refine cb_aload_n (i := 0) d_p_init_16 rfl rfl ?_
    refine cb_get (ci := 2) (j := 0) (kf := 0) (b := (2, 0, 0 + 1)) d_p_init_17 gl_p_init_11 h0 (by omega) (cb_S_at _ _ _ _ _) rfl h01 ?_
    refine cb_alen (ci := 2) (j := 0) (c := 0) (t := 4) (len := 8) (v := 8) d_p_init_20 (by decide) h01 (by omega) (by rw [cb_S_be _ _ _ _ _ (by omega)]; exact if_pos rfl) rfl ?_
    refine cb_icmp_ge (tgt := 43) d_p_init_21 (by decide) (fun _ => ?_) (fun z => absurd (by decide) z)
    have e : ∀ k, 1 ≤ k → ch_gv cb_M 2 0 k = cb_0 2 k := fun k hk => cb_gv_0 (fun j => by obtain ⟨m, rfl⟩ : ∃ m, k = m + 1 := ⟨k - 1, by omega⟩; rfl) (by omega)
    refine cb_ret d_p_init_43 rfl (by decide) (fun H h => ?_)
    rw [← cb_S_n h0 e]
    obtain ⟨a1, a2, a3⟩ := h
    refine ⟨a1, a2, fun i hi => ?_⟩
    have a4 := a3 i hi
    by_cases z : i = ch_off 2 0 + (0 + 1)
    · rw [z, cb_S_be _ _ _ _ _ (by omega)] at a4
      rw [z, cb_S_be _ _ _ _ _ (by omega), cb_T_a h01]
      have e1 : pT 8 (ch_off 2 0 + (0 + 1)) = .inr (4, 8, fun k => if k < 8 then .inr (1, 4 + k, 0) else .inl .null) := if_pos rfl
      rw [e1] at a4
      have a4 : H[ch_base g + (ch_off 2 0 + (0 + 1))]? = some (arrV (ch_cA g 4) 8 (fun k => ch_tr g (if k < 8 then .inr (1, 4 + k, 0) else .inl .null))) := a4
      show H[ch_base g + (ch_off 2 0 + (0 + 1))]? = some (arrV (ch_cA g 4) 8 (fun k => ch_tr g (.inr (1, 4 + k, 0))))
      rw [a4]
      congr 1
      all_goals exact arrV_cong (fun k hk => by rw [if_pos hk])
    · have e2 : cb_S (pT 8) D 2 0 1 i = cb_S cb_T D 2 0 1 i := by
        unfold cb_S
        rw [pT_n z]
      rw [e2] at a4
      exact a4
  · intro m hm ih
    rw [← pT_off m]
    have ho := pT_off m
    have hj : 4 + m < ch_cnt 1 := by show 4 + m < 12; omega
    have hy : ch_in (1, 4 + m, 0) := cb_in (by decide) hj (by decide) (by decide)
    refine cb_iload_n (i := 1) d_p_init_15 rfl rfl ?_
    refine cb_aload_n (i := 0) d_p_init_16 rfl rfl ?_
    refine cb_get (ci := 2) (j := 0) (kf := 0) (b := (2, 0, 0 + 1)) d_p_init_17 gl_p_init_11 h0 (by omega) (cb_S_at _ _ _ _ _) rfl h01 ?_
    refine cb_alen (ci := 2) (j := 0) (c := 0) (t := 4) (len := 8) (v := 8) d_p_init_20 (by decide) h01 (by omega) (by rw [cb_S_be _ _ _ _ _ (by omega)]; exact if_pos rfl) rfl ?_
    refine cb_icmp_ge (tgt := 43) d_p_init_21 (by decide) (fun z => absurd z (nI_ge (b := 8) hm (by decide))) (fun _ => ?_)
    refine cb_aload_n (i := 0) d_p_init_24 rfl rfl ?_
    refine cb_get (ci := 2) (j := 0) (kf := 0) (b := (2, 0, 0 + 1)) d_p_init_25 gl_p_init_11 h0 (by omega) (cb_S_at _ _ _ _ _) rfl h01 ?_
    refine cb_iload_n (i := 1) d_p_init_28 rfl rfl ?_
    refine cb_new (ci := 1) (j := 4 + m) (N := 17) (T := ch_F1) (k' := 2 + 13 * m + 3) ch_T1 ch_Cl1 ty_1 d_p_init_29 cl_p_init_9 in_1.1 in_1.2 rfl hy ⟨by omega, by omega⟩ ⟨by show 2 + 13 * m + 3 ≤ 106; omega, by show 6 * (2 + 13 * m + 3) ≤ 6 * 106; omega⟩ ?_
    refine cb_dup d_p_init_32 rfl ?_
    refine cb_call (f' := n_y_init) d_p_init_33 nl_p_init_17 ni_y_init rfl rfl rfl ⟨Nat.le_of_ble_eq_true rfl, Nat.le_of_ble_eq_true rfl⟩ (Nat.le_of_ble_eq_true rfl) ⟨by show 2 + 13 * m + 3 + 10 ≤ 106; omega, by show 6 * (2 + 13 * m + 3) + 6 * 10 ≤ 6 * 106; omega⟩ (fun H h => by rw [h.1]; exact Nat.le_add_right _ _) (k_y_init g (4 + m) hj _) ?_
    refine cb_J_imp (P' := cb_H g (ch_off 1 (4 + m) + 9) (cb_S (pT m) D 2 0 1)) (fun H h => cb_H_cong h (fun i hi => ?_)) ?_
    · by_cases z : i < ch_off 1 (4 + m)
      · rw [if_pos z]
      · rw [if_neg z, cb_S_be _ _ _ _ _ (by omega), pT_n (by omega)]
    refine cb_aast (ci := 2) (j := 0) (c := 0) (len := 8) (cj := 1) (jj := 4 + m) (F := fun k => if k < m then .inr (1, 4 + k, 0) else .inl .null) (V := fun k => ch_gv cb_M 1 (4 + m) k) d_p_init_36 h01 (by omega) (by rw [cb_S_be _ _ _ _ _ (by omega)]; exact if_pos rfl) (vp_in_nI hm (by decide)) rfl hy (by omega) (by rw [cb_S_be _ _ _ _ _ (by omega), pT_n (by omega)]; exact cb_T_o hy) ?_
    refine cb_J_imp (P' := cb_H g (ch_off 1 (4 + m) + 9) (cb_S (pT (m + 1)) D 2 0 1)) (fun H h => cb_H_cong h (fun i hi => ?_)) ?_
    · rw [nI_clamp (by omega)]
      by_cases e : i = ch_off 2 0 + (0 + 1)
      · rw [if_pos e, e, cb_S_be _ _ _ _ _ (by omega)]
        refine (if_pos rfl).trans ?_
        congr 3
        funext q
        by_cases h1 : q = m
        · rw [if_pos h1, if_pos (by omega), h1]
        · by_cases h2 : q < m
          · rw [if_neg h1, if_pos h2, if_pos (by omega)]
          · rw [if_neg h1, if_neg h2, if_neg (by omega)]
      · rw [if_neg e]
        unfold cb_S
        rw [pT_n e, pT_n e]
    · refine cb_iinc (i := 1) (v := nI (m + 1)) (ls' := [some (.inr (2, 0, 0)), some (.inl (.int (nI (m + 1))))]) d_p_init_37 rfl (by rw [← nI_1]; rfl) (Nat.le_of_ble_eq_true rfl) rfl ?_
      refine cb_goto (tgt := 15) d_p_init_40 (by decide) ?_
      rw [ho, show ch_off 2 0 + 2 + 9 * m + 9 = ch_off 2 0 + 2 + 9 * (m + 1) by omega]
      refine cb_widen (k' := 2 + 13 * (m + 1)) (by show 2 + 13 * m + 3 + 10 ≤ 2 + 13 * (m + 1); omega) ?_
      exact ih
