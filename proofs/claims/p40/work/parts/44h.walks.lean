def ch_V_int (x : Int32) : ch_V := .inl (.int x)
def yT (j m : Nat) : Nat → cb_d := fun i => if i = ch_off 1 j + 1 then .inr (0, 12, fun k => if k < m then .inl (.int (-1)) else .inl (.int 0)) else cb_T i
theorem yT_0 (j : Nat) : yT j 0 (ch_off 1 j + (0 + 1)) = .inr (0, 12, fun _ => .inl (defaultValue (ch_ty 0))) := by
  refine (if_pos rfl).trans ?_
  rfl
theorem yT_a {j m c : Nat} {d : cb_d} (h : c ≠ 0) (hd : cb_T (ch_off 1 j + (c + 1)) = d) : yT j m (ch_off 1 j + (c + 1)) = d := (if_neg (by omega)).trans hd
theorem yT_12 {j : Nat} (hj : j < ch_cnt 1) (i : Nat) : yT j 12 i = cb_T i := by
  unfold yT
  by_cases e : i = ch_off 1 j + 1
  · have h : ch_in (1, j, 0 + 1) := ⟨by show 1 ≤ 8; decide, hj, by show 1 < 9; decide⟩
    rw [if_pos e, e, cb_T_a h]
    show (Sum.inr (0, 12, _) : cb_d) = Sum.inr (0, 12, _)
    congr 3
    funext k
    show _ = ch_V_int (cb_M (1, j, 0 + 1) k)
    unfold cb_M ch_V_int
    by_cases h1 : k < 12
    · rw [if_pos h1, if_pos (Or.inl ⟨rfl, rfl, h1⟩)]
    · rw [if_neg h1, if_neg]
      rintro (⟨-, -, h3⟩ | ⟨h3, -, -⟩ | ⟨h3, -, -⟩)
      · exact h1 h3
      · exact absurd (show (1 : Nat) = 0 from h3) (by decide)
      · exact absurd (show (1 : Nat) = 9 from h3) (by decide)
  · rw [if_neg e]
theorem cb_in {ci j c : Nat} (h1 : ci ≤ 8) (h2 : j < ch_cnt ci) (h3 : c < ch_wid ci) (_h4 : ci ≠ 10) : ch_in (ci, j, c) := ⟨h1, h2, h3⟩
theorem cb_nC {g : ch_G} {f : ch_MI} {R : Room} {E : ch_En} {pc : Nat} {ls : ch_LT} {st : List ch_V} {D : Nat → cb_d} {n k ci j q o : Nat} (h : ch_off ci j < o) (kk : cb_J g f R E pc ls st (cb_H g n (cb_S cb_T D ci j q)) k) : cb_J g f R E pc ls st (cb_H g n (fun i => if i < o then cb_S cb_T D ci j q i else cb_T i)) k := by
  refine cb_J_imp (fun H hH => cb_H_cong hH (fun i hi => ?_)) kk
  by_cases e : i < o
  · rw [if_pos e]
  · rw [if_neg e, cb_S_be _ _ _ _ _ (by omega)]
set_option maxHeartbeats 1600000 in
theorem k_r_init (g : ch_G) : cb_K g n_r_init 3 0 1 := by
  intro D
  have h0 : ch_in (3, 0, 0) := (cb_in (ci := 3) (j := 0) (c := 0) (by decide) (by decide) (by decide) (by decide))
  refine cb_enter nf_r_init rfl (by intro v hv; rw [List.mem_singleton.mp hv]; rfl) (Nat.le_of_ble_eq_true rfl) ?_
  refine cb_J_imp (P' := cb_H g (ch_off 3 0 + 1) (cb_S cb_T D 3 0 0)) (fun H h => cb_H_cong h (cb_S_0 cb_T D 3 0)) ?_
  refine cb_aload_n (i := 0) d_r_init_0 rfl rfl ?_
  refine cb_objInit d_r_init_1 ol_r_init_3 oi_i oi_c ⟨Nat.le_of_ble_eq_true rfl, Nat.le_of_ble_eq_true rfl⟩ (by decide) ?_
  have e : ∀ k, 0 ≤ k → ch_gv cb_M 3 0 k = cb_0 3 k := fun k hk => cb_gv_0 (fun j => by obtain ⟨m, rfl⟩ : ∃ m, k = m + 0 := ⟨k - 0, by omega⟩; rfl) (by omega)
  exact cb_ret d_r_init_4 rfl (by decide) (fun H h => by rw [cb_S_n h0 e] at h; exact h)
set_option maxHeartbeats 1600000 in
theorem k_d_init (g : ch_G) : cb_K g n_d_init 7 0 1 := by
  intro D
  have h0 : ch_in (7, 0, 0) := (cb_in (ci := 7) (j := 0) (c := 0) (by decide) (by decide) (by decide) (by decide))
  refine cb_enter nf_d_init rfl (by intro v hv; rw [List.mem_singleton.mp hv]; rfl) (Nat.le_of_ble_eq_true rfl) ?_
  refine cb_J_imp (P' := cb_H g (ch_off 7 0 + 1) (cb_S cb_T D 7 0 0)) (fun H h => cb_H_cong h (cb_S_0 cb_T D 7 0)) ?_
  refine cb_aload_n (i := 0) d_d_init_0 rfl rfl ?_
  refine cb_objInit d_d_init_1 ol_d_init_3 oi_i oi_c ⟨Nat.le_of_ble_eq_true rfl, Nat.le_of_ble_eq_true rfl⟩ (by decide) ?_
  have e : ∀ k, 0 ≤ k → ch_gv cb_M 7 0 k = cb_0 7 k := fun k hk => cb_gv_0 (fun j => by obtain ⟨m, rfl⟩ : ∃ m, k = m + 0 := ⟨k - 0, by omega⟩; rfl) (by omega)
  exact cb_ret d_d_init_4 rfl (by decide) (fun H h => by rw [cb_S_n h0 e] at h; exact h)
set_option maxHeartbeats 1600000 in
theorem k_s_init (g : ch_G) (j : Nat) (hj : j < ch_cnt 5) : cb_K g n_s_init 5 j 2 := by
  intro D
  have h0 : ch_in (5, j, 0) := (cb_in (ci := 5) (j := j) (c := 0) (by decide) hj (by decide) (by decide))
  refine cb_enter nf_s_init rfl (by intro v hv; rw [List.mem_singleton.mp hv]; rfl) (Nat.le_of_ble_eq_true rfl) ?_
  refine cb_J_imp (P' := cb_H g (ch_off 5 j + 1) (cb_S cb_T D 5 j 0)) (fun H h => cb_H_cong h (cb_S_0 cb_T D 5 j)) ?_
  refine cb_aload_n (i := 0) d_s_init_0 rfl rfl ?_
  refine cb_objInit d_s_init_1 ol_s_init_3 oi_i oi_c ⟨Nat.le_of_ble_eq_true rfl, Nat.le_of_ble_eq_true rfl⟩ (by decide) ?_
  refine cb_aload_n (i := 0) d_s_init_4 rfl rfl ?_
  refine cb_bipush (v := 12) d_s_init_5 (by decide) ?_
  refine cb_newa (ci := 5) (j := j) (c := 0) (t := 0) (len := 12) (k' := 2) d_s_init_7 (by decide) rfl ac_int rfl (by decide) rfl (cb_in (ci := 5) (j := j) (c := 0 + 1) (by decide) hj (by decide) (by decide)) ⟨Nat.le_of_ble_eq_true rfl, Nat.le_of_ble_eq_true rfl⟩ ⟨Nat.le_of_ble_eq_true rfl, Nat.le_of_ble_eq_true rfl⟩ ?_
  refine cb_nA (by omega) (cb_T_0 (cb_in (ci := 5) (j := j) (c := 0 + 1) (by decide) hj (by decide) (by decide)) (by decide) (by decide) rfl) ?_
  refine cb_putF (ci := 5) (j := j) (kf := 0) (T := ch_F5) (ty := ch_T5 0) d_s_init_9 ch_Cl5 (by decide) rfl pl_s_init_9 rfl rfl rfl rfl (fun _ => ⟨rfl, rfl⟩) h0 (by first | omega | decide) (cb_S_at _ _ _ _ _) ?_
  refine cb_nP rfl ?_
  have e : ∀ k, 1 ≤ k → ch_gv cb_M 5 j k = cb_0 5 k := fun k hk => cb_gv_0 (fun j => by obtain ⟨m, rfl⟩ : ∃ m, k = m + 1 := ⟨k - 1, by omega⟩; rfl) (by omega)
  exact cb_ret d_s_init_12 rfl (by decide) (fun H h => by rw [cb_S_n h0 e] at h; exact h)
set_option maxHeartbeats 1600000 in
theorem k_t_init (g : ch_G) (j : Nat) (hj : j < ch_cnt 6) : cb_K g n_t_init 6 j 2 := by
  intro D
  have h0 : ch_in (6, j, 0) := (cb_in (ci := 6) (j := j) (c := 0) (by decide) hj (by decide) (by decide))
  refine cb_enter nf_t_init rfl (by intro v hv; rw [List.mem_singleton.mp hv]; rfl) (Nat.le_of_ble_eq_true rfl) ?_
  refine cb_J_imp (P' := cb_H g (ch_off 6 j + 1) (cb_S cb_T D 6 j 0)) (fun H h => cb_H_cong h (cb_S_0 cb_T D 6 j)) ?_
  refine cb_aload_n (i := 0) d_t_init_0 rfl rfl ?_
  refine cb_objInit d_t_init_1 ol_t_init_3 oi_i oi_c ⟨Nat.le_of_ble_eq_true rfl, Nat.le_of_ble_eq_true rfl⟩ (by decide) ?_
  refine cb_aload_n (i := 0) d_t_init_4 rfl rfl ?_
  refine cb_bipush (v := 60) d_t_init_5 (by decide) ?_
  refine cb_newa (ci := 6) (j := j) (c := 0) (t := 1) (len := 60) (k' := 10) d_t_init_7 (by decide) rfl ac_char rfl (by decide) rfl (cb_in (ci := 6) (j := j) (c := 0 + 1) (by decide) hj (by decide) (by decide)) ⟨Nat.le_of_ble_eq_true rfl, Nat.le_of_ble_eq_true rfl⟩ ⟨Nat.le_of_ble_eq_true rfl, Nat.le_of_ble_eq_true rfl⟩ ?_
  refine cb_nA (by omega) (cb_T_0 (cb_in (ci := 6) (j := j) (c := 0 + 1) (by decide) hj (by decide) (by decide)) (by decide) (by decide) rfl) ?_
  refine cb_putF (ci := 6) (j := j) (kf := 0) (T := ch_F6) (ty := ch_T6 0) d_t_init_9 ch_Cl6 (by decide) rfl pl_t_init_9 rfl rfl rfl rfl (fun _ => ⟨rfl, rfl⟩) h0 (by first | omega | decide) (cb_S_at _ _ _ _ _) ?_
  refine cb_nP rfl ?_
  have e : ∀ k, 1 ≤ k → ch_gv cb_M 6 j k = cb_0 6 k := fun k hk => cb_gv_0 (fun j => by obtain ⟨m, rfl⟩ : ∃ m, k = m + 1 := ⟨k - 1, by omega⟩; rfl) (by omega)
  exact cb_ret d_t_init_12 rfl (by decide) (fun H h => by rw [cb_S_n h0 e] at h; exact h)
set_option maxHeartbeats 1600000 in
theorem k_w_init (g : ch_G) : cb_K g n_w_init 8 0 4 := by
  intro D
  have h0 : ch_in (8, 0, 0) := (cb_in (ci := 8) (j := 0) (c := 0) (by decide) (by decide) (by decide) (by decide))
  refine cb_enter nf_w_init rfl (by intro v hv; rw [List.mem_singleton.mp hv]; rfl) (Nat.le_of_ble_eq_true rfl) ?_
  refine cb_J_imp (P' := cb_H g (ch_off 8 0 + 1) (cb_S cb_T D 8 0 0)) (fun H h => cb_H_cong h (cb_S_0 cb_T D 8 0)) ?_
  refine cb_aload_n (i := 0) d_w_init_0 rfl rfl ?_
  refine cb_objInit d_w_init_1 ol_w_init_5 oi_i oi_c ⟨Nat.le_of_ble_eq_true rfl, Nat.le_of_ble_eq_true rfl⟩ (by decide) ?_
  refine cb_aload_n (i := 0) d_w_init_4 rfl rfl ?_
  refine cb_bipush (v := 15) d_w_init_5 (by decide) ?_
  refine cb_newa (ci := 8) (j := 0) (c := 0) (t := 0) (len := 15) (k' := 3) d_w_init_7 (by decide) rfl ac_int rfl (by decide) rfl (cb_in (ci := 8) (j := 0) (c := 0 + 1) (by decide) (by decide) (by decide) (by decide)) ⟨Nat.le_of_ble_eq_true rfl, Nat.le_of_ble_eq_true rfl⟩ ⟨Nat.le_of_ble_eq_true rfl, Nat.le_of_ble_eq_true rfl⟩ ?_
  refine cb_nA (by omega) (cb_T_0 (cb_in (ci := 8) (j := 0) (c := 0 + 1) (by decide) (by decide) (by decide) (by decide)) (by decide) (by decide) rfl) ?_
  refine cb_putF (ci := 8) (j := 0) (kf := 0) (T := ch_F8) (ty := ch_T8 0) d_w_init_9 ch_Cl8 (by decide) rfl pl_w_init_11 rfl rfl rfl rfl (fun _ => ⟨rfl, rfl⟩) h0 (by first | omega | decide) (cb_S_at _ _ _ _ _) ?_
  refine cb_nP rfl ?_
  refine cb_aload_n (i := 0) d_w_init_12 rfl rfl ?_
  refine cb_bipush (v := 15) d_w_init_13 (by decide) ?_
  refine cb_newa (ci := 8) (j := 0) (c := 1) (t := 0) (len := 15) (k' := 6) d_w_init_15 (by decide) rfl ac_int rfl (by decide) rfl (cb_in (ci := 8) (j := 0) (c := 1 + 1) (by decide) (by decide) (by decide) (by decide)) ⟨Nat.le_of_ble_eq_true rfl, Nat.le_of_ble_eq_true rfl⟩ ⟨Nat.le_of_ble_eq_true rfl, Nat.le_of_ble_eq_true rfl⟩ ?_
  refine cb_nA (by omega) (cb_T_0 (cb_in (ci := 8) (j := 0) (c := 1 + 1) (by decide) (by decide) (by decide) (by decide)) (by decide) (by decide) rfl) ?_
  refine cb_putF (ci := 8) (j := 0) (kf := 1) (T := ch_F8) (ty := ch_T8 1) d_w_init_17 ch_Cl8 (by decide) rfl pl_w_init_15 rfl rfl rfl rfl (fun _ => ⟨rfl, rfl⟩) h0 (by first | omega | decide) (cb_S_at _ _ _ _ _) ?_
  refine cb_nP rfl ?_
  refine cb_aload_n (i := 0) d_w_init_20 rfl rfl ?_
  refine cb_bipush (v := 15) d_w_init_21 (by decide) ?_
  refine cb_newa (ci := 8) (j := 0) (c := 2) (t := 0) (len := 15) (k' := 9) d_w_init_23 (by decide) rfl ac_int rfl (by decide) rfl (cb_in (ci := 8) (j := 0) (c := 2 + 1) (by decide) (by decide) (by decide) (by decide)) ⟨Nat.le_of_ble_eq_true rfl, Nat.le_of_ble_eq_true rfl⟩ ⟨Nat.le_of_ble_eq_true rfl, Nat.le_of_ble_eq_true rfl⟩ ?_
  refine cb_nA (by omega) (cb_T_0 (cb_in (ci := 8) (j := 0) (c := 2 + 1) (by decide) (by decide) (by decide) (by decide)) (by decide) (by decide) rfl) ?_
  refine cb_putF (ci := 8) (j := 0) (kf := 2) (T := ch_F8) (ty := ch_T8 2) d_w_init_25 ch_Cl8 (by decide) rfl pl_w_init_18 rfl rfl rfl rfl (fun _ => ⟨rfl, rfl⟩) h0 (by first | omega | decide) (cb_S_at _ _ _ _ _) ?_
  refine cb_nP rfl ?_
  have e : ∀ k, 3 ≤ k → ch_gv cb_M 8 0 k = cb_0 8 k := fun k hk => cb_gv_0 (fun j => by obtain ⟨m, rfl⟩ : ∃ m, k = m + 3 := ⟨k - 3, by omega⟩; rfl) (by omega)
  exact cb_ret d_w_init_28 rfl (by decide) (fun H h => by rw [cb_S_n h0 e] at h; exact h)
set_option maxHeartbeats 1600000 in
theorem k_c_init (g : ch_G) : cb_K g n_c_init 4 0 3 := by
  intro D
  have h0 : ch_in (4, 0, 0) := (cb_in (ci := 4) (j := 0) (c := 0) (by decide) (by decide) (by decide) (by decide))
  refine cb_enter nf_c_init rfl (by intro v hv; rw [List.mem_singleton.mp hv]; rfl) (Nat.le_of_ble_eq_true rfl) ?_
  refine cb_J_imp (P' := cb_H g (ch_off 4 0 + 1) (cb_S cb_T D 4 0 0)) (fun H h => cb_H_cong h (cb_S_0 cb_T D 4 0)) ?_
  refine cb_aload_n (i := 0) d_c_init_0 rfl rfl ?_
  refine cb_objInit d_c_init_1 ol_c_init_1 oi_i oi_c ⟨Nat.le_of_ble_eq_true rfl, Nat.le_of_ble_eq_true rfl⟩ (by decide) ?_
  refine cb_aload_n (i := 0) d_c_init_4 rfl rfl ?_
  refine cb_new (ci := 5) (j := 0) (N := 2) (T := ch_F5) (k' := 1) ch_T5 ch_Cl5 ty_5 d_c_init_5 cl_c_init_7 in_5.1 in_5.2 rfl (cb_in (ci := 5) (j := 0) (c := 0) (by decide) (by decide) (by decide) (by decide)) ⟨Nat.le_of_ble_eq_true rfl, Nat.le_of_ble_eq_true rfl⟩ ⟨Nat.le_of_ble_eq_true rfl, Nat.le_of_ble_eq_true rfl⟩ ?_
  refine cb_dup d_c_init_8 rfl ?_
  refine cb_callN (f' := n_s_init) d_c_init_9 nl_c_init_9 ni_s_init rfl rfl rfl ⟨Nat.le_of_ble_eq_true rfl, Nat.le_of_ble_eq_true rfl⟩ (by decide) ⟨Nat.le_of_ble_eq_true rfl, Nat.le_of_ble_eq_true rfl⟩ (fun H h => by rw [h.1]; exact Nat.le_add_right _ _) (k_s_init g 0 (by decide) _) ?_
  refine cb_widen (k' := 3) (Nat.le_of_ble_eq_true rfl) ?_
  refine cb_nC (by decide) ?_
  refine cb_putF (ci := 4) (j := 0) (kf := 0) (T := ch_F4) (ty := ch_T4 0) d_c_init_12 ch_Cl4 (by decide) rfl pl_c_init_10 rfl rfl rfl rfl (fun _ => ⟨rfl, rfl⟩) h0 (by first | omega | decide) (cb_S_at _ _ _ _ _) ?_
  refine cb_nP rfl ?_
  have e : ∀ k, 1 ≤ k → ch_gv cb_M 4 0 k = cb_0 4 k := fun k hk => cb_gv_0 (fun j => by obtain ⟨m, rfl⟩ : ∃ m, k = m + 1 := ⟨k - 1, by omega⟩; rfl) (by omega)
  exact cb_ret d_c_init_15 rfl (by decide) (fun H h => by rw [cb_S_n h0 e] at h; exact h)
set_option maxHeartbeats 1600000 in
theorem k_y_init (g : ch_G) (j : Nat) (hj : j < ch_cnt 1) : cb_K g n_y_init 1 j 9 := by
  intro D
  have h0 : ch_in (1, j, 0) := (cb_in (ci := 1) (j := j) (c := 0) (by decide) hj (by decide) (by decide))
  refine cb_enter nf_y_init rfl (by intro v hv; rw [List.mem_singleton.mp hv]; rfl) (Nat.le_of_ble_eq_true rfl) ?_
  refine cb_J_imp (P' := cb_H g (ch_off 1 j + 1) (cb_S cb_T D 1 j 0)) (fun H h => cb_H_cong h (cb_S_0 cb_T D 1 j)) ?_
  refine cb_nT (T' := yT j 0) (fun i h1 h2 => absurd h1 (by omega)) ?_
  refine cb_aload_n (i := 0) d_y_init_0 rfl rfl ?_
  refine cb_objInit d_y_init_1 ol_y_init_3 oi_i oi_c ⟨Nat.le_of_ble_eq_true rfl, Nat.le_of_ble_eq_true rfl⟩ (by decide) ?_
  refine cb_aload_n (i := 0) d_y_init_4 rfl rfl ?_
  refine cb_bipush (v := 12) d_y_init_5 (by decide) ?_
  refine cb_newa (ci := 1) (j := j) (c := 0) (t := 0) (len := 12) (k' := 2) d_y_init_7 (by decide) rfl ac_int rfl (by decide) rfl (cb_in (ci := 1) (j := j) (c := 0 + 1) (by decide) hj (by decide) (by decide)) ⟨Nat.le_of_ble_eq_true rfl, Nat.le_of_ble_eq_true rfl⟩ ⟨Nat.le_of_ble_eq_true rfl, Nat.le_of_ble_eq_true rfl⟩ ?_
  refine cb_nA (by omega) (yT_0 j) ?_
  refine cb_putF (ci := 1) (j := j) (kf := 0) (T := ch_F1) (ty := ch_T1 0) d_y_init_9 ch_Cl1 (by decide) rfl pl_y_init_9 rfl rfl rfl rfl (fun _ => ⟨rfl, rfl⟩) h0 (by first | omega | decide) (cb_S_at _ _ _ _ _) ?_
  refine cb_nP rfl ?_
  refine cb_aload_n (i := 0) d_y_init_12 rfl rfl ?_
  refine cb_bipush (v := 12) d_y_init_13 (by decide) ?_
  refine cb_newa (ci := 1) (j := j) (c := 1) (t := 0) (len := 12) (k' := 4) d_y_init_15 (by decide) rfl ac_int rfl (by decide) rfl (cb_in (ci := 1) (j := j) (c := 1 + 1) (by decide) hj (by decide) (by decide)) ⟨Nat.le_of_ble_eq_true rfl, Nat.le_of_ble_eq_true rfl⟩ ⟨Nat.le_of_ble_eq_true rfl, Nat.le_of_ble_eq_true rfl⟩ ?_
  refine cb_nA (by omega) (yT_a (by decide) (cb_T_0 (cb_in (ci := 1) (j := j) (c := 1 + 1) (by decide) hj (by decide) (by decide)) (by decide) (by decide) rfl)) ?_
  refine cb_putF (ci := 1) (j := j) (kf := 1) (T := ch_F1) (ty := ch_T1 1) d_y_init_17 ch_Cl1 (by decide) rfl pl_y_init_15 rfl rfl rfl rfl (fun _ => ⟨rfl, rfl⟩) h0 (by first | omega | decide) (cb_S_at _ _ _ _ _) ?_
  refine cb_nP rfl ?_
  refine cb_aload_n (i := 0) d_y_init_20 rfl rfl ?_
  refine cb_iconst (v := 5) d_y_init_21 (by decide) ?_
  refine cb_newa (ci := 1) (j := j) (c := 2) (t := 0) (len := 5) (k' := 5) d_y_init_22 (by decide) rfl ac_int rfl (by decide) rfl (cb_in (ci := 1) (j := j) (c := 2 + 1) (by decide) hj (by decide) (by decide)) ⟨Nat.le_of_ble_eq_true rfl, Nat.le_of_ble_eq_true rfl⟩ ⟨Nat.le_of_ble_eq_true rfl, Nat.le_of_ble_eq_true rfl⟩ ?_
  refine cb_nA (by omega) (yT_a (by decide) (cb_T_0 (cb_in (ci := 1) (j := j) (c := 2 + 1) (by decide) hj (by decide) (by decide)) (by decide) (by decide) rfl)) ?_
  refine cb_putF (ci := 1) (j := j) (kf := 2) (T := ch_F1) (ty := ch_T1 2) d_y_init_24 ch_Cl1 (by decide) rfl pl_y_init_18 rfl rfl rfl rfl (fun _ => ⟨rfl, rfl⟩) h0 (by first | omega | decide) (cb_S_at _ _ _ _ _) ?_
  refine cb_nP rfl ?_
  refine cb_aload_n (i := 0) d_y_init_27 rfl rfl ?_
  refine cb_iconst (v := 5) d_y_init_28 (by decide) ?_
  refine cb_newa (ci := 1) (j := j) (c := 3) (t := 0) (len := 5) (k' := 6) d_y_init_29 (by decide) rfl ac_int rfl (by decide) rfl (cb_in (ci := 1) (j := j) (c := 3 + 1) (by decide) hj (by decide) (by decide)) ⟨Nat.le_of_ble_eq_true rfl, Nat.le_of_ble_eq_true rfl⟩ ⟨Nat.le_of_ble_eq_true rfl, Nat.le_of_ble_eq_true rfl⟩ ?_
  refine cb_nA (by omega) (yT_a (by decide) (cb_T_0 (cb_in (ci := 1) (j := j) (c := 3 + 1) (by decide) hj (by decide) (by decide)) (by decide) (by decide) rfl)) ?_
  refine cb_putF (ci := 1) (j := j) (kf := 3) (T := ch_F1) (ty := ch_T1 3) d_y_init_31 ch_Cl1 (by decide) rfl pl_y_init_21 rfl rfl rfl rfl (fun _ => ⟨rfl, rfl⟩) h0 (by first | omega | decide) (cb_S_at _ _ _ _ _) ?_
  refine cb_nP rfl ?_
  refine cb_aload_n (i := 0) d_y_init_34 rfl rfl ?_
  refine cb_iconst (v := 5) d_y_init_35 (by decide) ?_
  refine cb_newa (ci := 1) (j := j) (c := 4) (t := 0) (len := 5) (k' := 7) d_y_init_36 (by decide) rfl ac_int rfl (by decide) rfl (cb_in (ci := 1) (j := j) (c := 4 + 1) (by decide) hj (by decide) (by decide)) ⟨Nat.le_of_ble_eq_true rfl, Nat.le_of_ble_eq_true rfl⟩ ⟨Nat.le_of_ble_eq_true rfl, Nat.le_of_ble_eq_true rfl⟩ ?_
  refine cb_nA (by omega) (yT_a (by decide) (cb_T_0 (cb_in (ci := 1) (j := j) (c := 4 + 1) (by decide) hj (by decide) (by decide)) (by decide) (by decide) rfl)) ?_
  refine cb_putF (ci := 1) (j := j) (kf := 4) (T := ch_F1) (ty := ch_T1 4) d_y_init_38 ch_Cl1 (by decide) rfl pl_y_init_24 rfl rfl rfl rfl (fun _ => ⟨rfl, rfl⟩) h0 (by first | omega | decide) (cb_S_at _ _ _ _ _) ?_
  refine cb_nP rfl ?_
  refine cb_aload_n (i := 0) d_y_init_41 rfl rfl ?_
  refine cb_iconst (v := 5) d_y_init_42 (by decide) ?_
  refine cb_newa (ci := 1) (j := j) (c := 5) (t := 0) (len := 5) (k' := 8) d_y_init_43 (by decide) rfl ac_int rfl (by decide) rfl (cb_in (ci := 1) (j := j) (c := 5 + 1) (by decide) hj (by decide) (by decide)) ⟨Nat.le_of_ble_eq_true rfl, Nat.le_of_ble_eq_true rfl⟩ ⟨Nat.le_of_ble_eq_true rfl, Nat.le_of_ble_eq_true rfl⟩ ?_
  refine cb_nA (by omega) (yT_a (by decide) (cb_T_0 (cb_in (ci := 1) (j := j) (c := 5 + 1) (by decide) hj (by decide) (by decide)) (by decide) (by decide) rfl)) ?_
  refine cb_putF (ci := 1) (j := j) (kf := 5) (T := ch_F1) (ty := ch_T1 5) d_y_init_45 ch_Cl1 (by decide) rfl pl_y_init_27 rfl rfl rfl rfl (fun _ => ⟨rfl, rfl⟩) h0 (by first | omega | decide) (cb_S_at _ _ _ _ _) ?_
  refine cb_nP rfl ?_
  refine cb_aload_n (i := 0) d_y_init_48 rfl rfl ?_
  refine cb_iconst (v := 5) d_y_init_49 (by decide) ?_
  refine cb_newa (ci := 1) (j := j) (c := 6) (t := 0) (len := 5) (k' := 9) d_y_init_50 (by decide) rfl ac_int rfl (by decide) rfl (cb_in (ci := 1) (j := j) (c := 6 + 1) (by decide) hj (by decide) (by decide)) ⟨Nat.le_of_ble_eq_true rfl, Nat.le_of_ble_eq_true rfl⟩ ⟨Nat.le_of_ble_eq_true rfl, Nat.le_of_ble_eq_true rfl⟩ ?_
  refine cb_nA (by omega) (yT_a (by decide) (cb_T_0 (cb_in (ci := 1) (j := j) (c := 6 + 1) (by decide) hj (by decide) (by decide)) (by decide) (by decide) rfl)) ?_
  refine cb_putF (ci := 1) (j := j) (kf := 6) (T := ch_F1) (ty := ch_T1 6) d_y_init_52 ch_Cl1 (by decide) rfl pl_y_init_30 rfl rfl rfl rfl (fun _ => ⟨rfl, rfl⟩) h0 (by first | omega | decide) (cb_S_at _ _ _ _ _) ?_
  refine cb_nP rfl ?_
  refine cb_aload_n (i := 0) d_y_init_55 rfl rfl ?_
  refine cb_iconst (v := 5) d_y_init_56 (by decide) ?_
  refine cb_newa (ci := 1) (j := j) (c := 7) (t := 0) (len := 5) (k' := 10) d_y_init_57 (by decide) rfl ac_int rfl (by decide) rfl (cb_in (ci := 1) (j := j) (c := 7 + 1) (by decide) hj (by decide) (by decide)) ⟨Nat.le_of_ble_eq_true rfl, Nat.le_of_ble_eq_true rfl⟩ ⟨Nat.le_of_ble_eq_true rfl, Nat.le_of_ble_eq_true rfl⟩ ?_
  refine cb_nA (by omega) (yT_a (by decide) (cb_T_0 (cb_in (ci := 1) (j := j) (c := 7 + 1) (by decide) hj (by decide) (by decide)) (by decide) (by decide) rfl)) ?_
  refine cb_putF (ci := 1) (j := j) (kf := 7) (T := ch_F1) (ty := ch_T1 7) d_y_init_59 ch_Cl1 (by decide) rfl pl_y_init_33 rfl rfl rfl rfl (fun _ => ⟨rfl, rfl⟩) h0 (by first | omega | decide) (cb_S_at _ _ _ _ _) ?_
  refine cb_nP rfl ?_
  refine cb_iconst (v := 0) d_y_init_62 (by decide) ?_
  refine cb_istore_n (i := 1) (ls' := [some (.inr (1, j, 0)), some (.inl (.int 0))]) d_y_init_63 rfl (Nat.le_of_ble_eq_true rfl) rfl ?_
  refine ch_down (fun m => cb_J g n_y_init (ch_rm n_y_init) (cb_E g n_y_init (cb_H g (ch_off 1 j + 9) (fun i => if i < ch_off 1 j then D i else cb_T i))) 64 [some (.inr (1, j, 0)), some (.inl (.int (nI m)))] [] (cb_H g (ch_off 1 j + 9) (cb_S (yT j m) D 1 j 8)) 10) 12 ?_ ?_ 0 (by omega)
  · refine cb_iload_n (i := 1) d_y_init_64 rfl rfl ?_
    refine cb_bipush (v := 12) d_y_init_65 (by decide) ?_
    refine cb_icmp_ge (tgt := 83) d_y_init_67 (by decide) (fun _ => ?_) (fun z => absurd (by decide) z)
    refine cb_nT (T' := cb_T) (fun i _ _ => (yT_12 hj i).symm) ?_
    have e : ∀ k, 8 ≤ k → ch_gv cb_M 1 j k = cb_0 1 k := fun k hk => cb_gv_0 (fun j => by unfold ch_rf; exact if_neg (by omega)) (by omega)
    exact cb_ret d_y_init_83 rfl (by decide) (fun H h => by rw [cb_S_n h0 e] at h; exact h)
  · intro m hm ih
    refine cb_iload_n (i := 1) d_y_init_64 rfl rfl ?_
    refine cb_bipush (v := 12) d_y_init_65 (by decide) ?_
    refine cb_icmp_ge (tgt := 83) d_y_init_67 (by decide) (fun z => absurd z (nI_ge (b := 12) hm (by decide))) (fun _ => ?_)
    refine cb_aload_n (i := 0) d_y_init_70 rfl rfl ?_
    refine cb_get (ci := 1) (j := j) (kf := 0) (b := (1, j, 0 + 1)) d_y_init_71 gl_y_init_9 h0 (by omega) (cb_S_at _ _ _ _ _) rfl (cb_in (by decide) hj (by decide) (by decide)) ?_
    refine cb_iload_n (i := 1) d_y_init_74 rfl rfl ?_
    refine cb_iconst (v := (-1)) d_y_init_75 (by decide) ?_
    refine cb_iast (ci := 1) (j := j) (c := 0) (len := 12) (F := fun k => if k < m then .inl (.int (-1)) else .inl (.int 0)) d_y_init_76 (cb_in (by decide) hj (by decide) (by decide)) (by omega) (by rw [cb_S_be _ _ _ _ _ (by omega)]; exact if_pos rfl) (vp_in_nI hm (by decide)) ?_
    refine cb_J_imp (P' := cb_H g (ch_off 1 j + 9) (cb_S (yT j (m + 1)) D 1 j 8)) (fun H h => cb_H_cong h (fun i hi => ?_)) ?_
    · rw [nI_clamp (by omega)]
      by_cases e : i = ch_off 1 j + (0 + 1)
      · rw [if_pos e, e, cb_S_be _ _ _ _ _ (by omega)]
        refine (if_pos rfl).trans ?_
        congr 3
        funext q
        by_cases h1 : q = m
        · rw [if_pos h1, if_pos (by omega)]
        · by_cases h2 : q < m
          · rw [if_neg h1, if_pos h2, if_pos (by omega)]
          · rw [if_neg h1, if_neg h2, if_neg (by omega)]
      · rw [if_neg e]
        unfold cb_S yT
        rw [if_neg e, if_neg e]
    · refine cb_iinc (i := 1) (v := nI (m + 1)) (ls' := [some (.inr (1, j, 0)), some (.inl (.int (nI (m + 1))))]) d_y_init_77 rfl (by rw [← nI_1]; rfl) (Nat.le_of_ble_eq_true rfl) rfl ?_
      exact cb_goto (tgt := 64) d_y_init_80 (by decide) ih
