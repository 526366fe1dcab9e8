set_option maxHeartbeats 1600000 in
theorem k_x_init (g : ch_G) : cb_K g n_x_init 0 0 126 := by
  intro D
  have h0 : ch_in (0, 0, 0) := (cb_in (ci := 0) (j := 0) (c := 0) (by decide) (by decide) (by decide) (by decide))
  refine cb_enter nf_x_init rfl (by intro v hv; rw [List.mem_singleton.mp hv]; rfl) (Nat.le_of_ble_eq_true rfl) ?_
  refine cb_J_imp (P' := cb_H g (ch_off 0 0 + 1) (cb_S cb_T D 0 0 0)) (fun H h => cb_H_cong h (cb_S_0 cb_T D 0 0)) ?_
  refine cb_aload_n (i := 0) d_x_init_0 rfl rfl ?_
  refine cb_objInit d_x_init_1 ol_x_init_1 oi_i oi_c ⟨Nat.le_of_ble_eq_true rfl, Nat.le_of_ble_eq_true rfl⟩ (by decide) ?_
  refine cb_aload_n (i := 0) d_x_init_4 rfl rfl ?_
  refine cb_new (ci := 1) (j := 0) (N := 17) (T := ch_F1) (k' := 3) ch_T1 ch_Cl1 ty_1 d_x_init_5 cl_x_init_7 in_1.1 in_1.2 rfl (cb_in (ci := 1) (j := 0) (c := 0) (by decide) (by decide) (by decide) (by decide)) ⟨Nat.le_of_ble_eq_true rfl, Nat.le_of_ble_eq_true rfl⟩ ⟨Nat.le_of_ble_eq_true rfl, Nat.le_of_ble_eq_true rfl⟩ ?_
  refine cb_dup d_x_init_8 rfl ?_
  refine cb_call (f' := n_y_init) d_x_init_9 nl_x_init_9 ni_y_init rfl rfl rfl ⟨Nat.le_of_ble_eq_true rfl, Nat.le_of_ble_eq_true rfl⟩ (by decide) ⟨Nat.le_of_ble_eq_true rfl, Nat.le_of_ble_eq_true rfl⟩ (fun H h => by rw [h.1]; exact Nat.le_add_right _ _) (k_y_init g 0 (by decide) _) ?_
  refine cb_widen (k' := 13) (Nat.le_of_ble_eq_true rfl) ?_
  refine cb_nC (by decide) ?_
  refine cb_putF (ci := 0) (j := 0) (kf := 0) (T := ch_F0) (ty := ch_T0 0) d_x_init_12 ch_Cl0 (by decide) rfl pl_x_init_10 rfl rfl rfl rfl (fun _ => ⟨rfl, rfl⟩) h0 (by first | omega | decide) (cb_S_at _ _ _ _ _) ?_
  refine cb_nP rfl ?_
  refine cb_aload_n (i := 0) d_x_init_15 rfl rfl ?_
  refine cb_new (ci := 1) (j := 1) (N := 17) (T := ch_F1) (k' := 16) ch_T1 ch_Cl1 ty_1 d_x_init_16 cl_x_init_7 in_1.1 in_1.2 rfl (cb_in (ci := 1) (j := 1) (c := 0) (by decide) (by decide) (by decide) (by decide)) ⟨Nat.le_of_ble_eq_true rfl, Nat.le_of_ble_eq_true rfl⟩ ⟨Nat.le_of_ble_eq_true rfl, Nat.le_of_ble_eq_true rfl⟩ ?_
  refine cb_dup d_x_init_19 rfl ?_
  refine cb_call (f' := n_y_init) d_x_init_20 nl_x_init_9 ni_y_init rfl rfl rfl ⟨Nat.le_of_ble_eq_true rfl, Nat.le_of_ble_eq_true rfl⟩ (by decide) ⟨Nat.le_of_ble_eq_true rfl, Nat.le_of_ble_eq_true rfl⟩ (fun H h => by rw [h.1]; exact Nat.le_add_right _ _) (k_y_init g 1 (by decide) _) ?_
  refine cb_widen (k' := 26) (Nat.le_of_ble_eq_true rfl) ?_
  refine cb_nC (by decide) ?_
  refine cb_putF (ci := 0) (j := 0) (kf := 1) (T := ch_F0) (ty := ch_T0 1) d_x_init_23 ch_Cl0 (by decide) rfl pl_x_init_16 rfl rfl rfl rfl (fun _ => ⟨rfl, rfl⟩) h0 (by first | omega | decide) (cb_S_at _ _ _ _ _) ?_
  refine cb_nP rfl ?_
  refine cb_aload_n (i := 0) d_x_init_26 rfl rfl ?_
  refine cb_new (ci := 1) (j := 2) (N := 17) (T := ch_F1) (k' := 29) ch_T1 ch_Cl1 ty_1 d_x_init_27 cl_x_init_7 in_1.1 in_1.2 rfl (cb_in (ci := 1) (j := 2) (c := 0) (by decide) (by decide) (by decide) (by decide)) ⟨Nat.le_of_ble_eq_true rfl, Nat.le_of_ble_eq_true rfl⟩ ⟨Nat.le_of_ble_eq_true rfl, Nat.le_of_ble_eq_true rfl⟩ ?_
  refine cb_dup d_x_init_30 rfl ?_
  refine cb_call (f' := n_y_init) d_x_init_31 nl_x_init_9 ni_y_init rfl rfl rfl ⟨Nat.le_of_ble_eq_true rfl, Nat.le_of_ble_eq_true rfl⟩ (by decide) ⟨Nat.le_of_ble_eq_true rfl, Nat.le_of_ble_eq_true rfl⟩ (fun H h => by rw [h.1]; exact Nat.le_add_right _ _) (k_y_init g 2 (by decide) _) ?_
  refine cb_widen (k' := 39) (Nat.le_of_ble_eq_true rfl) ?_
  refine cb_nC (by decide) ?_
  refine cb_putF (ci := 0) (j := 0) (kf := 2) (T := ch_F0) (ty := ch_T0 2) d_x_init_34 ch_Cl0 (by decide) rfl pl_x_init_19 rfl rfl rfl rfl (fun _ => ⟨rfl, rfl⟩) h0 (by first | omega | decide) (cb_S_at _ _ _ _ _) ?_
  refine cb_nP rfl ?_
  refine cb_aload_n (i := 0) d_x_init_37 rfl rfl ?_
  refine cb_new (ci := 1) (j := 3) (N := 17) (T := ch_F1) (k' := 42) ch_T1 ch_Cl1 ty_1 d_x_init_38 cl_x_init_7 in_1.1 in_1.2 rfl (cb_in (ci := 1) (j := 3) (c := 0) (by decide) (by decide) (by decide) (by decide)) ⟨Nat.le_of_ble_eq_true rfl, Nat.le_of_ble_eq_true rfl⟩ ⟨Nat.le_of_ble_eq_true rfl, Nat.le_of_ble_eq_true rfl⟩ ?_
  refine cb_dup d_x_init_41 rfl ?_
  refine cb_call (f' := n_y_init) d_x_init_42 nl_x_init_9 ni_y_init rfl rfl rfl ⟨Nat.le_of_ble_eq_true rfl, Nat.le_of_ble_eq_true rfl⟩ (by decide) ⟨Nat.le_of_ble_eq_true rfl, Nat.le_of_ble_eq_true rfl⟩ (fun H h => by rw [h.1]; exact Nat.le_add_right _ _) (k_y_init g 3 (by decide) _) ?_
  refine cb_widen (k' := 52) (Nat.le_of_ble_eq_true rfl) ?_
  refine cb_nC (by decide) ?_
  refine cb_putF (ci := 0) (j := 0) (kf := 3) (T := ch_F0) (ty := ch_T0 3) d_x_init_45 ch_Cl0 (by decide) rfl pl_x_init_22 rfl rfl rfl rfl (fun _ => ⟨rfl, rfl⟩) h0 (by first | omega | decide) (cb_S_at _ _ _ _ _) ?_
  refine cb_nP rfl ?_
  refine cb_aload_n (i := 0) d_x_init_48 rfl rfl ?_
  refine cb_new (ci := 2) (j := 0) (N := 3) (T := ch_F2) (k' := 53) ch_T2 ch_Cl2 ty_2 d_x_init_49 cl_x_init_25 in_2.1 in_2.2 rfl (cb_in (ci := 2) (j := 0) (c := 0) (by decide) (by decide) (by decide) (by decide)) ⟨Nat.le_of_ble_eq_true rfl, Nat.le_of_ble_eq_true rfl⟩ ⟨Nat.le_of_ble_eq_true rfl, Nat.le_of_ble_eq_true rfl⟩ ?_
  refine cb_dup d_x_init_52 rfl ?_
  refine cb_call (f' := n_p_init) d_x_init_53 nl_x_init_27 ni_p_init rfl rfl rfl ⟨Nat.le_of_ble_eq_true rfl, Nat.le_of_ble_eq_true rfl⟩ (by decide) ⟨Nat.le_of_ble_eq_true rfl, Nat.le_of_ble_eq_true rfl⟩ (fun H h => by rw [h.1]; exact Nat.le_add_right _ _) (k_p_init g _) ?_
  refine cb_widen (k' := 159) (Nat.le_of_ble_eq_true rfl) ?_
  refine cb_nC (by decide) ?_
  refine cb_putF (ci := 0) (j := 0) (kf := 4) (T := ch_F0) (ty := ch_T0 4) d_x_init_56 ch_Cl0 (by decide) rfl pl_x_init_28 rfl rfl rfl rfl (fun _ => ⟨rfl, rfl⟩) h0 (by first | omega | decide) (cb_S_at _ _ _ _ _) ?_
  refine cb_nP rfl ?_
  refine cb_aload_n (i := 0) d_x_init_59 rfl rfl ?_
  refine cb_new (ci := 3) (j := 0) (N := 3) (T := ch_F3) (k' := 160) ch_T3 ch_Cl3 ty_3 d_x_init_60 cl_x_init_32 in_3.1 in_3.2 rfl (cb_in (ci := 3) (j := 0) (c := 0) (by decide) (by decide) (by decide) (by decide)) ⟨Nat.le_of_ble_eq_true rfl, Nat.le_of_ble_eq_true rfl⟩ ⟨Nat.le_of_ble_eq_true rfl, Nat.le_of_ble_eq_true rfl⟩ ?_
  refine cb_dup d_x_init_63 rfl ?_
  refine cb_callN (f' := n_r_init) d_x_init_64 nl_x_init_34 ni_r_init rfl rfl rfl ⟨Nat.le_of_ble_eq_true rfl, Nat.le_of_ble_eq_true rfl⟩ (by decide) ⟨Nat.le_of_ble_eq_true rfl, Nat.le_of_ble_eq_true rfl⟩ (fun H h => by rw [h.1]; exact Nat.le_add_right _ _) (k_r_init g _) ?_
  refine cb_widen (k' := 160) (Nat.le_of_ble_eq_true rfl) ?_
  refine cb_nC (by decide) ?_
  refine cb_putF (ci := 0) (j := 0) (kf := 5) (T := ch_F0) (ty := ch_T0 5) d_x_init_67 ch_Cl0 (by decide) rfl pl_x_init_35 rfl rfl rfl rfl (fun _ => ⟨rfl, rfl⟩) h0 (by first | omega | decide) (cb_S_at _ _ _ _ _) ?_
  refine cb_nP rfl ?_
  refine cb_aload_n (i := 0) d_x_init_70 rfl rfl ?_
  refine cb_new (ci := 4) (j := 0) (N := 5) (T := ch_F4) (k' := 161) ch_T4 ch_Cl4 ty_4 d_x_init_71 cl_x_init_39 in_4.1 in_4.2 rfl (cb_in (ci := 4) (j := 0) (c := 0) (by decide) (by decide) (by decide) (by decide)) ⟨Nat.le_of_ble_eq_true rfl, Nat.le_of_ble_eq_true rfl⟩ ⟨Nat.le_of_ble_eq_true rfl, Nat.le_of_ble_eq_true rfl⟩ ?_
  refine cb_dup d_x_init_74 rfl ?_
  refine cb_callN (f' := n_c_init) d_x_init_75 nl_x_init_41 ni_c_init rfl rfl rfl ⟨Nat.le_of_ble_eq_true rfl, Nat.le_of_ble_eq_true rfl⟩ (by decide) ⟨Nat.le_of_ble_eq_true rfl, Nat.le_of_ble_eq_true rfl⟩ (fun H h => by rw [h.1]; exact Nat.le_add_right _ _) (k_c_init g _) ?_
  refine cb_widen (k' := 164) (Nat.le_of_ble_eq_true rfl) ?_
  refine cb_nC (by decide) ?_
  refine cb_putF (ci := 0) (j := 0) (kf := 6) (T := ch_F0) (ty := ch_T0 6) d_x_init_78 ch_Cl0 (by decide) rfl pl_x_init_42 rfl rfl rfl rfl (fun _ => ⟨rfl, rfl⟩) h0 (by first | omega | decide) (cb_S_at _ _ _ _ _) ?_
  refine cb_nP rfl ?_
  refine cb_aload_n (i := 0) d_x_init_81 rfl rfl ?_
  refine cb_new (ci := 6) (j := 0) (N := 2) (T := ch_F6) (k' := 165) ch_T6 ch_Cl6 ty_6 d_x_init_82 cl_x_init_46 in_6.1 in_6.2 rfl (cb_in (ci := 6) (j := 0) (c := 0) (by decide) (by decide) (by decide) (by decide)) ⟨Nat.le_of_ble_eq_true rfl, Nat.le_of_ble_eq_true rfl⟩ ⟨Nat.le_of_ble_eq_true rfl, Nat.le_of_ble_eq_true rfl⟩ ?_
  refine cb_dup d_x_init_85 rfl ?_
  refine cb_callN (f' := n_t_init) d_x_init_86 nl_x_init_48 ni_t_init rfl rfl rfl ⟨Nat.le_of_ble_eq_true rfl, Nat.le_of_ble_eq_true rfl⟩ (by decide) ⟨Nat.le_of_ble_eq_true rfl, Nat.le_of_ble_eq_true rfl⟩ (fun H h => by rw [h.1]; exact Nat.le_add_right _ _) (k_t_init g 0 (by decide) _) ?_
  refine cb_widen (k' := 175) (Nat.le_of_ble_eq_true rfl) ?_
  refine cb_nC (by decide) ?_
  refine cb_putF (ci := 0) (j := 0) (kf := 7) (T := ch_F0) (ty := ch_T0 7) d_x_init_89 ch_Cl0 (by decide) rfl pl_x_init_49 rfl rfl rfl rfl (fun _ => ⟨rfl, rfl⟩) h0 (by first | omega | decide) (cb_S_at _ _ _ _ _) ?_
  refine cb_nP rfl ?_
  refine cb_aload_n (i := 0) d_x_init_92 rfl rfl ?_
  refine cb_new (ci := 7) (j := 0) (N := 1) (T := ch_F7) (k' := 176) ch_T7 ch_Cl7 ty_7 d_x_init_93 cl_x_init_53 in_7.1 in_7.2 rfl (cb_in (ci := 7) (j := 0) (c := 0) (by decide) (by decide) (by decide) (by decide)) ⟨Nat.le_of_ble_eq_true rfl, Nat.le_of_ble_eq_true rfl⟩ ⟨Nat.le_of_ble_eq_true rfl, Nat.le_of_ble_eq_true rfl⟩ ?_
  refine cb_dup d_x_init_96 rfl ?_
  refine cb_callN (f' := n_d_init) d_x_init_97 nl_x_init_55 ni_d_init rfl rfl rfl ⟨Nat.le_of_ble_eq_true rfl, Nat.le_of_ble_eq_true rfl⟩ (by decide) ⟨Nat.le_of_ble_eq_true rfl, Nat.le_of_ble_eq_true rfl⟩ (fun H h => by rw [h.1]; exact Nat.le_add_right _ _) (k_d_init g _) ?_
  refine cb_widen (k' := 176) (Nat.le_of_ble_eq_true rfl) ?_
  refine cb_nC (by decide) ?_
  refine cb_putF (ci := 0) (j := 0) (kf := 8) (T := ch_F0) (ty := ch_T0 8) d_x_init_100 ch_Cl0 (by decide) rfl pl_x_init_56 rfl rfl rfl rfl (fun _ => ⟨rfl, rfl⟩) h0 (by first | omega | decide) (cb_S_at _ _ _ _ _) ?_
  refine cb_nP rfl ?_
  refine cb_aload_n (i := 0) d_x_init_103 rfl rfl ?_
  refine cb_new (ci := 6) (j := 1) (N := 2) (T := ch_F6) (k' := 177) ch_T6 ch_Cl6 ty_6 d_x_init_104 cl_x_init_46 in_6.1 in_6.2 rfl (cb_in (ci := 6) (j := 1) (c := 0) (by decide) (by decide) (by decide) (by decide)) ⟨Nat.le_of_ble_eq_true rfl, Nat.le_of_ble_eq_true rfl⟩ ⟨Nat.le_of_ble_eq_true rfl, Nat.le_of_ble_eq_true rfl⟩ ?_
  refine cb_dup d_x_init_107 rfl ?_
  refine cb_callN (f' := n_t_init) d_x_init_108 nl_x_init_48 ni_t_init rfl rfl rfl ⟨Nat.le_of_ble_eq_true rfl, Nat.le_of_ble_eq_true rfl⟩ (by decide) ⟨Nat.le_of_ble_eq_true rfl, Nat.le_of_ble_eq_true rfl⟩ (fun H h => by rw [h.1]; exact Nat.le_add_right _ _) (k_t_init g 1 (by decide) _) ?_
  refine cb_widen (k' := 187) (Nat.le_of_ble_eq_true rfl) ?_
  refine cb_nC (by decide) ?_
  refine cb_putF (ci := 0) (j := 0) (kf := 9) (T := ch_F0) (ty := ch_T0 9) d_x_init_111 ch_Cl0 (by decide) rfl pl_x_init_60 rfl rfl rfl rfl (fun _ => ⟨rfl, rfl⟩) h0 (by first | omega | decide) (cb_S_at _ _ _ _ _) ?_
  refine cb_nP rfl ?_
  refine cb_aload_n (i := 0) d_x_init_114 rfl rfl ?_
  refine cb_new (ci := 8) (j := 0) (N := 3) (T := ch_F8) (k' := 188) ch_T8 ch_Cl8 ty_8 d_x_init_115 cl_x_init_63 in_8.1 in_8.2 rfl (cb_in (ci := 8) (j := 0) (c := 0) (by decide) (by decide) (by decide) (by decide)) ⟨Nat.le_of_ble_eq_true rfl, Nat.le_of_ble_eq_true rfl⟩ ⟨Nat.le_of_ble_eq_true rfl, Nat.le_of_ble_eq_true rfl⟩ ?_
  refine cb_dup d_x_init_118 rfl ?_
  refine cb_callN (f' := n_w_init) d_x_init_119 nl_x_init_65 ni_w_init rfl rfl rfl ⟨Nat.le_of_ble_eq_true rfl, Nat.le_of_ble_eq_true rfl⟩ (by decide) ⟨Nat.le_of_ble_eq_true rfl, Nat.le_of_ble_eq_true rfl⟩ (fun H h => by rw [h.1]; exact Nat.le_add_right _ _) (k_w_init g _) ?_
  refine cb_widen (k' := 197) (Nat.le_of_ble_eq_true rfl) ?_
  refine cb_nC (by decide) ?_
  refine cb_putF (ci := 0) (j := 0) (kf := 10) (T := ch_F0) (ty := ch_T0 10) d_x_init_122 ch_Cl0 (by decide) rfl pl_x_init_66 rfl rfl rfl rfl (fun _ => ⟨rfl, rfl⟩) h0 (by first | omega | decide) (cb_S_at _ _ _ _ _) ?_
  refine cb_nP rfl ?_
  refine cb_aload_n (i := 0) d_x_init_125 rfl rfl ?_
  refine cb_new (ci := 5) (j := 1) (N := 2) (T := ch_F5) (k' := 198) ch_T5 ch_Cl5 ty_5 d_x_init_126 cl_x_init_70 in_5.1 in_5.2 rfl (cb_in (ci := 5) (j := 1) (c := 0) (by decide) (by decide) (by decide) (by decide)) ⟨Nat.le_of_ble_eq_true rfl, Nat.le_of_ble_eq_true rfl⟩ ⟨Nat.le_of_ble_eq_true rfl, Nat.le_of_ble_eq_true rfl⟩ ?_
  refine cb_dup d_x_init_129 rfl ?_
  refine cb_callN (f' := n_s_init) d_x_init_130 nl_x_init_72 ni_s_init rfl rfl rfl ⟨Nat.le_of_ble_eq_true rfl, Nat.le_of_ble_eq_true rfl⟩ (by decide) ⟨Nat.le_of_ble_eq_true rfl, Nat.le_of_ble_eq_true rfl⟩ (fun H h => by rw [h.1]; exact Nat.le_add_right _ _) (k_s_init g 1 (by decide) _) ?_
  refine cb_widen (k' := 200) (Nat.le_of_ble_eq_true rfl) ?_
  refine cb_nC (by decide) ?_
  refine cb_putF (ci := 0) (j := 0) (kf := 11) (T := ch_F0) (ty := ch_T0 11) d_x_init_133 ch_Cl0 (by decide) rfl pl_x_init_73 rfl rfl rfl rfl (fun _ => ⟨rfl, rfl⟩) h0 (by first | omega | decide) (cb_S_at _ _ _ _ _) ?_
  refine cb_nP rfl ?_
  refine cb_aload_n (i := 0) d_x_init_136 rfl rfl ?_
  refine cb_iconst (v := (-1)) d_x_init_137 (by decide) ?_
  rw [cb_S_up (q := 12) (q' := 13) (by decide) (fun k h1 h2 => by rcases (show k = 12 by omega) with rfl <;> rfl)]
  refine cb_putI (ci := 0) (j := 0) (kf := 13) d_x_init_138 pl_x_init_77 rfl rfl h0 (by decide) (cb_S_at _ _ _ _ _) ?_
  refine cb_nP rfl ?_
  have e : ∀ k, 14 ≤ k → ch_gv cb_M 0 0 k = cb_0 0 k := fun k hk => cb_gv_0 (fun j => by obtain ⟨m, rfl⟩ : ∃ m, k = m + 14 := ⟨k - 14, by omega⟩; rfl) (by omega)
  exact cb_ret d_x_init_141 rfl (by decide) (fun H h => by rw [cb_S_n h0 e] at h; exact h)
