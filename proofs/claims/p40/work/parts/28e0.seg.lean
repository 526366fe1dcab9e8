theorem e_x_character (g : ch_G) (Q : ch_O → ch_M → Prop) (p1 : Int32) (m : ch_M) (h : ch_J g m_x_character (ch_rm m_x_character) (ch_E g m_x_character Q) 0 [some (.inr (0, 0, 0)), some (.inl (.int p1))] [] m 0) : ch_C g m_x_character [.inr (0, 0, 0), .inl (.int p1)] m Q :=
  ch_enter mf_x_character (by intro v hv; simp only [List.mem_cons, List.not_mem_nil, or_false] at hv; rcases hv with rfl | rfl <;> rfl) (Nat.le_of_ble_eq_true rfl) h
set_option maxHeartbeats 1600000 in
theorem g_x_character_0 (g : ch_G) (Q : ch_O → ch_M → Prop) (p1 : Int32) (m : ch_M) (h : ((p1 < 0 → Q (.inr 1) m) ∧ (¬ p1 < 0 → ((p1 < (m (6, 1, 0) 1) → (vp_in p1 60) ∧ (narrow .char (.int (m (6, 1, 1) (Int32.toNatClampNeg p1))) = .int (m (6, 1, 1) (Int32.toNatClampNeg p1))) ∧ Q (.inl (some (.inl (.int (m (6, 1, 1) (Int32.toNatClampNeg p1)))))) m) ∧ (¬ p1 < (m (6, 1, 0) 1) → Q (.inr 1) m))))) : ch_J g m_x_character (ch_rm m_x_character) (ch_E g m_x_character Q) 0 [some (.inr (0, 0, 0)), some (.inl (.int p1))] [] m 0 := by
  refine ch_iload_n (i := 1) d_x_character_0 rfl rfl ?_
  refine ch_if_lt (tgt := 15) d_x_character_1 (by decide) (fun c => ?_) (fun c => ?_)
  · replace h := h.1 c
    exact ch_throw d_x_character_15 d_x_character_18 d_x_character_19 d_x_character_22 tw_x_96 (by decide) rfl (Nat.le_of_ble_eq_true rfl) (Nat.le_of_ble_eq_true rfl) (Nat.le_of_ble_eq_true rfl) h
  · replace h := h.2 c
    refine ch_iload_n (i := 1) d_x_character_4 rfl rfl ?_
    refine ch_aload_n (i := 0) d_x_character_5 rfl rfl ?_
    refine ch_get (v := .inr (6, 1, 0)) d_x_character_6 fl_x_60 rfl ?_
    refine ch_get (v := .inl (.int (m (6, 1, 0) 1))) d_x_character_9 fl_x_203 rfl ?_
    refine ch_icmp_lt (tgt := 23) d_x_character_12 (by decide) (fun c => ?_) (fun c => ?_)
    · replace h := h.1 c
      refine ch_aload_n (i := 0) d_x_character_23 rfl rfl ?_
      refine ch_get (v := .inr (6, 1, 0)) d_x_character_24 fl_x_60 rfl ?_
      refine ch_get (v := .inr (6, 1, 1)) d_x_character_27 fl_x_241 rfl ?_
      refine ch_iload_n (i := 1) d_x_character_30 rfl rfl ?_
      have b1 := h.1
      replace h := h.2
      refine ch_cald (n := 60) d_x_character_31 (by decide) rfl b1 ?_
      exact ch_iret (ty := .char) d_x_character_32 rfl h.1 (Nat.le_of_ble_eq_true rfl) h.2
    · replace h := h.2 c
      exact ch_throw d_x_character_15 d_x_character_18 d_x_character_19 d_x_character_22 tw_x_96 (by decide) rfl (Nat.le_of_ble_eq_true rfl) (Nat.le_of_ble_eq_true rfl) (Nat.le_of_ble_eq_true rfl) h
theorem e_x_wouldEnd (g : ch_G) (Q : ch_O → ch_M → Prop) (p1 : Int32) (m : ch_M) (h : ch_J g m_x_wouldEnd (ch_rm m_x_wouldEnd) (ch_E g m_x_wouldEnd Q) 0 [some (.inr (0, 0, 0)), some (.inl (.int p1))] [] m 0) : ch_C g m_x_wouldEnd [.inr (0, 0, 0), .inl (.int p1)] m Q :=
  ch_enter mf_x_wouldEnd (by intro v hv; simp only [List.mem_cons, List.not_mem_nil, or_false] at hv; rcases hv with rfl | rfl <;> rfl) (Nat.le_of_ble_eq_true rfl) h
set_option maxHeartbeats 1600000 in
theorem g_x_wouldEnd_0 (g : ch_G) (Q : ch_O → ch_M → Prop) (p1 : Int32) (m : ch_M) (h : ((p1 < 1 → Q (.inr 2) m) ∧ (¬ p1 < 1 → ((p1 ≤ 9 → ((∀ m2 : ch_M, m2 = ch_os m 1 2 (y_cp (ch_ob m 1 0) (ch_ob m 1 2)) → (vp_in (m2 (1, 2, 0) 9) 6) ∧ (∀ i_, i_ < 5 → vp_in (m2 (1, 2, 8) i_) 5) ∧ ((∀ m5 : ch_M, m5 = ch_os m2 1 2 (y_washB (ch_ob m2 1 2) p1) → Q (.inl (some (.inl (.int (y_washR (ch_ob m2 1 2) p1))))) m5))))) ∧ (¬ p1 ≤ 9 → Q (.inr 2) m))))) : ch_J g m_x_wouldEnd (ch_rm m_x_wouldEnd) (ch_E g m_x_wouldEnd Q) 0 [some (.inr (0, 0, 0)), some (.inl (.int p1))] [] m 0 := by
  refine ch_iload_n (i := 1) d_x_wouldEnd_0 rfl rfl ?_
  refine ch_iconst (v := 1) d_x_wouldEnd_1 (by decide) ?_
  refine ch_icmp_lt (tgt := 11) d_x_wouldEnd_2 (by decide) (fun c => ?_) (fun c => ?_)
  · replace h := h.1 c
    exact ch_throw d_x_wouldEnd_11 d_x_wouldEnd_14 d_x_wouldEnd_15 d_x_wouldEnd_18 tw_x_131 (by decide) rfl (Nat.le_of_ble_eq_true rfl) (Nat.le_of_ble_eq_true rfl) (Nat.le_of_ble_eq_true rfl) h
  · replace h := h.2 c
    refine ch_iload_n (i := 1) d_x_wouldEnd_5 rfl rfl ?_
    refine ch_bipush (v := 9) d_x_wouldEnd_6 (by decide) ?_
    refine ch_icmp_le (tgt := 19) d_x_wouldEnd_8 (by decide) (fun c => ?_) (fun c => ?_)
    · replace h := h.1 c
      refine ch_aload_n (i := 0) d_x_wouldEnd_19 rfl rfl ?_
      refine ch_get (v := .inr (1, 2, 0)) d_x_wouldEnd_20 fl_x_19 rfl ?_
      refine ch_aload_n (i := 0) d_x_wouldEnd_23 rfl rfl ?_
      refine ch_get (v := .inr (1, 0, 0)) d_x_wouldEnd_24 fl_x_10 rfl ?_
      refine ch_callV (as := [.inr (1, 0, 0)]) d_x_wouldEnd_27 lk_x_174 mi_y_copyFrom me_y_copyFrom rfl rfl rfl ⟨Nat.le_of_ble_eq_true rfl, Nat.le_of_ble_eq_true rfl⟩ (Nat.le_of_ble_eq_true rfl) ⟨Nat.le_of_ble_eq_true rfl, Nat.le_of_ble_eq_true rfl⟩ (ch_mono (ch_Kv (fun m2 q3 => ?_)) (s_y_copyFrom g (fun (m_ : ch_M) => (m_ = ch_os m 1 2 (y_cp (ch_ob m 1 0) (ch_ob m 1 2)))) (2) (0) m rfl))
      have hm_ := q3
      replace h := h m2 hm_
      refine ch_aload_n (i := 0) d_x_wouldEnd_30 rfl rfl ?_
      refine ch_get (v := .inr (1, 2, 0)) d_x_wouldEnd_31 fl_x_19 rfl ?_
      refine ch_iload_n (i := 1) d_x_wouldEnd_34 rfl rfl ?_
      have b7 := h.1
      replace h := h.2
      have b8 := h.1
      replace h := h.2
      refine ch_callV (as := [.inl (.int p1)]) d_x_wouldEnd_35 lk_x_178 mi_y_wash me_y_wash rfl rfl rfl ⟨Nat.le_of_ble_eq_true rfl, Nat.le_of_ble_eq_true rfl⟩ (Nat.le_of_ble_eq_true rfl) ⟨Nat.le_of_ble_eq_true rfl, Nat.le_of_ble_eq_true rfl⟩ (ch_mono (ch_Ki (fun r4 m5 q6 => ?_)) (s_y_wash g (fun (r_ : Int32) (m_ : ch_M) => ((y_washR (ch_ob m2 1 2) p1) = r_ ∧ m_ = ch_os m2 1 2 (y_washB (ch_ob m2 1 2) p1))) (2) (p1) m2 ⟨b7, b8, ⟨rfl, rfl⟩⟩))
      obtain ⟨rfl, hm_⟩ := q6
      replace h := h m5 hm_
      exact ch_iret (ty := .int) d_x_wouldEnd_38 rfl rfl (Nat.le_of_ble_eq_true rfl) h
    · replace h := h.2 c
      exact ch_throw d_x_wouldEnd_11 d_x_wouldEnd_14 d_x_wouldEnd_15 d_x_wouldEnd_18 tw_x_131 (by decide) rfl (Nat.le_of_ble_eq_true rfl) (Nat.le_of_ble_eq_true rfl) (Nat.le_of_ble_eq_true rfl) h
theorem e_x_wouldTread (g : ch_G) (Q : ch_O → ch_M → Prop) (p1 : Int32) (p2 : Int32) (m : ch_M) (h : ch_J g m_x_wouldTread (ch_rm m_x_wouldTread) (ch_E g m_x_wouldTread Q) 0 [some (.inr (0, 0, 0)), some (.inl (.int p1)), some (.inl (.int p2))] [] m 0) : ch_C g m_x_wouldTread [.inr (0, 0, 0), .inl (.int p1), .inl (.int p2)] m Q :=
  ch_enter mf_x_wouldTread (by intro v hv; simp only [List.mem_cons, List.not_mem_nil, or_false] at hv; rcases hv with rfl | rfl | rfl <;> rfl) (Nat.le_of_ble_eq_true rfl) h
set_option maxHeartbeats 1600000 in
theorem g_x_wouldTread_0 (g : ch_G) (Q : ch_O → ch_M → Prop) (p1 : Int32) (p2 : Int32) (m : ch_M) (h : (((0 ≤ p1 ∧ p1 < m (1, 0, 0) 8) → ((∀ m7 : ch_M, m7 = ch_os m 5 1 (s_rfB (ch_ob m 5 1) p2) → (((m7 (5, 1, 0) 1) = 0 → Q (.inr 2) m7) ∧ (¬ (m7 (5, 1, 0) 1) = 0 → (vp_in (m7 (5, 1, 0) 1) 13) ∧ ((((y_mf (m7 (5, 1, 1)) (Int32.toNatClampNeg (m7 (5, 1, 0) 1))) = (-1) → (Q (.inl (some (.inl (.int (y_ct (ch_ob m7 1 0) p1 (m7 (5, 1, 1)) (Int32.toNatClampNeg (m7 (5, 1, 0) 1))))))) m7)) ∧ (¬ (y_mf (m7 (5, 1, 1)) (Int32.toNatClampNeg (m7 (5, 1, 0) 1))) = (-1) → Q (.inr 2) m7)))))))) ∧ ((¬ (0 ≤ p1 ∧ p1 < m (1, 0, 0) 8)) → Q (.inr 1) m))) : ch_J g m_x_wouldTread (ch_rm m_x_wouldTread) (ch_E g m_x_wouldTread Q) 0 [some (.inr (0, 0, 0)), some (.inl (.int p1)), some (.inl (.int p2))] [] m 0 := by
  refine ch_aload_n (i := 0) d_x_wouldTread_0 rfl rfl ?_
  refine ch_iload_n (i := 1) d_x_wouldTread_1 rfl rfl ?_
  refine ch_callV (as := [.inl (.int p1)]) d_x_wouldTread_2 lk_x_106 mi_x_checkChild me_x_checkChild rfl rfl rfl ⟨Nat.le_of_ble_eq_true rfl, Nat.le_of_ble_eq_true rfl⟩ (Nat.le_of_ble_eq_true rfl) ⟨Nat.le_of_ble_eq_true rfl, Nat.le_of_ble_eq_true rfl⟩ (ch_mono (ch_Kx (ch_Kv (fun m2 q3 => ?_)) (fun n4 m5 hn_ q3 => ?_)) (s_x_checkChild g (fun (m_ : ch_M) => ((0 ≤ p1 ∧ p1 < m (1, 0, 0) 8) ∧ m = m_)) (fun (n_ : Nat) (m_ : ch_M) => ((¬ (0 ≤ p1 ∧ p1 < m (1, 0, 0) 8)) ∧ n_ = 1 ∧ m = m_)) (p1) m ⟨(fun c_ => ⟨c_, rfl⟩), (fun c_ => ⟨c_, rfl, rfl⟩)⟩))
  · obtain ⟨c_, rfl⟩ := q3
    replace h := h.1 c_
    refine ch_aload_n (i := 0) d_x_wouldTread_5 rfl rfl ?_
    refine ch_get (v := .inr (5, 1, 0)) d_x_wouldTread_6 fl_x_73 rfl ?_
    refine ch_iload_n (i := 2) d_x_wouldTread_9 rfl rfl ?_
    refine ch_callV (as := [.inl (.int p2)]) d_x_wouldTread_10 lk_x_92 mi_s_readFrom me_s_readFrom rfl rfl rfl ⟨Nat.le_of_ble_eq_true rfl, Nat.le_of_ble_eq_true rfl⟩ (Nat.le_of_ble_eq_true rfl) ⟨Nat.le_of_ble_eq_true rfl, Nat.le_of_ble_eq_true rfl⟩ (ch_mono (ch_Kv (fun m7 q8 => ?_)) (s_s_readFrom g (fun (m_ : ch_M) => (m_ = ch_os m 5 1 (s_rfB (ch_ob m 5 1) p2))) (1) (p2) m rfl))
    have hm_ := q8
    replace h := h m7 hm_
    refine ch_aload_n (i := 0) d_x_wouldTread_13 rfl rfl ?_
    refine ch_get (v := .inr (5, 1, 0)) d_x_wouldTread_14 fl_x_73 rfl ?_
    refine ch_get (v := .inl (.int (m7 (5, 1, 0) 1))) d_x_wouldTread_17 fl_x_158 rfl ?_
    refine ch_if_eq (tgt := 34) d_x_wouldTread_20 (by decide) (fun c => ?_) (fun c => ?_)
    · replace h := h.1 c
      exact ch_throw d_x_wouldTread_34 d_x_wouldTread_37 d_x_wouldTread_38 d_x_wouldTread_41 tw_x_131 (by decide) rfl (Nat.le_of_ble_eq_true rfl) (Nat.le_of_ble_eq_true rfl) (Nat.le_of_ble_eq_true rfl) h
    · replace h := h.2 c
      refine ch_aload_n (i := 0) d_x_wouldTread_23 rfl rfl ?_
      refine ch_get (v := .inr (5, 1, 0)) d_x_wouldTread_24 fl_x_73 rfl ?_
      have b12 := h.1
      replace h := h.2
      refine ch_callV (as := []) d_x_wouldTread_27 lk_x_164 mi_s_misfit me_s_misfit rfl rfl rfl ⟨Nat.le_of_ble_eq_true rfl, Nat.le_of_ble_eq_true rfl⟩ (Nat.le_of_ble_eq_true rfl) ⟨Nat.le_of_ble_eq_true rfl, Nat.le_of_ble_eq_true rfl⟩ (ch_mono (ch_Ki (fun r9 m10 q11 => ?_)) (s_s_misfit g (fun (r_ : Int32) (m_ : ch_M) => ((y_mf (m7 (5, 1, 1)) (Int32.toNatClampNeg (m7 (5, 1, 0) 1))) = r_ ∧ m7 = m_)) (1) m7 ⟨b12, ⟨rfl, rfl⟩⟩))
      obtain ⟨rfl, rfl⟩ := q11
      replace h := h
      refine ch_iconst (v := (-1)) d_x_wouldTread_30 (by decide) ?_
      refine ch_icmp_eq (tgt := 42) d_x_wouldTread_31 (by decide) (fun c => ?_) (fun c => ?_)
      · replace h := h.1 c
        refine ch_aload_n (i := 0) d_x_wouldTread_42 rfl rfl ?_
        refine ch_get (v := .inr (1, 0, 0)) d_x_wouldTread_43 fl_x_10 rfl ?_
        refine ch_iload_n (i := 1) d_x_wouldTread_46 rfl rfl ?_
        refine ch_aload_n (i := 0) d_x_wouldTread_47 rfl rfl ?_
        refine ch_get (v := .inr (5, 1, 0)) d_x_wouldTread_48 fl_x_73 rfl ?_
        refine ch_callV (as := [.inl (.int p1), .inr (5, 1, 0)]) d_x_wouldTread_51 lk_x_167 mi_y_countTreads me_y_countTreads rfl rfl rfl ⟨Nat.le_of_ble_eq_true rfl, Nat.le_of_ble_eq_true rfl⟩ (Nat.le_of_ble_eq_true rfl) ⟨Nat.le_of_ble_eq_true rfl, Nat.le_of_ble_eq_true rfl⟩ (ch_mono (ch_Ki (fun r13 m14 q15 => ?_)) (s_y_countTreads g (fun (r_ : Int32) (m_ : ch_M) => ((y_ct (ch_ob m7 1 0) p1 (m7 (5, 1, 1)) (Int32.toNatClampNeg (m7 (5, 1, 0) 1))) = r_ ∧ m7 = m_)) (0) (p1) (1) m7 ⟨b12, ⟨rfl, rfl⟩⟩))
        obtain ⟨rfl, rfl⟩ := q15
        replace h := h
        exact ch_iret (ty := .int) d_x_wouldTread_54 rfl rfl (Nat.le_of_ble_eq_true rfl) h
      · replace h := h.2 c
        exact ch_throw d_x_wouldTread_34 d_x_wouldTread_37 d_x_wouldTread_38 d_x_wouldTread_41 tw_x_131 (by decide) rfl (Nat.le_of_ble_eq_true rfl) (Nat.le_of_ble_eq_true rfl) (Nat.le_of_ble_eq_true rfl) h
  · obtain ⟨c_, rfl, rfl⟩ := q3
    replace h := h.2 c_
    exact ch_xout rfl (Nat.le_of_ble_eq_true rfl) h
theorem e_x_step (g : ch_G) (Q : ch_O → ch_M → Prop) (p1 : Int32) (p2 : Int32) (m : ch_M) (h : ch_J g m_x_step (ch_rm m_x_step) (ch_E g m_x_step Q) 0 [some (.inr (0, 0, 0)), some (.inl (.int p1)), some (.inl (.int p2))] [] m 0) : ch_C g m_x_step [.inr (0, 0, 0), .inl (.int p1), .inl (.int p2)] m Q :=
  ch_enter mf_x_step (by intro v hv; simp only [List.mem_cons, List.not_mem_nil, or_false] at hv; rcases hv with rfl | rfl | rfl <;> rfl) (Nat.le_of_ble_eq_true rfl) h
set_option maxHeartbeats 1600000 in
theorem g_x_step_0 (g : ch_G) (Q : ch_O → ch_M → Prop) (p1 : Int32) (p2 : Int32) (m : ch_M) (h : (((0 ≤ p1 ∧ p1 < m (1, 0, 0) 8) → ((∀ m7 : ch_M, m7 = ch_os m 8 0 (w_fl (ch_ob m 8 0) (w_l (ch_ob m 1 0) p1) 12) → (∀ i_, i_ < 12 → m7 (8, 0, 3) i_ = 1 ∨ m7 (8, 0, 3) i_ = 2 ∨ m7 (8, 0, 3) i_ = 3) ∧ ((∀ m10 : ch_M, m10 = ch_os m7 5 1 (w_tl (m7 (8, 0, 3)) 12 0 (ch_bw (ch_ob m7 5 1) 0 1 0)) → ((p2 < 0 → Q (.inr 3) m10) ∧ (¬ p2 < 0 → ((p2 < (m10 (5, 1, 0) 1) → (vp_in p2 12) ∧ Q (.inl (some (.inl (.int (m10 (5, 1, 1) (Int32.toNatClampNeg p2)))))) m10) ∧ (¬ p2 < (m10 (5, 1, 0) 1) → Q (.inr 3) m10))))))))) ∧ ((¬ (0 ≤ p1 ∧ p1 < m (1, 0, 0) 8)) → Q (.inr 1) m))) : ch_J g m_x_step (ch_rm m_x_step) (ch_E g m_x_step Q) 0 [some (.inr (0, 0, 0)), some (.inl (.int p1)), some (.inl (.int p2))] [] m 0 := by
  refine ch_aload_n (i := 0) d_x_step_0 rfl rfl ?_
  refine ch_iload_n (i := 1) d_x_step_1 rfl rfl ?_
  refine ch_callV (as := [.inl (.int p1)]) d_x_step_2 lk_x_106 mi_x_checkChild me_x_checkChild rfl rfl rfl ⟨Nat.le_of_ble_eq_true rfl, Nat.le_of_ble_eq_true rfl⟩ (Nat.le_of_ble_eq_true rfl) ⟨Nat.le_of_ble_eq_true rfl, Nat.le_of_ble_eq_true rfl⟩ (ch_mono (ch_Kx (ch_Kv (fun m2 q3 => ?_)) (fun n4 m5 hn_ q3 => ?_)) (s_x_checkChild g (fun (m_ : ch_M) => ((0 ≤ p1 ∧ p1 < m (1, 0, 0) 8) ∧ m = m_)) (fun (n_ : Nat) (m_ : ch_M) => ((¬ (0 ≤ p1 ∧ p1 < m (1, 0, 0) 8)) ∧ n_ = 1 ∧ m = m_)) (p1) m ⟨(fun c_ => ⟨c_, rfl⟩), (fun c_ => ⟨c_, rfl, rfl⟩)⟩))
  · obtain ⟨c_, rfl⟩ := q3
    replace h := h.1 c_
    refine ch_aload_n (i := 0) d_x_step_5 rfl rfl ?_
    refine ch_get (v := .inr (8, 0, 0)) d_x_step_6 fl_x_66 rfl ?_
    refine ch_aload_n (i := 0) d_x_step_9 rfl rfl ?_
    refine ch_get (v := .inr (1, 0, 0)) d_x_step_10 fl_x_10 rfl ?_
    refine ch_iload_n (i := 1) d_x_step_13 rfl rfl ?_
    refine ch_callV (as := [.inr (1, 0, 0), .inl (.int p1)]) d_x_step_14 lk_x_147 mi_w_fewestBack me_w_fewestBack rfl rfl rfl ⟨Nat.le_of_ble_eq_true rfl, Nat.le_of_ble_eq_true rfl⟩ (Nat.le_of_ble_eq_true rfl) ⟨Nat.le_of_ble_eq_true rfl, Nat.le_of_ble_eq_true rfl⟩ (ch_mono (ch_Ki (fun r6 m7 q8 => ?_)) (s_w_fewestBack g (fun (r_ : Int32) (m_ : ch_M) => ((w_fl (ch_ob m 8 0) (w_l (ch_ob m 1 0) p1) 12 1 0) = r_ ∧ m_ = ch_os m 8 0 (w_fl (ch_ob m 8 0) (w_l (ch_ob m 1 0) p1) 12))) (0) (p1) m ⟨rfl, rfl⟩))
    obtain ⟨rfl, hm_⟩ := q8
    replace h := h m7 hm_
    refine ch_pop d_x_step_17 rfl ?_
    refine ch_aload_n (i := 0) d_x_step_18 rfl rfl ?_
    refine ch_get (v := .inr (8, 0, 0)) d_x_step_19 fl_x_66 rfl ?_
    refine ch_aload_n (i := 0) d_x_step_22 rfl rfl ?_
    refine ch_get (v := .inr (5, 1, 0)) d_x_step_23 fl_x_73 rfl ?_
    have b12 := h.1
    replace h := h.2
    refine ch_callV (as := [.inr (5, 1, 0)]) d_x_step_26 lk_x_154 mi_w_tellBest me_w_tellBest rfl rfl rfl ⟨Nat.le_of_ble_eq_true rfl, Nat.le_of_ble_eq_true rfl⟩ (Nat.le_of_ble_eq_true rfl) ⟨Nat.le_of_ble_eq_true rfl, Nat.le_of_ble_eq_true rfl⟩ (ch_mono (ch_Kv (fun m10 q11 => ?_)) (s_w_tellBest g (fun (m_ : ch_M) => (m_ = ch_os m7 5 1 (w_tl (m7 (8, 0, 3)) 12 0 (ch_bw (ch_ob m7 5 1) 0 1 0)))) (1) m7 ⟨b12, rfl⟩))
    have hm_ := q11
    replace h := h m10 hm_
    refine ch_iload_n (i := 2) d_x_step_29 rfl rfl ?_
    refine ch_if_lt (tgt := 44) d_x_step_30 (by decide) (fun c => ?_) (fun c => ?_)
    · replace h := h.1 c
      exact ch_throw d_x_step_44 d_x_step_47 d_x_step_48 d_x_step_51 tw_x_141 (by decide) rfl (Nat.le_of_ble_eq_true rfl) (Nat.le_of_ble_eq_true rfl) (Nat.le_of_ble_eq_true rfl) h
    · replace h := h.2 c
      refine ch_iload_n (i := 2) d_x_step_33 rfl rfl ?_
      refine ch_aload_n (i := 0) d_x_step_34 rfl rfl ?_
      refine ch_get (v := .inr (5, 1, 0)) d_x_step_35 fl_x_73 rfl ?_
      refine ch_get (v := .inl (.int (m10 (5, 1, 0) 1))) d_x_step_38 fl_x_158 rfl ?_
      refine ch_icmp_lt (tgt := 52) d_x_step_41 (by decide) (fun c => ?_) (fun c => ?_)
      · replace h := h.1 c
        refine ch_aload_n (i := 0) d_x_step_52 rfl rfl ?_
        refine ch_get (v := .inr (5, 1, 0)) d_x_step_53 fl_x_73 rfl ?_
        refine ch_get (v := .inr (5, 1, 1)) d_x_step_56 fl_x_161 rfl ?_
        refine ch_iload_n (i := 2) d_x_step_59 rfl rfl ?_
        have b13 := h.1
        replace h := h.2
        refine ch_iald (n := 12) d_x_step_60 (by decide) rfl b13 ?_
        exact ch_iret (ty := .int) d_x_step_61 rfl rfl (Nat.le_of_ble_eq_true rfl) h
      · replace h := h.2 c
        exact ch_throw d_x_step_44 d_x_step_47 d_x_step_48 d_x_step_51 tw_x_141 (by decide) rfl (Nat.le_of_ble_eq_true rfl) (Nat.le_of_ble_eq_true rfl) (Nat.le_of_ble_eq_true rfl) h
  · obtain ⟨c_, rfl, rfl⟩ := q3
    replace h := h.2 c_
    exact ch_xout rfl (Nat.le_of_ble_eq_true rfl) h
theorem e_x_putBlankBetween (g : ch_G) (Q : ch_O → ch_M → Prop)  (m : ch_M) (h : ch_J g m_x_putBlankBetween (ch_rm m_x_putBlankBetween) (ch_E g m_x_putBlankBetween Q) 0 [some (.inr (0, 0, 0))] [] m 0) : ch_C g m_x_putBlankBetween [.inr (0, 0, 0)] m Q :=
  ch_enter mf_x_putBlankBetween (by intro v hv; simp only [List.mem_cons, List.not_mem_nil, or_false] at hv; rcases hv with rfl <;> rfl) (Nat.le_of_ble_eq_true rfl) h
set_option maxHeartbeats 1600000 in
theorem g_x_putBlankBetween_0 (g : ch_G) (Q : ch_O → ch_M → Prop)  (m : ch_M) (h : (((m (6, 1, 0) 1) ≤ 0 → Q (.inl none) m) ∧ (¬ (m (6, 1, 0) 1) ≤ 0 → (vp_in (m (6, 1, 0) 1) 61) ∧ ((∀ m2 : ch_M, m2 = ch_os m 6 1 (t_putB (ch_ob m 6 1) 32) → Q (.inl none) m2))))) : ch_J g m_x_putBlankBetween (ch_rm m_x_putBlankBetween) (ch_E g m_x_putBlankBetween Q) 0 [some (.inr (0, 0, 0))] [] m 0 := by
  refine ch_aload_n (i := 0) d_x_putBlankBetween_0 rfl rfl ?_
  refine ch_get (v := .inr (6, 1, 0)) d_x_putBlankBetween_1 fl_x_60 rfl ?_
  refine ch_get (v := .inl (.int (m (6, 1, 0) 1))) d_x_putBlankBetween_4 fl_x_203 rfl ?_
  refine ch_if_le (tgt := 19) d_x_putBlankBetween_7 (by decide) (fun c => ?_) (fun c => ?_)
  · replace h := h.1 c
    exact ch_vret d_x_putBlankBetween_19 rfl (Nat.le_of_ble_eq_true rfl) h
  · replace h := h.2 c
    refine ch_aload_n (i := 0) d_x_putBlankBetween_10 rfl rfl ?_
    refine ch_get (v := .inr (6, 1, 0)) d_x_putBlankBetween_11 fl_x_60 rfl ?_
    refine ch_bipush (v := 32) d_x_putBlankBetween_14 (by decide) ?_
    have b4 := h.1
    replace h := h.2
    refine ch_callV (as := [.inl (.int 32)]) d_x_putBlankBetween_16 lk_x_209 mi_t_put me_t_put rfl rfl rfl ⟨Nat.le_of_ble_eq_true rfl, Nat.le_of_ble_eq_true rfl⟩ (Nat.le_of_ble_eq_true rfl) ⟨Nat.le_of_ble_eq_true rfl, Nat.le_of_ble_eq_true rfl⟩ (ch_mono (ch_Kv (fun m2 q3 => ?_)) (s_t_put g (fun (m_ : ch_M) => (m_ = ch_os m 6 1 (t_putB (ch_ob m 6 1) 32))) (1) (32) m ⟨b4, rfl⟩))
    have hm_ := q3
    replace h := h m2 hm_
    exact ch_vret d_x_putBlankBetween_19 rfl (Nat.le_of_ble_eq_true rfl) h
theorem e_x_putPair (g : ch_G) (Q : ch_O → ch_M → Prop) (p1 : Int32) (p2 : Int32) (p3 : Int32) (m : ch_M) (h : ch_J g m_x_putPair (ch_rm m_x_putPair) (ch_E g m_x_putPair Q) 0 [some (.inr (0, 0, 0)), some (.inl (.int p1)), some (.inl (.int p2)), some (.inl (.int p3))] [] m 0) : ch_C g m_x_putPair [.inr (0, 0, 0), .inl (.int p1), .inl (.int p2), .inl (.int p3)] m Q :=
  ch_enter mf_x_putPair (by intro v hv; simp only [List.mem_cons, List.not_mem_nil, or_false] at hv; rcases hv with rfl | rfl | rfl | rfl <;> rfl) (Nat.le_of_ble_eq_true rfl) h
set_option maxHeartbeats 1600000 in
theorem g_x_putPair_0 (g : ch_G) (Q : ch_O → ch_M → Prop) (p1 : Int32) (p2 : Int32) (p3 : Int32) (m : ch_M) (h : (vp_in (m (6, 1, 0) 1) 61) ∧ ((∀ m2 : ch_M, m2 = ch_os m 6 1 (t_putB (ch_ob m 6 1) ((Int32.toUInt32 (48 + p1) % 65536).toInt32)) → (vp_in (m2 (6, 1, 0) 1) 61) ∧ ((∀ m6 : ch_M, m6 = ch_os m2 6 1 (t_putB (ch_ob m2 6 1) p2) → (vp_in (m6 (6, 1, 0) 1) 61) ∧ ((∀ m10 : ch_M, m10 = ch_os m6 6 1 (t_putB (ch_ob m6 6 1) ((Int32.toUInt32 (48 + p3) % 65536).toInt32)) → Q (.inl none) m10))))))) : ch_J g m_x_putPair (ch_rm m_x_putPair) (ch_E g m_x_putPair Q) 0 [some (.inr (0, 0, 0)), some (.inl (.int p1)), some (.inl (.int p2)), some (.inl (.int p3))] [] m 0 := by
  refine ch_aload_n (i := 0) d_x_putPair_0 rfl rfl ?_
  refine ch_get (v := .inr (6, 1, 0)) d_x_putPair_1 fl_x_60 rfl ?_
  refine ch_bipush (v := 48) d_x_putPair_4 (by decide) ?_
  refine ch_iload_n (i := 1) d_x_putPair_6 rfl rfl ?_
  refine ch_iadd d_x_putPair_7 ?_
  refine ch_i2c d_x_putPair_8 ?_
  have b4 := h.1
  replace h := h.2
  refine ch_callV (as := [.inl (.int ((Int32.toUInt32 (48 + p1) % 65536).toInt32))]) d_x_putPair_9 lk_x_209 mi_t_put me_t_put rfl rfl rfl ⟨Nat.le_of_ble_eq_true rfl, Nat.le_of_ble_eq_true rfl⟩ (Nat.le_of_ble_eq_true rfl) ⟨Nat.le_of_ble_eq_true rfl, Nat.le_of_ble_eq_true rfl⟩ (ch_mono (ch_Kv (fun m2 q3 => ?_)) (s_t_put g (fun (m_ : ch_M) => (m_ = ch_os m 6 1 (t_putB (ch_ob m 6 1) ((Int32.toUInt32 (48 + p1) % 65536).toInt32)))) (1) (((Int32.toUInt32 (48 + p1) % 65536).toInt32)) m ⟨b4, rfl⟩))
  have hm_ := q3
  replace h := h m2 hm_
  refine ch_aload_n (i := 0) d_x_putPair_12 rfl rfl ?_
  refine ch_get (v := .inr (6, 1, 0)) d_x_putPair_13 fl_x_60 rfl ?_
  refine ch_iload_n (i := 2) d_x_putPair_16 rfl rfl ?_
  have b8 := h.1
  replace h := h.2
  refine ch_callV (as := [.inl (.int p2)]) d_x_putPair_17 lk_x_209 mi_t_put me_t_put rfl rfl rfl ⟨Nat.le_of_ble_eq_true rfl, Nat.le_of_ble_eq_true rfl⟩ (Nat.le_of_ble_eq_true rfl) ⟨Nat.le_of_ble_eq_true rfl, Nat.le_of_ble_eq_true rfl⟩ (ch_mono (ch_Kv (fun m6 q7 => ?_)) (s_t_put g (fun (m_ : ch_M) => (m_ = ch_os m2 6 1 (t_putB (ch_ob m2 6 1) p2))) (1) (p2) m2 ⟨b8, rfl⟩))
  have hm_ := q7
  replace h := h m6 hm_
  refine ch_aload_n (i := 0) d_x_putPair_20 rfl rfl ?_
  refine ch_get (v := .inr (6, 1, 0)) d_x_putPair_21 fl_x_60 rfl ?_
  refine ch_bipush (v := 48) d_x_putPair_24 (by decide) ?_
  refine ch_iload_n (i := 3) d_x_putPair_26 rfl rfl ?_
  refine ch_iadd d_x_putPair_27 ?_
  refine ch_i2c d_x_putPair_28 ?_
  have b12 := h.1
  replace h := h.2
  refine ch_callV (as := [.inl (.int ((Int32.toUInt32 (48 + p3) % 65536).toInt32))]) d_x_putPair_29 lk_x_209 mi_t_put me_t_put rfl rfl rfl ⟨Nat.le_of_ble_eq_true rfl, Nat.le_of_ble_eq_true rfl⟩ (Nat.le_of_ble_eq_true rfl) ⟨Nat.le_of_ble_eq_true rfl, Nat.le_of_ble_eq_true rfl⟩ (ch_mono (ch_Kv (fun m10 q11 => ?_)) (s_t_put g (fun (m_ : ch_M) => (m_ = ch_os m6 6 1 (t_putB (ch_ob m6 6 1) ((Int32.toUInt32 (48 + p3) % 65536).toInt32)))) (1) (((Int32.toUInt32 (48 + p3) % 65536).toInt32)) m6 ⟨b12, rfl⟩))
  have hm_ := q11
  replace h := h m10 hm_
  exact ch_vret d_x_putPair_32 rfl (Nat.le_of_ble_eq_true rfl) h
