/-- a block that holds a text -/
def l_cb (l : List Int32) : ch_B := fun c k => if c = 0 then nI l.length else l.getD k 0
theorem d_sg_eq {T T' : ch_B} (h : t_eq T T') : d_sg T = d_sg T' := by
  obtain ⟨n, hn, e1, e2, e3⟩ := h
  funext p
  unfold d_sg
  rw [e1, e2]
  by_cases c : 0 ≤ p ∧ p < nI n ∧ p < 60
  · rw [if_pos c, if_pos c]
    obtain ⟨k, hk, e⟩ := v_idx (by omega) c.1 c.2.1
    rw [e, nI_clamp (by omega), e3 k hk]
  · rw [if_neg c, if_neg c]
theorem d_ns_cg {T T' : ch_B} (h : d_dg T = d_dg T') : ∀ n p, d_ns T p n = d_ns T' p n := by
  intro n
  induction n with
  | zero => intro _; rfl
  | succ n ih =>
    intro p
    rw [d_ns, d_ns, h, ih]
theorem d_pt_cg {T T' : ch_B} (h : d_sg T = d_sg T') (p : Nat) : d_pt T p = d_pt T' p := by
  have hd : d_dg T = d_dg T' := by
    funext p
    unfold d_dg
    rw [h]
  have hn := d_ns_cg hd
  unfold d_pt d_pt1 pt_n pt_1 pt_s pt_h d_e2
  simp only [h, hd, hn]
theorem d_fp_cg {T T' : ch_B} (h : d_sg T = d_sg T') (h1 : T 0 1 = T' 0 1) : ∀ n p, d_fp T n p = d_fp T' n p := by
  intro n
  induction n with
  | zero => intro _; rfl
  | succ n ih =>
    intro p
    rw [d_fp, d_fp, d_pt_cg h, h1, h, ih]
theorem l_txt_eq {g : ch_G} {m : ch_M} {j : Nat} {l : List Int32} (e : (ch_tx g).getD j [] = l) (hl : l.length ≤ 60) (h0 : m (6, 0, 0) 1 = 0) (hc : ∀ i, i < l.length → vp_nar .char (k_ch (l.getD i 0)) = l.getD i 0) : t_eq (l_cb l) (ch_ob (l_tM g m j) 6 0) := by
  have en : ch_tn g j = l.length := by
    unfold ch_tn
    rw [e]
  have eT : ch_ob (l_tM g m j) 6 0 = l_tB g j (ch_ob m 6 0) l.length := by
    unfold l_tM
    rw [ch_ob_os, en]
  rw [eT]
  refine ⟨l.length, hl, rfl, l_tB_n h0 _ hl, fun k hk => ?_⟩
  rw [l_tB_k h0 _ hl hk]
  have eb : ch_tb g j k = l.getD k 0 := by
    unfold ch_tb
    rw [e]
  rw [eb]
  exact hc k hk
theorem x_F_fp (m : ch_M) : (x_F m).1 = d_fp (ch_ob m 6 0) 60 0 := by
  obtain ⟨K', S', p', e, h⟩ := d_ff_fp m 60 (ch_ob m 4 0) (ch_ob m 5 0) 0
  unfold x_F
  rw [x_p0_mk, e]
theorem x_F_cb {l : List Int32} {X : ch_M} (h : t_eq (l_cb l) (ch_ob X 6 0)) : (x_F X).1 = d_fp (l_cb l) 60 0 := by
  rw [x_F_fp]
  have h1 := d_sg_eq h
  obtain ⟨n, hn, e1, e2, e3⟩ := h
  exact (d_fp_cg h1 (e1.trans e2.symm) 60 0).symm
theorem d_tcK_mk (M : ch_M) (K S : ch_B) (p : Nat) (s : Int32) : d_tcK s (d_mk M K S p) = d_mk M (c_setB K s 0 0 0) S (p + 1) := by
  unfold d_tcK
  rw [d_mk_nx, d_mk_4, d_mk_w4]
theorem d_tc_t {M : ch_M} {p : Nat} (K S : ch_B) (h : d_sg (ch_ob M 6 0) (nI p) = 116) : d_tc (d_mk M K S p) 0 = (true, d_mk M (c_setB K 116 0 0 0) S (p + 1)) := by
  unfold d_tc
  rw [d_mk_6, d_mk_p, h, if_pos (by decide), d_tcK_mk]
  unfold d_tc1
  rw [if_neg (by decide), if_neg (by decide), if_neg (by decide), if_neg (by decide), if_pos rfl]
theorem d_tc_s {M : ch_M} {p : Nat} (K S : ch_B) (h : d_sg (ch_ob M 6 0) (nI p) = 115) (h1 : d_dg (ch_ob M 6 0) (nI (p + 1)) = 9) : d_tc (d_mk M K S p) 0 = (true, d_mk M (ch_bw (c_setB K 115 0 0 0) 0 2 9) S (p + 2)) := by
  unfold d_tc
  rw [d_mk_6, d_mk_p, h, if_pos (by decide), d_tcK_mk]
  unfold d_tc1
  rw [if_neg (by decide), if_neg (by decide), if_neg (by decide), if_neg (by decide), if_neg (by decide), if_neg (by decide), d_tk_mk, h1, if_pos (by decide)]
theorem d_and_t (m : ch_M) (k : ch_M → Bool × ch_M) : d_and (true, m) k = k m := if_pos rfl
theorem d_tc_g {M : ch_M} {p : Nat} (K S : ch_B) (h : d_sg (ch_ob M 6 0) (nI p) = 103) (h1 : d_dg (ch_ob M 6 0) (nI (p + 1)) = 1) (h2 : d_sg (ch_ob M 6 0) (nI (p + 2)) = 62) (h3 : d_dg (ch_ob M 6 0) (nI (p + 3)) = 1) (h4 : d_sg (ch_ob M 6 0) (nI (p + 4)) = 42) (h5 : d_dg (ch_ob M 6 0) (nI (p + 5)) = 1) (h6 : d_dg (ch_ob M 6 0) (nI (p + 6)) = -1) : d_tc (d_mk M K S p) 0 = (true, d_mk M (ch_bw (ch_bw (ch_bw (c_setB K 103 0 0 0) 0 2 1) 0 3 1) 0 4 1) S (p + 6)) := by
  unfold d_tc
  rw [d_mk_6, d_mk_p, h, if_pos (by decide), d_tcK_mk]
  unfold d_tc1
  rw [if_neg (by decide), if_neg (by decide), if_neg (by decide), if_neg (by decide), if_neg (by decide), if_pos rfl]
  have t1 : d_tk 2 (d_mk M (c_setB K 103 0 0 0) S (p + 1)) 0 = (true, d_mk M (ch_bw (c_setB K 103 0 0 0) 0 2 1) S (p + 2)) := by
    rw [d_tk_mk, h1, if_pos (by decide)]
  have t2 : ∀ K', d_ts (d_mk M K' S (p + 2)) 0 62 = (true, d_mk M K' S (p + 3)) := fun K' => by
    rw [d_ts_mk, if_pos h2]
  have t3 : ∀ K', d_tk 3 (d_mk M K' S (p + 3)) 0 = (true, d_mk M (ch_bw K' 0 3 1) S (p + 4)) := fun K' => by
    rw [d_tk_mk, h3, if_pos (by decide)]
  have t4 : ∀ K', d_ts (d_mk M K' S (p + 4)) 0 42 = (true, d_mk M K' S (p + 5)) := fun K' => by
    rw [d_ts_mk, if_pos h4]
  have t5 : ∀ K', d_tn (d_mk M K' S (p + 5)) 0 = (true, d_mk M (ch_bw K' 0 4 1) S (p + 6)) := fun K' => by
    rw [d_tn_mk, h5, if_pos (by decide)]
    unfold d_n2 d_e2
    rw [h6, if_neg (by decide), if_neg (by decide), h5]
  rw [t1, d_and_t, t2, d_and_t, t3, d_and_t, t4, d_and_t, t5]
theorem c_setB_at (K : ch_B) (a b c d : Int32) : c_setB K a b c d 0 1 = a ∧ c_setB K a b c d 0 2 = b ∧ c_setB K a b c d 0 3 = c ∧ c_setB K a b c d 0 4 = d := by
  unfold c_setB
  refine ⟨?_, ?_, ?_, ch_bw_at _ _ _ _⟩
  · rw [ch_bw_k (by decide), ch_bw_k (by decide), ch_bw_k (by decide), ch_bw_at]
  · rw [ch_bw_k (by decide), ch_bw_k (by decide), ch_bw_at]
  · rw [ch_bw_k (by decide), ch_bw_at]
theorem r_w_t {Y K : ch_B} {f : Nat → Int32} {n : Int32} (h : K 0 1 = 116) : r_w Y K f n = r_wt Y := by
  unfold r_w
  rw [h]
  rfl
theorem r_w_s {Y K : ch_B} {f : Nat → Int32} {n : Int32} (h : K 0 1 = 115) : r_w Y K f n = r_ws Y (K 0 2) := by
  unfold r_w
  rw [h]
  rfl
theorem r_w_g {Y K : ch_B} {f : Nat → Int32} {n : Int32} (h : K 0 1 = 103) : r_w Y K f n = r_wg Y (K 0 2) (K 0 3) (K 0 4) := by
  unfold r_w
  rw [h]
  rfl
theorem y_car_t {Y K : ch_B} {f : Nat → Int32} {n : Nat} (h : K 0 1 = 116) : y_car Y K f n = (y_termR Y, y_termB Y) := by
  unfold y_car
  rw [h]
  rfl
/-- a term in a text -/
theorem x_ct_t {M : ch_M} {p n : Nat} {k : Int32} {Y K S : ch_B} (h : d_sg (ch_ob M 6 0) (nI p) = 116) (h1 : d_sg (ch_ob M 6 0) (nI (p + 1)) = 59) (hY : ¬ Y 0 8 = 0) : x_ct (n + 1) k (d_mk (ch_os M 1 0 Y) K S p) = x_ct n (k + 1) (d_mk (ch_os M 1 0 (y_termB Y)) (c_setB K 116 0 0 0) S (p + 2)) := by
  have e6 : ch_ob (ch_os M 1 0 Y) 6 0 = ch_ob M 6 0 := ch_ob_ne (by omega)
  have hK := (c_setB_at K 116 0 0 0).1
  have hr : r_wt Y = (0, 0) := if_neg hY
  rw [x_ct, d_tc_t K S (by rw [e6]; exact h), if_pos rfl, x_R_mk, r_w_t hK, hr, if_pos rfl, x_nM_mk, y_car_t hK, if_pos h1]
theorem x_ct_s {M : ch_M} {p n : Nat} {k : Int32} {Y K S : ch_B} (h : d_sg (ch_ob M 6 0) (nI p) = 115) (h1 : d_dg (ch_ob M 6 0) (nI (p + 1)) = 9) {N : Nat} (h8 : Y 0 8 = nI N) (hN : N < 6) : (x_ct (n + 1) k (d_mk (ch_os M 1 0 Y) K S p)).1 = 0 ∧ (x_ct (n + 1) k (d_mk (ch_os M 1 0 Y) K S p)).2 (3, 0, 0) 0 = 3 ∧ (x_ct (n + 1) k (d_mk (ch_os M 1 0 Y) K S p)).2 (3, 0, 0) 1 = nI N ∧ (x_ct (n + 1) k (d_mk (ch_os M 1 0 Y) K S p)).2 (3, 0, 0) 2 = k := by
  have e6 : ch_ob (ch_os M 1 0 Y) 6 0 = ch_ob M 6 0 := ch_ob_ne (by omega)
  have hK : ch_bw (c_setB K 115 0 0 0) 0 2 9 0 1 = 115 := by
    rw [ch_bw_k (by decide)]
    exact (c_setB_at K 115 0 0 0).1
  have hr : r_ws Y 9 = (3, nI N) := by
    unfold r_ws
    rw [if_neg (fun z => by
      rw [h8] at z
      exact absurd z.2 (nI_nlt (a := 9) (b := N) (by omega) (by decide) ∘ fun w => absurd w (Int32.not_lt.mpr (nI_le (b := 9) (by omega) (by decide))))), h8]
  rw [x_ct, d_tc_s K S (by rw [e6]; exact h) (by rw [e6]; exact h1), if_pos rfl, x_R_mk, r_w_s hK, ch_bw_at, hr, if_neg (show ¬ (3 : Int32) = 0 by decide)]
  unfold r_kp
  dsimp only
  refine ⟨rfl, ?_, ?_, ch_wr_v _ _ _ _⟩
  · rw [ch_wr_k (by decide), ch_os_at, ch_bw_k (by decide), ch_bw_k (by decide), ch_bw_at]
  · rw [ch_wr_k (by decide), ch_os_at, ch_bw_k (by decide), ch_bw_at]
theorem x_ct_g {M : ch_M} {p n : Nat} {k : Int32} {Y K S : ch_B} (h : d_sg (ch_ob M 6 0) (nI p) = 103) (h1 : d_dg (ch_ob M 6 0) (nI (p + 1)) = 1) (h2 : d_sg (ch_ob M 6 0) (nI (p + 2)) = 62) (h3 : d_dg (ch_ob M 6 0) (nI (p + 3)) = 1) (h4 : d_sg (ch_ob M 6 0) (nI (p + 4)) = 42) (h5 : d_dg (ch_ob M 6 0) (nI (p + 5)) = 1) (h6 : d_dg (ch_ob M 6 0) (nI (p + 6)) = -1) {N : Nat} (h8 : Y 0 8 = nI N) (hN2 : 2 ≤ N) (hN : N < 6) : (x_ct (n + 1) k (d_mk (ch_os M 1 0 Y) K S p)).1 = 0 ∧ (x_ct (n + 1) k (d_mk (ch_os M 1 0 Y) K S p)).2 (3, 0, 0) 0 = 11 ∧ (x_ct (n + 1) k (d_mk (ch_os M 1 0 Y) K S p)).2 (3, 0, 0) 1 = 1 ∧ (x_ct (n + 1) k (d_mk (ch_os M 1 0 Y) K S p)).2 (3, 0, 0) 2 = k := by
  have e6 : ch_ob (ch_os M 1 0 Y) 6 0 = ch_ob M 6 0 := ch_ob_ne (by omega)
  have hK : ch_bw (ch_bw (ch_bw (c_setB K 103 0 0 0) 0 2 1) 0 3 1) 0 4 1 0 1 = 103 := by
    rw [ch_bw_k (by decide), ch_bw_k (by decide), ch_bw_k (by decide)]
    exact (c_setB_at K 103 0 0 0).1
  have hK2 : ch_bw (ch_bw (ch_bw (c_setB K 103 0 0 0) 0 2 1) 0 3 1) 0 4 1 0 2 = 1 := by
    rw [ch_bw_k (by decide), ch_bw_k (by decide), ch_bw_at]
  have hK3 : ch_bw (ch_bw (ch_bw (c_setB K 103 0 0 0) 0 2 1) 0 3 1) 0 4 1 0 3 = 1 := by
    rw [ch_bw_k (by decide), ch_bw_at]
  have hr : r_wg Y 1 1 1 = (11, 1) := rr_wg11 h8 hN2 hN 1
  rw [x_ct, d_tc_g K S (by rw [e6]; exact h) (by rw [e6]; exact h1) (by rw [e6]; exact h2) (by rw [e6]; exact h3) (by rw [e6]; exact h4) (by rw [e6]; exact h5) (by rw [e6]; exact h6), if_pos rfl, x_R_mk, r_w_g hK, hK2, hK3, ch_bw_at, hr, if_neg (show ¬ (11 : Int32) = 0 by decide)]
  unfold r_kp
  dsimp only
  refine ⟨rfl, ?_, ?_, ch_wr_v _ _ _ _⟩
  · rw [ch_wr_k (by decide), ch_os_at, ch_bw_k (by decide), ch_bw_k (by decide), ch_bw_at]
  · rw [ch_wr_k (by decide), ch_os_at, ch_bw_k (by decide), ch_bw_at]
