def pt_s (T : ch_B) (c : Int32) (p : Nat) (k : Nat → Bool × Nat) : Bool × Nat := if d_sg T (nI p) = c then k (p + 1) else (false, p)
def pt_h (T : ch_B) (p : Nat) : Bool × Nat := (decide (¬ d_ns T p 12 = 0), p + d_ns T p 12)
def d_pt1 (T : ch_B) (s : Int32) (p : Nat) : Bool × Nat :=
  if s = 110 then pt_n T p
  else if s = 99 then pt_1 T p (fun a => pt_s T 64 a (fun b => pt_n T b))
  else if s = 104 then pt_1 T p (fun a => pt_s T 58 a (fun b => pt_h T b))
  else if s = 114 then pt_1 T p (fun a => (true, a))
  else if s = 116 then (true, p)
  else if s = 103 then pt_1 T p (fun a => pt_s T 62 a (fun b => pt_1 T b (fun c => pt_s T 42 c (fun d => pt_n T d))))
  else pt_1 T p (fun a => (true, a))
def d_pt (T : ch_B) (p : Nat) : Bool × Nat := if d_kdB (d_sg T (nI p)) = true then d_pt1 T (d_sg T (nI p)) (p + 1) else (false, p)
def d_okS (S S' : ch_B) : Prop := S' = S ∨ ∃ n, n ≤ 12 ∧ S' 0 1 = nI n
def d_res (M : ch_M) (S0 : ch_B) (r : Bool × ch_M) (x : Bool × Nat) : Prop := ∃ K S, r = (x.1, d_mk M K S x.2) ∧ d_okS S0 S
theorem d_res_n (M : ch_M) (K S S0 : ch_B) (hS : d_okS S0 S) (p : Nat) : d_res M S0 (d_tn (d_mk M K S p) 0) (pt_n (ch_ob M 6 0) p) := by
  rw [d_tn_mk]
  unfold pt_n
  split
  · exact ⟨_, S, rfl, hS⟩
  · exact ⟨_, S, rfl, hS⟩
theorem d_res_1 {M : ch_M} {S0 : ch_B} (f : Nat) (K S : ch_B) (hS : d_okS S0 S) (p : Nat) {k : ch_M → Bool × ch_M} {kp : Nat → Bool × Nat} (h : ∀ K', d_res M S0 (k (d_mk M K' S (p + 1))) (kp (p + 1))) : d_res M S0 (d_and (d_tk f (d_mk M K S p) 0) k) (pt_1 (ch_ob M 6 0) p kp) := by
  rw [d_tk_mk]
  unfold pt_1 d_and
  by_cases g : 0 ≤ d_dg (ch_ob M 6 0) (nI p)
  · rw [if_pos g, if_pos g, if_pos rfl]
    exact h _
  · rw [if_neg g, if_neg g, if_neg Bool.false_ne_true]
    exact ⟨_, S, rfl, hS⟩
theorem d_res_1e {M : ch_M} {S0 : ch_B} (f : Nat) (K S : ch_B) (hS : d_okS S0 S) (p : Nat) : d_res M S0 (d_tk f (d_mk M K S p) 0) (pt_1 (ch_ob M 6 0) p (fun a => (true, a))) := by
  rw [d_tk_mk]
  unfold pt_1
  split
  · exact ⟨_, S, rfl, hS⟩
  · exact ⟨_, S, rfl, hS⟩
theorem d_res_s {M : ch_M} {S0 : ch_B} (c : Int32) (K S : ch_B) (hS : d_okS S0 S) (p : Nat) {k : ch_M → Bool × ch_M} {kp : Nat → Bool × Nat} (h : d_res M S0 (k (d_mk M K S (p + 1))) (kp (p + 1))) : d_res M S0 (d_and (d_ts (d_mk M K S p) 0 c) k) (pt_s (ch_ob M 6 0) c p kp) := by
  rw [d_ts_mk]
  unfold pt_s d_and
  by_cases g : d_sg (ch_ob M 6 0) (nI p) = c
  · rw [if_pos g, if_pos g, if_pos rfl]
    exact h
  · rw [if_neg g, if_neg g, if_neg Bool.false_ne_true]
    exact ⟨_, S, rfl, hS⟩
theorem d_res_h (M : ch_M) (K S S0 : ch_B) (p : Nat) : d_res M S0 (d_st (d_mk M K S p) 0 0) (pt_h (ch_ob M 6 0) p) := by
  obtain ⟨S', e1, e2, -⟩ := d_st_mk M K S p
  exact ⟨K, S', e1, Or.inr ⟨_, d_ns_le _ _ _, e2⟩⟩
theorem d_tc_pt (M : ch_M) (K S : ch_B) (p : Nat) : d_res M S (d_tc (d_mk M K S p) 0) (d_pt (ch_ob M 6 0) p) := by
  have hS : d_okS S S := Or.inl rfl
  rw [d_tc_mk]
  unfold d_pt
  split
  · generalize c_setB K (d_sg (ch_ob M 6 0) (nI p)) 0 0 0 = K1
    unfold d_tc1 d_pt1
    split
    · exact d_res_n _ _ _ _ hS _
    · split
      · exact d_res_1 _ _ _ hS _ (fun K' => d_res_s _ _ _ hS _ (d_res_n _ _ _ _ hS _))
      · split
        · exact d_res_1 _ _ _ hS _ (fun K' => d_res_s _ _ _ hS _ (d_res_h _ _ _ _ _))
        · split
          · exact d_res_1e _ _ _ hS _
          · split
            · exact ⟨K1, S, rfl, hS⟩
            · split
              · exact d_res_1 _ _ _ hS _ (fun K' => d_res_s _ _ _ hS _ (d_res_1 _ _ _ hS _ (fun K'' => d_res_s _ _ _ hS _ (d_res_n _ _ _ _ hS _))))
              · exact d_res_1e _ _ _ hS _
  · exact ⟨K, S, rfl, hS⟩
/-- the first pass: the place of the fault, or -1 -/
def d_fp (T : ch_B) : Nat → Nat → Int32
  | 0, p => nI p
  | n + 1, p => if (d_pt T p).1 = true then (if nI (d_pt T p).2 = T 0 1 then -1 else if d_sg T (nI (d_pt T p).2) = 59 then d_fp T n ((d_pt T p).2 + 1) else nI (d_pt T p).2) else nI (d_pt T p).2
theorem d_okS_tr {S S1 S2 : ch_B} (h1 : d_okS S S1) (h2 : d_okS S1 S2) : d_okS S S2 := by
  rcases h2 with h2 | h2
  · rw [h2]; exact h1
  · exact Or.inr h2
theorem d_ff_fp (M : ch_M) (n : Nat) : ∀ (K S : ch_B) (p : Nat), ∃ K' S' p', d_ff 0 n (d_mk M K S p) = (d_fp (ch_ob M 6 0) n p, d_mk M K' S' p') ∧ d_okS S S' := by
  induction n with
  | zero =>
    intro K S p
    refine ⟨K, S, p, ?_, Or.inl rfl⟩
    rw [d_ff, d_fp, d_mk_p]
  | succ n ih =>
    intro K S p
    obtain ⟨K1, S1, e, h1⟩ := d_tc_pt M K S p
    have e6 : ∀ K S p, d_mk M K S p (6, 0, 0) 1 = ch_ob M 6 0 0 1 := fun K S p => by
      have := d_mk_6 M K S p
      exact congrFun (congrFun this 0) 1
    rw [d_ff, d_fp, e]
    by_cases g : (d_pt (ch_ob M 6 0) p).1 = true
    · rw [if_pos g, if_pos g]
      dsimp only
      have hc : (d_mk M K1 S1 (d_pt (ch_ob M 6 0) p).2 (7, 0, 0) 0 = d_mk M K1 S1 (d_pt (ch_ob M 6 0) p).2 (6, 0, 0) 1) ↔ (nI (d_pt (ch_ob M 6 0) p).2 = ch_ob M 6 0 0 1) := by rw [d_mk_p, e6]
      by_cases g2 : nI (d_pt (ch_ob M 6 0) p).2 = ch_ob M 6 0 0 1
      · rw [if_pos (hc.mpr g2), if_pos g2]
        exact ⟨K1, S1, _, rfl, h1⟩
      · rw [if_neg (fun z => g2 (hc.mp z)), if_neg g2, d_ts_mk]
        by_cases g3 : d_sg (ch_ob M 6 0) (nI (d_pt (ch_ob M 6 0) p).2) = 59
        · rw [if_pos g3, if_pos rfl, if_pos g3]
          obtain ⟨K', S', p', e2, h2⟩ := ih K1 S1 ((d_pt (ch_ob M 6 0) p).2 + 1)
          exact ⟨K', S', p', e2, d_okS_tr h1 h2⟩
        · rw [if_neg g3, if_neg Bool.false_ne_true, if_neg g3]
          dsimp only
          rw [d_mk_p]
          exact ⟨K1, S1, _, rfl, h1⟩
    · rw [if_neg g, if_neg g]
      dsimp only
      rw [d_mk_p]
      exact ⟨K1, S1, _, rfl, h1⟩
theorem x_p0_mk (M : ch_M) : x_p0 M = d_mk M (ch_ob M 4 0) (ch_ob M 5 0) 0 := by
  unfold x_p0 d_mk
  rw [ch_os_self, ch_os_self]
  rfl
/-- a yard put into the class's memory -/
theorem d_mk_1 (M : ch_M) (Y K S : ch_B) (p : Nat) : ch_os (d_mk M K S p) 1 0 Y = d_mk (ch_os M 1 0 Y) K S p := by
  unfold d_mk
  rw [ch_os_cm (a := 7) (by omega), ch_os_cm (a := 5) (by omega), ch_os_cm (a := 4) (by omega), ch_ob_ne (by omega)]
theorem d_mk_Y (M : ch_M) (K S : ch_B) (p : Nat) : ch_ob (d_mk M K S p) 1 0 = ch_ob M 1 0 := d_mk_ob (by omega) (by omega) (by omega)
theorem x_R_mk (M : ch_M) (Y K S : ch_B) (p : Nat) : x_R (d_mk (ch_os M 1 0 Y) K S p) = r_w Y K (S 1) (S 0 1) := by
  have e1 : d_mk (ch_os M 1 0 Y) K S p (5, 0, 1) = S 1 := congrFun (d_mk_5 (ch_os M 1 0 Y) K S p) 1
  have e0 : d_mk (ch_os M 1 0 Y) K S p (5, 0, 0) 1 = S 0 1 := congrFun (congrFun (d_mk_5 (ch_os M 1 0 Y) K S p) 0) 1
  unfold x_R
  rw [d_mk_Y, ch_ob_os, d_mk_4, e1, e0]
theorem x_C_mk (M : ch_M) (Y K S : ch_B) (p : Nat) : x_C (d_mk (ch_os M 1 0 Y) K S p) = y_car Y K (S 1) (S 0 1).toNatClampNeg := by
  have e1 : d_mk (ch_os M 1 0 Y) K S p (5, 0, 1) = S 1 := congrFun (d_mk_5 (ch_os M 1 0 Y) K S p) 1
  have e0 : d_mk (ch_os M 1 0 Y) K S p (5, 0, 0) 1 = S 0 1 := congrFun (congrFun (d_mk_5 (ch_os M 1 0 Y) K S p) 0) 1
  unfold x_C
  rw [d_mk_Y, ch_ob_os, d_mk_4, e1, e0]
theorem d_ob6_1 (M : ch_M) (Y : ch_B) : ch_ob (ch_os M 1 0 Y) 6 0 = ch_ob M 6 0 := ch_ob_ne (by omega)
theorem x_nM_mk (M : ch_M) (Y K S : ch_B) (p : Nat) : x_nM (d_mk (ch_os M 1 0 Y) K S p) = d_mk (ch_os M 1 0 (y_car Y K (S 1) (S 0 1).toNatClampNeg).2) K S (if d_sg (ch_ob M 6 0) (nI p) = 59 then p + 1 else p) := by
  unfold x_nM
  rw [x_C_mk, d_mk_1, ch_os_os, d_ts_mk, d_ob6_1]
  split <;> rfl
theorem d_okS_v {S S' : ch_B} (h : d_okS S S') (hS : vp_in (S 0 1) 13) : vp_in (S' 0 1) 13 := by
  rcases h with h | ⟨n, h1, h2⟩
  · rw [h]; exact hS
  · rw [h2]
    exact vp_in_nI (by omega) (by decide)
theorem x_ok_mk (M : ch_M) (n : Nat) : ∀ (T : Nat) (Y K S : ch_B) (p : Nat), 0 < T → T + 12 * n < 2 ^ 31 → y_inv T Y → vp_in (S 0 1) 13 → x_ok n (d_mk (ch_os M 1 0 Y) K S p) := by
  induction n with
  | zero => exact fun _ _ _ _ _ _ _ _ _ => trivial
  | succ n ih =>
    intro T Y K S p h0 hT hi hS
    obtain ⟨K1, S1, e, h1⟩ := d_tc_pt (ch_os M 1 0 Y) K S p
    have hS1 := d_okS_v h1 hS
    rw [x_ok, e]
    intro _
    have e1 : d_mk (ch_os M 1 0 Y) K1 S1 (d_pt (ch_ob (ch_os M 1 0 Y) 6 0) p).2 (1, 0, 0) 8 = Y 0 8 := by
      have := d_mk_Y (ch_os M 1 0 Y) K1 S1 (d_pt (ch_ob (ch_os M 1 0 Y) 6 0) p).2
      rw [ch_ob_os] at this
      exact congrFun (congrFun this 0) 8
    have e0 : d_mk (ch_os M 1 0 Y) K1 S1 (d_pt (ch_ob (ch_os M 1 0 Y) 6 0) p).2 (5, 0, 0) 1 = S1 0 1 := congrFun (congrFun (d_mk_5 (ch_os M 1 0 Y) K1 S1 _) 0) 1
    dsimp only
    rw [e1, e0, x_R_mk, x_nM_mk, d_mk_Y, ch_ob_os, d_mk_4]
    refine ⟨y_i8 hi, hS1, fun hw => ?_⟩
    obtain ⟨g1, g2⟩ := y_car_inv (by omega) h0 hi hS1 hw
    exact ⟨g2, ih (T + 12) _ _ _ _ (by omega) (by omega) g1 hS1⟩
theorem x_b_ob {M : ch_M} {a j : Nat} (h : ¬ (a = 0 ∧ j = 0)) (h1 : ¬ (a = 1 ∧ j = 1)) (h4 : ¬ (a = 4 ∧ j = 0)) (h5 : ¬ (a = 5 ∧ j = 0)) (h7 : ¬ (a = 7 ∧ j = 0)) : ch_ob (x_b M) a j = ch_ob M a j := by
  obtain ⟨K', S', p', e, -⟩ := d_ff_fp M 60 (ch_ob M 4 0) (ch_ob M 5 0) 0
  have eF : x_F M = (d_fp (ch_ob M 6 0) 60 0, d_mk M K' S' p') := by
    unfold x_F
    rw [x_p0_mk]
    exact e
  unfold x_b x_f1
  rw [eF, ch_ob_ne h1, ch_wr_os, ch_ob_ne h, d_mk_ob h4 h5 h7]
theorem x_b_5 {M : ch_M} (hS : vp_in (M (5, 0, 0) 1) 13) : vp_in (ch_ob (x_b M) 5 0 0 1) 13 := by
  obtain ⟨K', S', p', e, h⟩ := d_ff_fp M 60 (ch_ob M 4 0) (ch_ob M 5 0) 0
  have eF : x_F M = (d_fp (ch_ob M 6 0) 60 0, d_mk M K' S' p') := by
    unfold x_F
    rw [x_p0_mk]
    exact e
  unfold x_b x_f1
  rw [eF, ch_ob_ne (by omega), ch_wr_os, ch_ob_ne (by omega), d_mk_5]
  exact d_okS_v h hS
theorem y_fl64a : ∀ s : Fin 109, ∀ n : Fin 12, (FP.ddiv (FP.i2d (nI s.1)) (FP.i2d (nI (n.1 + 1)))) &&& 0x7fffffffffffffff ≤ 0x7ff0000000000000 := by decide +kernel
theorem y_fl32a : ∀ n : Fin 13, (FP.fdiv (FP.i2f (nI n.1)) 1094713344) &&& 0x7fffffff ≤ 0x7f800000 := by decide +kernel
theorem y_fl64 {s n : Nat} (hs : s < 109) (h0 : 0 < n) (hn : n < 13) : vf_n64 (FP.ddiv (FP.i2d (nI s)) (FP.i2d (nI n))) := by
  have := y_fl64a ⟨s, hs⟩ ⟨n - 1, by omega⟩
  dsimp only at this
  rw [show n - 1 + 1 = n by omega] at this
  exact this
theorem y_fl32 {n : Nat} (hn : n < 13) : vf_n32 (FP.fdiv (FP.i2f (nI n)) 1094713344) := y_fl32a ⟨n, hn⟩
theorem y_sum_le {f : Nat → Int32} {b : Nat} (hb0 : b + 1 < 2 ^ 31) (n : Nat) (hb : n * b < 2 ^ 31) (h : ∀ k, k < n → vp_in (f k) (b + 1)) : ∃ s, s ≤ n * b ∧ y_sum f n = nI s := by
  induction n with
  | zero => exact ⟨0, Nat.zero_le _, rfl⟩
  | succ n ih =>
    have e : (n + 1) * b = n * b + b := Nat.succ_mul n b
    obtain ⟨s, h1, h2⟩ := ih (by omega) (fun k hk => h k (by omega))
    have hv := h n (by omega)
    obtain ⟨x, hx, ex⟩ := vp_in_of hv hb0
    refine ⟨s + x, by omega, ?_⟩
    rw [y_sum, h2, ex, nI_add]
def y_fls (Y : ch_B) : Prop := 12 - ch_cnO (Y 1) (-1) 12 = 0 ∨ vf_n64 (FP.ddiv (FP.i2d (y_sum (Y 2) 12)) (FP.i2d (12 - ch_cnO (Y 1) (-1) 12)))
def y_flo (Y : ch_B) : Prop := vf_n32 (FP.fdiv (FP.i2f (12 - ch_cnO (Y 1) (-1) 12)) 1094713344)
theorem y_fl_cn (Y : ch_B) : ∃ n, n < 13 ∧ 12 - ch_cnO (Y 1) (-1) 12 = nI n := by
  obtain ⟨k, hk, e⟩ := ch_cnO_nn (Y 1) (-1) 12
  refine ⟨12 - k, by omega, ?_⟩
  rw [e]
  have : nI (12 - k) + nI k = nI 12 := by rw [nI_add, Nat.sub_add_cancel hk]
  have h2 : (12 : Int32) = nI 12 := rfl
  rw [h2, ← this]
  grind
theorem y_flo_inv (Y : ch_B) : y_flo Y := by
  obtain ⟨n, hn, e⟩ := y_fl_cn Y
  unfold y_flo
  rw [e]
  exact y_fl32 hn
theorem y_fls_inv {T : Nat} {Y : ch_B} (h : y_inv T Y) : y_fls Y := by
  obtain ⟨n, hn, e⟩ := y_fl_cn Y
  obtain ⟨s, hs, es⟩ := y_sum_le (f := Y 2) (b := 9) (by decide) 12 (by decide) (fun k hk => (h.2.1 k hk).1)
  unfold y_fls
  rw [e, es]
  by_cases h0 : n = 0
  · exact Or.inl (by rw [h0]; rfl)
  · exact Or.inr (y_fl64 (by omega) (by omega) hn)
/-- the past, when a state is kept -/
theorem lw_kn {P : ch_B} {n : Nat} (hn : n < 8) (e : P 0 1 = nI n) : p_kn P = (n + 1) % 8 ∧ p_kB P 0 1 = nI ((n + 1) % 8) := by
  unfold p_kn p_kB
  rw [ch_bw_k (by decide), ch_bw_at, e, nI_1]
  by_cases h : n = 7
  · subst h
    exact ⟨by decide, by decide⟩
  · have h8 : ¬ (8 : Int32) ≤ nI (n + 1) := nI_ge (b := 8) (by omega) (by decide)
    rw [if_neg h8, if_neg h8, nI_clamp (by omega), Nat.mod_eq_of_lt (by omega)]
    exact ⟨rfl, rfl⟩
theorem ch_rc0 {k b : Nat} {R : Room} (h : k + 40 ≤ R.cells ∧ 6 * k + 240 ≤ R.slots) (hb : b ≤ 40) : k + b ≤ R.cells ∧ 6 * k + 6 * b ≤ R.slots := by
  obtain ⟨h1, h2⟩ := h
  exact ⟨by omega, by omega⟩
theorem ch_rc1 {k a b : Nat} {R : Room} (h : k + 40 ≤ R.cells ∧ 6 * k + 240 ≤ R.slots) (hb : a + b ≤ 40) : k + a + b ≤ R.cells ∧ 6 * (k + a) + 6 * b ≤ R.slots := by
  obtain ⟨h1, h2⟩ := h
  exact ⟨by omega, by omega⟩
theorem lw_K4 (m : ch_M) (a b c d : Int32) : ch_ob (x_K m a b c d) 4 0 0 1 = a ∧ ch_ob (x_K m a b c d) 4 0 0 2 = b ∧ ch_ob (x_K m a b c d) 4 0 0 3 = c ∧ ch_ob (x_K m a b c d) 4 0 0 4 = d := by
  unfold x_K
  rw [ch_ob_os]
  unfold c_setB
  refine ⟨?_, ?_, ?_, ch_bw_at _ _ _ _⟩
  · rw [ch_bw_k (by decide), ch_bw_k (by decide), ch_bw_k (by decide), ch_bw_at]
  · rw [ch_bw_k (by decide), ch_bw_k (by decide), ch_bw_at]
  · rw [ch_bw_k (by decide), ch_bw_at]
theorem x_ct_fm (Mb : ch_M) (n : Nat) : ∀ (k : Int32) (Tb : Nat) (Y K S : ch_B) (p : Nat), y_inv Tb Y → 0 < Tb → Tb + 12 * n < 2 ^ 31 → vp_in (S 0 1) 13 → ∃ Y' K' S' p' R', (x_ct n k (d_mk (ch_os Mb 1 0 Y) K S p)).2 = ch_os (d_mk (ch_os Mb 1 0 Y') K' S' p') 3 0 R' ∧ y_inv (Tb + 12 * n) Y' ∧ vp_in (S' 0 1) 13 ∧ (¬ (x_ct n k (d_mk (ch_os Mb 1 0 Y) K S p)).1 = 0 → R' = ch_ob Mb 3 0) := by
  have e3 : ∀ Y K S p, ch_ob (d_mk (ch_os Mb 1 0 Y) K S p) 3 0 = ch_ob Mb 3 0 := fun Y K S p => by
    rw [d_mk_ob (by omega) (by omega) (by omega), ch_ob_ne (by omega)]
  have eself : ∀ Y K S p, d_mk (ch_os Mb 1 0 Y) K S p = ch_os (d_mk (ch_os Mb 1 0 Y) K S p) 3 0 (ch_ob Mb 3 0) := fun Y K S p => by
    have := ch_os_self (d_mk (ch_os Mb 1 0 Y) K S p) 3 0
    rw [e3] at this
    exact this.symm
  induction n with
  | zero =>
    intro k Tb Y K S p hi h0 hT hS
    exact ⟨Y, K, S, p, ch_ob Mb 3 0, eself _ _ _ _, hi, hS, fun _ => rfl⟩
  | succ n ih =>
    intro k Tb Y K S p hi h0 hT hS
    obtain ⟨K0, S0, etc, hok⟩ := d_tc_pt (ch_os Mb 1 0 Y) K S p
    have hS0 := d_okS_v hok hS
    rw [x_ct, etc]
    dsimp only
    by_cases c1 : (d_pt (ch_ob (ch_os Mb 1 0 Y) 6 0) p).1 = true
    · rw [if_pos c1, x_R_mk]
      by_cases c2 : (r_w Y K0 (S0 1) (S0 0 1)).1 = 0
      · rw [if_pos c2, x_nM_mk]
        obtain ⟨v1, -⟩ := y_car_inv (by omega) h0 hi hS0 c2
        obtain ⟨Y', K', S', p', R', a1, a2, a3, a4⟩ := ih (k + 1) (Tb + 12) _ K0 S0 _ v1 (by omega) (by omega) hS0
        exact ⟨Y', K', S', p', R', a1, by rw [show Tb + 12 * (n + 1) = Tb + 12 + 12 * n by omega]; exact a2, a3, a4⟩
      · rw [if_neg c2]
        refine ⟨Y, K0, S0, (d_pt (ch_ob (ch_os Mb 1 0 Y) 6 0) p).2, ch_bw (ch_bw (ch_bw (ch_bw (ch_ob Mb 3 0) 0 0 (r_w Y K0 (S0 1) (S0 0 1)).1) 0 1 (r_w Y K0 (S0 1) (S0 0 1)).2) 0 2 0) 0 2 k, ?_, y_inv_mono (by omega) hi (by omega), hS0, fun z => absurd rfl z⟩
        dsimp only
        unfold r_kp
        rw [ch_os_wr, e3]
    · rw [if_neg c1]
      exact ⟨Y, K0, S0, (d_pt (ch_ob (ch_os Mb 1 0 Y) 6 0) p).2, ch_ob Mb 3 0, eself _ _ _ _, y_inv_mono (by omega) hi (by omega), hS0, fun _ => rfl⟩
/-- behind the first pass -/
theorem x_f1_fm (m : ch_M) : ∃ K' S' p', x_f1 m = ch_wr (d_mk m K' S' p') (0, 0, 0) 13 (x_F m).1 ∧ d_okS (ch_ob m 5 0) S' := by
  obtain ⟨K', S', p', e, h⟩ := d_ff_fp m 60 (ch_ob m 4 0) (ch_ob m 5 0) 0
  have eF : x_F m = (d_fp (ch_ob m 6 0) 60 0, d_mk m K' S' p') := by
    unfold x_F
    rw [x_p0_mk]
    exact e
  refine ⟨K', S', p', ?_, h⟩
  unfold x_f1
  rw [eF]
theorem x_f1_ob {m : ch_M} {a j : Nat} (h : ¬ (a = 0 ∧ j = 0)) (h4 : ¬ (a = 4 ∧ j = 0)) (h5 : ¬ (a = 5 ∧ j = 0)) (h7 : ¬ (a = 7 ∧ j = 0)) : ch_ob (x_f1 m) a j = ch_ob m a j := by
  obtain ⟨K', S', p', e, -⟩ := x_f1_fm m
  rw [e, ch_wr_os, ch_ob_ne h, d_mk_ob h4 h5 h7]
theorem x_f1_0 (m : ch_M) (i : Nat) : x_f1 m (0, 0, 0) i = if i = 13 then (x_F m).1 else m (0, 0, 0) i := by
  obtain ⟨K', S', p', e, -⟩ := x_f1_fm m
  rw [e, ch_wr_at]
  split
  · rfl
  · exact congrFun (congrFun (d_mk_ob (M := m) (K := K') (S := S') (p := p') (a := 0) (j := 0) (by omega) (by omega) (by omega)) 0) i
theorem x_f1_5 {m : ch_M} (hS : vp_in (m (5, 0, 0) 1) 13) : vp_in (x_f1 m (5, 0, 0) 1) 13 := by
  obtain ⟨K', S', p', e, h⟩ := x_f1_fm m
  have : x_f1 m (5, 0, 0) 1 = S' 0 1 := by
    rw [e, ch_wr_ne (by decide)]
    exact congrFun (congrFun (d_mk_5 m K' S' p') 0) 1
  rw [this]
  exact d_okS_v h hS
theorem x_b_11 (m : ch_M) : ch_ob (x_b m) 1 1 = y_cp (ch_ob m 1 0) (ch_ob m 1 1) := by
  unfold x_b
  rw [ch_ob_os, x_f1_ob (by omega) (by omega) (by omega) (by omega), x_f1_ob (by omega) (by omega) (by omega) (by omega)]
/-- behind the second pass -/
theorem x_cc_fm {m : ch_M} {T : Nat} (hi : y_inv T (ch_ob m 1 0)) (h0 : 0 < T) (hT : T + 720 < 2 ^ 31) (hS : vp_in (m (5, 0, 0) 1) 13) : x_ok 60 (x_p0 (x_b m)) ∧ ∃ Y' K' S' p' R', (x_cc m).2 = ch_os (d_mk (ch_os (x_b m) 1 0 Y') K' S' p') 3 0 R' ∧ y_inv (T + 720) Y' ∧ vp_in (S' 0 1) 13 ∧ (¬ (x_cc m).1 = 0 → R' = ch_ob m 3 0) := by
  have e1 : ch_ob (x_b m) 1 0 = ch_ob m 1 0 := x_b_ob (by omega) (by omega) (by omega) (by omega) (by omega)
  have e0 : x_p0 (x_b m) = d_mk (ch_os (x_b m) 1 0 (ch_ob m 1 0)) (ch_ob (x_b m) 4 0) (ch_ob (x_b m) 5 0) 0 := by
    rw [x_p0_mk, ← e1, ch_os_self]
  have h5 : vp_in (ch_ob (x_b m) 5 0 0 1) 13 := x_b_5 hS
  obtain ⟨Y', K', S', p', R', a1, a2, a3, a4⟩ := x_ct_fm (x_b m) 60 0 T (ch_ob m 1 0) (ch_ob (x_b m) 4 0) (ch_ob (x_b m) 5 0) 0 hi h0 (by omega) h5
  rw [← e0] at a1 a4
  refine ⟨by rw [e0]; exact x_ok_mk (x_b m) 60 T _ _ _ _ h0 (by omega) hi h5, Y', K', S', p', R', a1, a2, a3, fun z => ?_⟩
  rw [a4 z]
  exact x_b_ob (by omega) (by omega) (by omega) (by omega) (by omega)
/-- what the class leaves, block by block -/
theorem x_c3_ob {m : ch_M} {Y' K' S' R' : ch_B} {p' : Nat} (e : (x_cc m).2 = ch_os (d_mk (ch_os (x_b m) 1 0 Y') K' S' p') 3 0 R') {a j : Nat} (h : ¬ (a = 0 ∧ j = 0)) (h1 : ¬ (a = 1 ∧ (j = 0 ∨ j = 1))) (h4 : ¬ (a = 4 ∧ j = 0)) (h5 : ¬ (a = 5 ∧ j = 0)) (h7 : ¬ (a = 7 ∧ j = 0)) (h3 : ¬ (a = 3 ∧ j = 0)) (h6 : ¬ (a = 6 ∧ j = 0)) : ch_ob (x_c3 m) a j = ch_ob m a j := by
  unfold x_c3 x_cl
  rw [e, ch_wr_os, ch_ob_ne h6, ch_ob_ne h3, d_mk_ob h4 h5 h7, ch_ob_ne (by omega), x_b_ob h (by omega) h4 h5 h7]
theorem x_c3_1 {m : ch_M} {Y' K' S' R' : ch_B} {p' : Nat} (e : (x_cc m).2 = ch_os (d_mk (ch_os (x_b m) 1 0 Y') K' S' p') 3 0 R') : ch_ob (x_c3 m) 1 0 = Y' ∧ ch_ob (x_c3 m) 1 1 = y_cp (ch_ob m 1 0) (ch_ob m 1 1) ∧ ch_ob (x_c3 m) 3 0 = R' ∧ ch_ob (x_c3 m) 6 0 = ch_bw (ch_ob m 6 0) 0 1 0 ∧ x_c3 m (5, 0, 0) 1 = S' 0 1 ∧ x_c3 m (0, 0, 0) 12 = m (0, 0, 0) 12 ∧ x_c3 m (0, 0, 0) 13 = (x_F m).1 := by
  have e6 : ch_ob (x_b m) 6 0 = ch_ob m 6 0 := x_b_ob (by omega) (by omega) (by omega) (by omega) (by omega)
  have e0 : ∀ i, x_c3 m (0, 0, 0) i = x_f1 m (0, 0, 0) i := fun i => by
    have : ch_ob (x_c3 m) 0 0 = ch_ob (x_f1 m) 0 0 := by
      unfold x_c3 x_cl
      rw [e, ch_wr_os, ch_ob_ne (show ¬ (0 = 6 ∧ 0 = 0) by omega), ch_ob_ne (show ¬ (0 = 3 ∧ 0 = 0) by omega), d_mk_ob (by omega) (by omega) (by omega), ch_ob_ne (show ¬ (0 = 1 ∧ 0 = 0) by omega)]
      unfold x_b
      rw [ch_ob_ne (by omega)]
    exact congrFun (congrFun this 0) i
  refine ⟨?_, ?_, ?_, ?_, ?_, by rw [e0, x_f1_0]; rfl, by rw [e0, x_f1_0]; rfl⟩
  · unfold x_c3 x_cl
    rw [e, ch_wr_os, ch_ob_ne (show ¬ (1 = 6 ∧ 0 = 0) by omega), ch_ob_ne (show ¬ (1 = 3 ∧ 0 = 0) by omega), d_mk_ob (by omega) (by omega) (by omega), ch_ob_os]
  · unfold x_c3 x_cl
    rw [e, ch_wr_os, ch_ob_ne (show ¬ (1 = 6 ∧ 1 = 0) by omega), ch_ob_ne (show ¬ (1 = 3 ∧ 1 = 0) by omega), d_mk_ob (by omega) (by omega) (by omega), ch_ob_ne (show ¬ (1 = 1 ∧ 1 = 0) by omega), x_b_11]
  · unfold x_c3 x_cl
    rw [e, ch_wr_os, ch_ob_ne (show ¬ (3 = 6 ∧ 0 = 0) by omega), ch_ob_os]
  · unfold x_c3 x_cl
    rw [e, ch_wr_os, ch_ob_os, ch_ob_ne (show ¬ (6 = 3 ∧ 0 = 0) by omega), d_mk_ob (by omega) (by omega) (by omega), ch_ob_ne (show ¬ (6 = 1 ∧ 0 = 0) by omega), e6]
  · have : ch_ob (x_c3 m) 5 0 = S' := by
      unfold x_c3 x_cl
      rw [e, ch_wr_os, ch_ob_ne (show ¬ (5 = 6 ∧ 0 = 0) by omega), ch_ob_ne (show ¬ (5 = 3 ∧ 0 = 0) by omega), d_mk_5]
    exact congrFun (congrFun this 0) 1
