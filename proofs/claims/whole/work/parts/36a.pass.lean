/-! reading a text, as far as it does not hang on what is carried out -/
def pt_n (T : ch_B) (p : Nat) : Bool × Nat := if 0 ≤ d_dg T (nI p) then (true, d_e2 T p) else (false, p)
def pt_1 (T : ch_B) (p : Nat) (k : Nat → Bool × Nat) : Bool × Nat := if 0 ≤ d_dg T (nI p) then k (p + 1) else (false, p)
def pt_s (T : ch_B) (c : Int32) (p : Nat) (k : Nat → Bool × Nat) : Bool × Nat := if d_sg T (nI p) = c then k (p + 1) else (false, p)
def pt_h (T : ch_B) (p : Nat) : Bool × Nat := (decide (¬ d_ns T p 12 = 0), p + d_ns T p 12)
def d_pt1 (T : ch_B) (s : Int32) (p : Nat) : Bool × Nat :=
  if s = 110 then pt_n T p
  else if s = 99 then pt_1 T p (fun a => pt_s T 64 a (fun b => pt_n T b))
  else if s = 104 then pt_1 T p (fun a => pt_s T 58 a (fun b => pt_h T b))
  else if s = 114 then pt_1 T p (fun a => (true, a))
  else if s = 116 then (true, p)
  else if s = 103 then pt_1 T p (fun a => pt_s T 62 a (fun b => pt_1 T b (fun c => pt_s T 42 c (fun d => pt_n T d))))
  else pt_1 T p (fun a => (true, a))
def d_pt (T : ch_B) (p : Nat) : Bool × Nat := if d_kdB (d_sg T (nI p)) = true then d_pt1 T (d_sg T (nI p)) (p + 1) else (false, p)
def d_okS (S S' : ch_B) : Prop := S' = S ∨ ∃ n, n ≤ 12 ∧ S' 0 1 = nI n
def d_res (M : ch_M) (S0 : ch_B) (r : Bool × ch_M) (x : Bool × Nat) : Prop := ∃ K S, r = (x.1, d_mk M K S x.2) ∧ d_okS S0 S
theorem d_res_n (M : ch_M) (K S S0 : ch_B) (hS : d_okS S0 S) (p : Nat) : d_res M S0 (d_tn (d_mk M K S p) 0) (pt_n (ch_ob M 6 0) p) := by
  rw [d_tn_mk]
  unfold pt_n
  split
  · exact ⟨_, S, rfl, hS⟩
  · exact ⟨_, S, rfl, hS⟩
theorem d_res_1 {M : ch_M} {S0 : ch_B} (f : Nat) (K S : ch_B) (hS : d_okS S0 S) (p : Nat) {k : ch_M → Bool × ch_M} {kp : Nat → Bool × Nat} (h : ∀ K', d_res M S0 (k (d_mk M K' S (p + 1))) (kp (p + 1))) : d_res M S0 (d_and (d_tk f (d_mk M K S p) 0) k) (pt_1 (ch_ob M 6 0) p kp) := by
  rw [d_tk_mk]
  unfold pt_1 d_and
  by_cases g : 0 ≤ d_dg (ch_ob M 6 0) (nI p)
  · rw [if_pos g, if_pos g, if_pos rfl]
    exact h _
  · rw [if_neg g, if_neg g, if_neg Bool.false_ne_true]
    exact ⟨_, S, rfl, hS⟩
theorem d_res_1e {M : ch_M} {S0 : ch_B} (f : Nat) (K S : ch_B) (hS : d_okS S0 S) (p : Nat) : d_res M S0 (d_tk f (d_mk M K S p) 0) (pt_1 (ch_ob M 6 0) p (fun a => (true, a))) := by
  rw [d_tk_mk]
  unfold pt_1
  split
  · exact ⟨_, S, rfl, hS⟩
  · exact ⟨_, S, rfl, hS⟩
theorem d_res_s {M : ch_M} {S0 : ch_B} (c : Int32) (K S : ch_B) (hS : d_okS S0 S) (p : Nat) {k : ch_M → Bool × ch_M} {kp : Nat → Bool × Nat} (h : d_res M S0 (k (d_mk M K S (p + 1))) (kp (p + 1))) : d_res M S0 (d_and (d_ts (d_mk M K S p) 0 c) k) (pt_s (ch_ob M 6 0) c p kp) := by
  rw [d_ts_mk]
  unfold pt_s d_and
  by_cases g : d_sg (ch_ob M 6 0) (nI p) = c
  · rw [if_pos g, if_pos g, if_pos rfl]
    exact h
  · rw [if_neg g, if_neg g, if_neg Bool.false_ne_true]
    exact ⟨_, S, rfl, hS⟩
theorem d_res_h (M : ch_M) (K S S0 : ch_B) (p : Nat) : d_res M S0 (d_st (d_mk M K S p) 0 0) (pt_h (ch_ob M 6 0) p) := by
  obtain ⟨S', e1, e2, -⟩ := d_st_mk M K S p
  exact ⟨K, S', e1, Or.inr ⟨_, d_ns_le _ _ _, e2⟩⟩
theorem d_tc_pt (M : ch_M) (K S : ch_B) (p : Nat) : d_res M S (d_tc (d_mk M K S p) 0) (d_pt (ch_ob M 6 0) p) := by
  have hS : d_okS S S := Or.inl rfl
  rw [d_tc_mk]
  unfold d_pt
  split
  · generalize c_setB K (d_sg (ch_ob M 6 0) (nI p)) 0 0 0 = K1
    unfold d_tc1 d_pt1
    split
    · exact d_res_n _ _ _ _ hS _
    · split
      · exact d_res_1 _ _ _ hS _ (fun K' => d_res_s _ _ _ hS _ (d_res_n _ _ _ _ hS _))
      · split
        · exact d_res_1 _ _ _ hS _ (fun K' => d_res_s _ _ _ hS _ (d_res_h _ _ _ _ _))
        · split
          · exact d_res_1e _ _ _ hS _
          · split
            · exact ⟨K1, S, rfl, hS⟩
            · split
              · exact d_res_1 _ _ _ hS _ (fun K' => d_res_s _ _ _ hS _ (d_res_1 _ _ _ hS _ (fun K'' => d_res_s _ _ _ hS _ (d_res_n _ _ _ _ hS _))))
              · exact d_res_1e _ _ _ hS _
  · exact ⟨K, S, rfl, hS⟩
/-- places stay in the text -/
def pt_ok (L p : Nat) (r : Bool × Nat) : Prop := p ≤ r.2 ∧ r.2 ≤ L
theorem pt_ok_n {T : ch_B} (h1 : vp_in (T 0 1) 61) {p : Nat} (hp : p ≤ (T 0 1).toNatClampNeg) : pt_ok (T 0 1).toNatClampNeg p (pt_n T p) := by
  obtain ⟨L, hL, eL⟩ := vp_in_of h1 (by decide)
  have cL : (T 0 1).toNatClampNeg = L := by rw [eL, nI_clamp (by omega)]
  unfold pt_n
  split
  · rename_i h
    have := d_dg_lt h1 (by omega) h
    unfold pt_ok d_e2
    dsimp only
    split
    · rename_i h2
      have := d_dg_lt h1 (by omega) h2
      omega
    · omega
  · exact ⟨Nat.le_refl _, hp⟩
theorem pt_ok_1 {T : ch_B} (h1 : vp_in (T 0 1) 61) {p : Nat} (hp : p ≤ (T 0 1).toNatClampNeg) {kp : Nat → Bool × Nat} (h : p + 1 ≤ (T 0 1).toNatClampNeg → pt_ok (T 0 1).toNatClampNeg (p + 1) (kp (p + 1))) : pt_ok (T 0 1).toNatClampNeg p (pt_1 T p kp) := by
  obtain ⟨L, hL, eL⟩ := vp_in_of h1 (by decide)
  have cL : (T 0 1).toNatClampNeg = L := by rw [eL, nI_clamp (by omega)]
  unfold pt_1
  split
  · rename_i g
    have := d_dg_lt h1 (by omega) g
    have := h (by omega)
    exact ⟨by have := this.1; omega, this.2⟩
  · exact ⟨Nat.le_refl _, hp⟩
theorem pt_ok_s {T : ch_B} (h1 : vp_in (T 0 1) 61) {p : Nat} (hp : p ≤ (T 0 1).toNatClampNeg) {c : Int32} (hc : ¬ c = -1) {kp : Nat → Bool × Nat} (h : p + 1 ≤ (T 0 1).toNatClampNeg → pt_ok (T 0 1).toNatClampNeg (p + 1) (kp (p + 1))) : pt_ok (T 0 1).toNatClampNeg p (pt_s T c p kp) := by
  obtain ⟨L, hL, eL⟩ := vp_in_of h1 (by decide)
  have cL : (T 0 1).toNatClampNeg = L := by rw [eL, nI_clamp (by omega)]
  unfold pt_s
  split
  · rename_i g
    have := d_sg_lt h1 (by omega) hc g
    have := h (by omega)
    exact ⟨by have := this.1; omega, this.2⟩
  · exact ⟨Nat.le_refl _, hp⟩
theorem d_kd_1 : ¬ d_kdB (-1) = true := by decide
theorem d_pt_ok {T : ch_B} (h1 : vp_in (T 0 1) 61) {p : Nat} (hp : p ≤ (T 0 1).toNatClampNeg) : pt_ok (T 0 1).toNatClampNeg p (d_pt T p) ∧ ((d_pt T p).1 = true → p < (d_pt T p).2) := by
  obtain ⟨L, hL, eL⟩ := vp_in_of h1 (by decide)
  have cL : (T 0 1).toNatClampNeg = L := by rw [eL, nI_clamp (by omega)]
  unfold d_pt
  split
  · rename_i hk
    have hlt : p < (T 0 1).toNatClampNeg := by
      by_cases l : p < (T 0 1).toNatClampNeg
      · exact l
      · rw [d_sg_out h1 (by omega) l] at hk
        exact absurd hk d_kd_1
    have key : pt_ok (T 0 1).toNatClampNeg (p + 1) (d_pt1 T (d_sg T (nI p)) (p + 1)) := by
      unfold d_pt1
      split
      · exact pt_ok_n h1 (by omega)
      · split
        · exact pt_ok_1 h1 (by omega) (fun a => pt_ok_s h1 a (by decide) (fun b => pt_ok_n h1 b))
        · split
          · refine pt_ok_1 h1 (by omega) (fun a => pt_ok_s h1 a (by decide) (fun b => ?_))
            unfold pt_h
            exact ⟨Nat.le_add_right _ _, d_ns_lt h1 12 _ b⟩
          · split
            · exact pt_ok_1 h1 (by omega) (fun a => ⟨Nat.le_refl _, a⟩)
            · split
              · exact ⟨Nat.le_refl _, by dsimp only; omega⟩
              · split
                · exact pt_ok_1 h1 (by omega) (fun a => pt_ok_s h1 a (by decide) (fun b => pt_ok_1 h1 b (fun c => pt_ok_s h1 c (by decide) (fun d => pt_ok_n h1 d))))
                · exact pt_ok_1 h1 (by omega) (fun a => ⟨Nat.le_refl _, a⟩)
    exact ⟨⟨by have := key.1; omega, key.2⟩, fun _ => by have := key.1; omega⟩
  · exact ⟨⟨Nat.le_refl _, hp⟩, fun z => absurd z Bool.false_ne_true⟩
/-- the first pass: the place of the fault, or -1 -/
def d_fp (T : ch_B) : Nat → Nat → Int32
  | 0, p => nI p
  | n + 1, p => if (d_pt T p).1 = true then (if nI (d_pt T p).2 = T 0 1 then -1 else if d_sg T (nI (d_pt T p).2) = 59 then d_fp T n ((d_pt T p).2 + 1) else nI (d_pt T p).2) else nI (d_pt T p).2
theorem d_okS_tr {S S1 S2 : ch_B} (h1 : d_okS S S1) (h2 : d_okS S1 S2) : d_okS S S2 := by
  rcases h2 with h2 | h2
  · rw [h2]; exact h1
  · exact Or.inr h2
theorem d_ff_fp (M : ch_M) (n : Nat) : ∀ (K S : ch_B) (p : Nat), ∃ K' S' p', d_ff 0 n (d_mk M K S p) = (d_fp (ch_ob M 6 0) n p, d_mk M K' S' p') ∧ d_okS S S' := by
  induction n with
  | zero =>
    intro K S p
    refine ⟨K, S, p, ?_, Or.inl rfl⟩
    rw [d_ff, d_fp, d_mk_p]
  | succ n ih =>
    intro K S p
    obtain ⟨K1, S1, e, h1⟩ := d_tc_pt M K S p
    have e6 : ∀ K S p, d_mk M K S p (6, 0, 0) 1 = ch_ob M 6 0 0 1 := fun K S p => by
      have := d_mk_6 M K S p
      exact congrFun (congrFun this 0) 1
    rw [d_ff, d_fp, e]
    by_cases g : (d_pt (ch_ob M 6 0) p).1 = true
    · rw [if_pos g, if_pos g]
      dsimp only
      have hc : (d_mk M K1 S1 (d_pt (ch_ob M 6 0) p).2 (7, 0, 0) 0 = d_mk M K1 S1 (d_pt (ch_ob M 6 0) p).2 (6, 0, 0) 1) ↔ (nI (d_pt (ch_ob M 6 0) p).2 = ch_ob M 6 0 0 1) := by rw [d_mk_p, e6]
      by_cases g2 : nI (d_pt (ch_ob M 6 0) p).2 = ch_ob M 6 0 0 1
      · rw [if_pos (hc.mpr g2), if_pos g2]
        exact ⟨K1, S1, _, rfl, h1⟩
      · rw [if_neg (fun z => g2 (hc.mp z)), if_neg g2, d_ts_mk]
        by_cases g3 : d_sg (ch_ob M 6 0) (nI (d_pt (ch_ob M 6 0) p).2) = 59
        · rw [if_pos g3, if_pos rfl, if_pos g3]
          obtain ⟨K', S', p', e2, h2⟩ := ih K1 S1 ((d_pt (ch_ob M 6 0) p).2 + 1)
          exact ⟨K', S', p', e2, d_okS_tr h1 h2⟩
        · rw [if_neg g3, if_neg Bool.false_ne_true, if_neg g3]
          dsimp only
          rw [d_mk_p]
          exact ⟨K1, S1, _, rfl, h1⟩
    · rw [if_neg g, if_neg g]
      dsimp only
      rw [d_mk_p]
      exact ⟨K1, S1, _, rfl, h1⟩
theorem x_p0_mk (M : ch_M) : x_p0 M = d_mk M (ch_ob M 4 0) (ch_ob M 5 0) 0 := by
  unfold x_p0 d_mk
  rw [ch_os_self, ch_os_self]
  rfl
/-- a yard put into the class's memory -/
theorem d_mk_1 (M : ch_M) (Y K S : ch_B) (p : Nat) : ch_os (d_mk M K S p) 1 0 Y = d_mk (ch_os M 1 0 Y) K S p := by
  unfold d_mk
  rw [ch_os_cm (a := 7) (by omega), ch_os_cm (a := 5) (by omega), ch_os_cm (a := 4) (by omega), ch_ob_ne (by omega)]
theorem d_mk_Y (M : ch_M) (K S : ch_B) (p : Nat) : ch_ob (d_mk M K S p) 1 0 = ch_ob M 1 0 := d_mk_ob (by omega) (by omega) (by omega)
theorem x_R_mk (M : ch_M) (Y K S : ch_B) (p : Nat) : x_R (d_mk (ch_os M 1 0 Y) K S p) = r_w Y K (S 1) (S 0 1) := by
  have e1 : d_mk (ch_os M 1 0 Y) K S p (5, 0, 1) = S 1 := congrFun (d_mk_5 (ch_os M 1 0 Y) K S p) 1
  have e0 : d_mk (ch_os M 1 0 Y) K S p (5, 0, 0) 1 = S 0 1 := congrFun (congrFun (d_mk_5 (ch_os M 1 0 Y) K S p) 0) 1
  unfold x_R
  rw [d_mk_Y, ch_ob_os, d_mk_4, e1, e0]
theorem x_C_mk (M : ch_M) (Y K S : ch_B) (p : Nat) : x_C (d_mk (ch_os M 1 0 Y) K S p) = y_car Y K (S 1) (S 0 1).toNatClampNeg := by
  have e1 : d_mk (ch_os M 1 0 Y) K S p (5, 0, 1) = S 1 := congrFun (d_mk_5 (ch_os M 1 0 Y) K S p) 1
  have e0 : d_mk (ch_os M 1 0 Y) K S p (5, 0, 0) 1 = S 0 1 := congrFun (congrFun (d_mk_5 (ch_os M 1 0 Y) K S p) 0) 1
  unfold x_C
  rw [d_mk_Y, ch_ob_os, d_mk_4, e1, e0]
theorem d_ob6_1 (M : ch_M) (Y : ch_B) : ch_ob (ch_os M 1 0 Y) 6 0 = ch_ob M 6 0 := ch_ob_ne (by omega)
theorem x_nM_mk (M : ch_M) (Y K S : ch_B) (p : Nat) : x_nM (d_mk (ch_os M 1 0 Y) K S p) = d_mk (ch_os M 1 0 (y_car Y K (S 1) (S 0 1).toNatClampNeg).2) K S (if d_sg (ch_ob M 6 0) (nI p) = 59 then p + 1 else p) := by
  unfold x_nM
  rw [x_C_mk, d_mk_1, ch_os_os, d_ts_mk, d_ob6_1]
  split <;> rfl
theorem d_okS_v {S S' : ch_B} (h : d_okS S S') (hS : vp_in (S 0 1) 13) : vp_in (S' 0 1) 13 := by
  rcases h with h | ⟨n, h1, h2⟩
  · rw [h]; exact hS
  · rw [h2]
    exact vp_in_nI (by omega) (by decide)
theorem x_ok_mk (M : ch_M) (n : Nat) : ∀ (T : Nat) (Y K S : ch_B) (p : Nat), 0 < T → T + 12 * n < 2 ^ 31 → y_inv T Y → vp_in (S 0 1) 13 → x_ok n (d_mk (ch_os M 1 0 Y) K S p) := by
  induction n with
  | zero => exact fun _ _ _ _ _ _ _ _ _ => trivial
  | succ n ih =>
    intro T Y K S p h0 hT hi hS
    obtain ⟨K1, S1, e, h1⟩ := d_tc_pt (ch_os M 1 0 Y) K S p
    have hS1 := d_okS_v h1 hS
    rw [x_ok, e]
    intro _
    have e1 : d_mk (ch_os M 1 0 Y) K1 S1 (d_pt (ch_ob (ch_os M 1 0 Y) 6 0) p).2 (1, 0, 0) 8 = Y 0 8 := by
      have := d_mk_Y (ch_os M 1 0 Y) K1 S1 (d_pt (ch_ob (ch_os M 1 0 Y) 6 0) p).2
      rw [ch_ob_os] at this
      exact congrFun (congrFun this 0) 8
    have e0 : d_mk (ch_os M 1 0 Y) K1 S1 (d_pt (ch_ob (ch_os M 1 0 Y) 6 0) p).2 (5, 0, 0) 1 = S1 0 1 := congrFun (congrFun (d_mk_5 (ch_os M 1 0 Y) K1 S1 _) 0) 1
    dsimp only
    rw [e1, e0, x_R_mk, x_nM_mk, d_mk_Y, ch_ob_os, d_mk_4]
    refine ⟨y_i8 hi, hS1, fun hw => ?_⟩
    obtain ⟨g1, g2⟩ := y_car_inv (by omega) h0 hi hS1 hw
    exact ⟨g2, ih (T + 12) _ _ _ _ (by omega) (by omega) g1 hS1⟩
def m_txt (T B : ch_B) : Prop := vp_in (T 0 1) 61 ∧ B 0 10 = T 0 1 ∧ ∀ k, k < (T 0 1).toNatClampNeg → B 7 k = T 1 k
theorem d_mk_mk (M : ch_M) (K S K' S' : ch_B) (p p' : Nat) : d_mk (d_mk M K S p) K' S' p' = d_mk M K' S' p' := by
  have e : d_mk (d_mk M K S p) K' S' p' = ch_os (ch_os (ch_os (d_mk M K S p) 4 0 K') 5 0 S') 7 0 (ch_bw (ch_ob (d_mk M K S p) 7 0) 0 0 (nI p')) := rfl
  rw [e, d_mk_w4, d_mk_w5, d_mk_7, ch_bw_bw]
  unfold d_mk
  rw [ch_os_os]
