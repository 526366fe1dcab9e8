theorem lw_bq_w {B B' : ch_B} (f : ∀ a i, a ≠ 10 → a ≠ 11 → ¬ (a = 0 ∧ i = 19) → B' a i = B a i) : lw_bq B B' := ⟨fun i _ => f 1 i (by decide) (by decide) (by omega), fun a i h => f a i (by omega) (by omega) (by omega), fun i h => f 0 i (by decide) (by decide) (by omega)⟩
theorem lw_bq_9 {B B' : ch_B} (f : ∀ a i, a ≠ 9 → ¬ (a = 0 ∧ (i = 21 ∨ i = 19)) → B' a i = B a i) : lw_bq B B' := ⟨fun i _ => f 1 i (by decide) (by omega), fun a i h => f a i (by omega) (by omega), fun i h => f 0 i (by decide) (by omega)⟩
theorem lw_bq_t {B B' : ch_B} (f1 : ∀ i, i < 63 → B' 1 i = B 1 i) (f : ∀ a i, a ≠ 1 → a ≠ 3 → ¬ (a = 0 ∧ i = 19) → B' a i = B a i) : lw_bq B B' := ⟨f1, fun a i h => f a i (by omega) (by omega) (by omega), fun i h => f 0 i (by decide) (by decide) (by omega)⟩
section LWG
variable {g : ch_G} {R : Room} {E : ch_En} {x5 : Int32} {k T : Nat} {m M m3 m' : ch_M} {v w t : Int32} {k' : Nat} {B C : Prop} {B' : ch_B} {o6 o7 o8 o9 : Option ch_V}
theorem lw_93g (h9 : ch_ob M 9 0 = ch_ob m 9 0) (e3 : m3 = ch_wr M (10, 0, 1) 0 v) : ch_ob m3 9 0 = ch_ob m 9 0 := by
  rw [e3, lw_9_wr _ _ (by omega), h9]
theorem lw_g0 (h : lw_inv T m) (hT : T + 800 < 2 ^ 30) (hn : lw_N g R E x5 k (T + 800)) (hs : lw_same m M) (e3 : m3 = ch_wr M (10, 0, 1) 0 v) (e' : m' = ch_os m3 9 0 B') (hB : lw_bq (ch_ob m 9 0) B') (h19 : B' 0 19 = 0) (ev : v = w) (hk : k' ≤ k + 2) : (m' (9, 0, 0) 19 = 0 → ((lg_cmp (m' (10, 0, 1) 0).toInt64 w.toInt64 = 0 → ch_J g m_l_law R E 2096 (lw_L x5 o6 o7 o8 o9) [] m' k') ∧ (¬ lg_cmp (m' (10, 0, 1) 0).toInt64 w.toInt64 = 0 → B))) ∧ (¬ m' (9, 0, 0) 19 = 0 → C) := by
  subst e3 e'
  refine lw_f0 ((ch_os_at _ _ _ _ _ _).trans h19) ?_ (hn _ _ _ _ _ _ (lw_inv_mono (lw_inv_same h (lw_same_tr (lw_same_tr hs (lw_same_wr _ _ (by unfold lw_used; omega))) (lw_same_os _ _ (fun c i => by unfold lw_used; omega))) ?_) (by omega) (by omega)) hk)
  · rw [ch_os_v (by omega), ch_wr_v]
    exact ev
  · rw [ch_ob_os]
    exact hB
theorem lw_g1 (h : lw_inv T m) (hT : T + 800 < 2 ^ 30) (hn : lw_N g R E x5 k (T + 800)) (hs : lw_same m M) (e' : m' = ch_os M 9 0 B') (hB : lw_bq (ch_ob m 9 0) B') (h19 : B' 0 19 = t) (hk : k' ≤ k + 2) : (m' (9, 0, 0) 19 = t → ch_J g m_l_law R E 2096 (lw_L x5 o6 o7 o8 o9) [] m' k') ∧ (¬ m' (9, 0, 0) 19 = t → C) := by
  subst e'
  refine lw_f1 ((ch_os_at _ _ _ _ _ _).trans h19) (hn _ _ _ _ _ _ (lw_inv_mono (lw_inv_same h (lw_same_tr hs (lw_same_os _ _ (fun c i => by unfold lw_used; omega))) ?_) (by omega) (by omega)) hk)
  rw [ch_ob_os]
  exact hB
end LWG
theorem lw_few {B Y : ch_B} {c : Int32} {A C S : Nat → Nat} (h : w_sp (w_e Y c) A C S) : w_fl B (w_l Y c) 12 1 0 = nI (A 0) := by
  obtain ⟨A', C', S', q1, q2, q3⟩ := w_fl_sp B Y c
  rw [(q2 0 (by omega)).1, (w_sp_un q1 h 12 0 (by omega)).1]
theorem lw_step {m : ch_M} {c : Int32} {A C S : Nat → Nat} (h : w_sp (w_e (ch_ob m 1 0) c) A C S) : x_sT (ch_ob m 5 1) (x_sW m c) 0 1 = nI (C 0) ∧ ∀ j, j < C 0 → x_sT (ch_ob m 5 1) (x_sW m c) 1 j = nI (S (w_pt S j)) := by
  obtain ⟨A', C', S', q1, q2, q3⟩ := w_fl_sp (ch_ob m 8 0) (ch_ob m 1 0) c
  have hst : ∀ k, k < 12 → x_sW m c 3 k = nI (S k) := fun k hk => (q3 k hk).trans (by rw [(w_sp_un q1 h 12 k (by omega)).2.2 hk])
  exact w_tl_v h hst 12 0 (ch_bw (ch_ob m 5 1) 0 1 0) (by omega) (Nat.zero_le _) (ch_bw_at _ _ _ _) (fun j hj => absurd hj (by omega))
