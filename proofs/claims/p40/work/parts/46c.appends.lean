theorem lk_b_29 : ch_SV m_a_append2 "java/lang/StringBuilder" 29 1 := ⟨mf_a_append2, ch_wg 1081 (by decide +kernel) (by decide +kernel), by decide +kernel⟩
theorem lk_b_53 : ch_SV m_a_append "java/lang/StringBuilder" 53 1 := ⟨mf_a_append, ch_wg 1195 (by decide +kernel) (by decide +kernel), by decide +kernel⟩
theorem sm_a_append2 : Cond.sameMethod "java/lang/AbstractStringBuilder" "java/lang/AbstractStringBuilder" "append" "(Ljava/lang/String;)Ljava/lang/AbstractStringBuilder;" ∈ ch_good := ch_wg 1345 (by decide +kernel) (by decide +kernel)
theorem sm_a_append : Cond.sameMethod "java/lang/AbstractStringBuilder" "java/lang/AbstractStringBuilder" "append" "(I)Ljava/lang/AbstractStringBuilder;" ∈ ch_good := ch_wg 1352 (by decide +kernel) (by decide +kernel)
theorem sp_b : Cond.superclass "java/lang/StringBuilder" "java/lang/AbstractStringBuilder" ∈ ch_good := ch_wg 1075 (by decide +kernel) (by decide +kernel)
theorem bu_ok9 {g : ch_G} (hx : ch_xi g (9, 0, 0)) : ch_ok g (.inr (9, 0, 0)) := fun a h => by
  cases h
  exact Or.inl (Or.inr hx)
/-- append of a text -/
theorem s_b_append2 (g : ch_G) (q : ch_Ad → ch_M → Prop) (hx : ch_xi g (9, 0, 0)) (n_ : Nat) (j : Nat) (m : ch_M) (h : bu_ok m n_ ∧ n_ + ch_tn g j ≤ 16 ∧ bu_tf g j ∧ ∀ M_ : ch_M, bu_ok M_ (n_ + ch_tn g j) → bu_fr m M_ → q (9, 0, 0) M_) : ch_C g m_b_append2 [.inr (9, 0, 0), .inr (12, j, 0)] m (ch_oa q) := by
  obtain ⟨h1, h2, h3, hq⟩ := h
  refine ch_enter mf_b_append2 (by intro v hv; simp only [List.mem_cons, List.not_mem_nil, or_false] at hv; rcases hv with rfl | rfl <;> rfl) (Nat.le_of_ble_eq_true rfl) ?_
  refine ch_aload_n (i := 0) d_b_append2_0 rfl rfl ?_
  refine ch_aload_n (i := 1) d_b_append2_1 rfl rfl ?_
  refine ch_callSU (as := [.inr (12, j, 0)]) (ci := 9) (j := 0) (C := "java/lang/StringBuilder") (Q0 := ch_oa (fun r M => r = (9, 0, 0) ∧ bu_ok M (n_ + ch_tn g j) ∧ bu_fr m M)) d_b_append2_2 lk_b_29 mi_a_append2 sm_a_append2 sp_b (by decide) rfl rfl rfl ⟨Nat.le_of_ble_eq_true rfl, Nat.le_of_ble_eq_true rfl⟩ (Nat.le_of_ble_eq_true rfl) ⟨Nat.le_of_ble_eq_true rfl, Nat.le_of_ble_eq_true rfl⟩
    (s_a_append2 g _ n_ j m ⟨h1, h2, h3, fun M a b => ⟨rfl, a, b⟩⟩) (fun n M z => by obtain ⟨r, z, -⟩ := z; cases z) ?_
  refine ch_Ka (fun r M hz => ?_)
  obtain ⟨rfl, z1, z2⟩ := hz
  refine ⟨bu_ok9 hx, ?_⟩
  refine ch_pop d_b_append2_5 rfl ?_
  refine ch_aload_n (i := 0) d_b_append2_6 rfl rfl ?_
  exact ch_aret d_b_append2_7 rfl (Or.inl ⟨_, rfl⟩) (Nat.le_of_ble_eq_true rfl) ⟨_, rfl, hq _ z1 z2⟩
/-- append of an int -/
theorem s_b_append (g : ch_G) (q : ch_Ad → ch_M → Prop) (hx : ch_xi g (9, 0, 0)) (n_ : Nat) (x : Int32) (m : ch_M) (h : bu_ok m n_ ∧ n_ ≤ 6 ∧ ¬ x < 0 ∧ ∀ (M_ : ch_M) (e_ : Nat), bu_ok M_ e_ → n_ ≤ e_ → e_ ≤ n_ + 10 → (x.toNatClampNeg < 100 → e_ ≤ n_ + 2) → bu_fr m M_ → q (9, 0, 0) M_) : ch_C g m_b_append [.inr (9, 0, 0), .inl (.int x)] m (ch_oa q) := by
  obtain ⟨h1, h2, h3, hq⟩ := h
  refine ch_enter mf_b_append (by intro v hv; simp only [List.mem_cons, List.not_mem_nil, or_false] at hv; rcases hv with rfl | rfl <;> rfl) (Nat.le_of_ble_eq_true rfl) ?_
  refine ch_aload_n (i := 0) d_b_append_0 rfl rfl ?_
  refine ch_iload_n (i := 1) d_b_append_1 rfl rfl ?_
  refine ch_callSU (as := [.inl (.int x)]) (ci := 9) (j := 0) (C := "java/lang/StringBuilder") (Q0 := ch_oa (fun r M => r = (9, 0, 0) ∧ ∃ e : Nat, bu_ok M e ∧ n_ ≤ e ∧ e ≤ n_ + 10 ∧ (x.toNatClampNeg < 100 → e ≤ n_ + 2) ∧ bu_fr m M)) d_b_append_2 lk_b_53 mi_a_append sm_a_append sp_b (by decide) rfl rfl rfl ⟨Nat.le_of_ble_eq_true rfl, Nat.le_of_ble_eq_true rfl⟩ (Nat.le_of_ble_eq_true rfl) ⟨Nat.le_of_ble_eq_true rfl, Nat.le_of_ble_eq_true rfl⟩
    (s_a_append g _ n_ x m ⟨h1, h2, h3, fun M e a b c d2 d => ⟨rfl, e, a, b, c, d2, d⟩⟩) (fun n M z => by obtain ⟨r, z, -⟩ := z; cases z) ?_
  refine ch_Ka (fun r M hz => ?_)
  obtain ⟨rfl, e, z1, z2, z3, z5, z4⟩ := hz
  refine ⟨bu_ok9 hx, ?_⟩
  refine ch_pop d_b_append_5 rfl ?_
  refine ch_aload_n (i := 0) d_b_append_6 rfl rfl ?_
  exact ch_aret d_b_append_7 rfl (Or.inl ⟨_, rfl⟩) (Nat.le_of_ble_eq_true rfl) ⟨_, rfl, hq _ e z1 z2 z3 z5 z4⟩
