theorem lw_RC {M : ch_M} {a : Int32} (h1 : ch_ob M 4 0 0 1 = a) :
    (a = 110 → x_R M = r_wn (ch_ob M 1 0) (ch_ob M 4 0 0 4) ∧ x_C M = (ch_ob M 1 0 0 8 + 1 - 1, y_briB (ch_ob M 1 0) (ch_ob M 4 0 0 4))) ∧
    (a = 99 → x_R M = r_wc (ch_ob M 1 0) (ch_ob M 4 0 0 2) (ch_ob M 4 0 0 4) ∧ x_C M = (y_chv (ch_ob M 1 0) (ch_ob M 4 0 0 4), y_chaB (ch_ob M 1 0) (ch_ob M 4 0 0 2) (ch_ob M 4 0 0 4))) ∧
    (a = 104 → x_R M = r_wh (ch_ob M 1 0) (ch_ob M 4 0 0 2) (M (5, 0, 1)) (M (5, 0, 0) 1) ∧ x_C M = (y_ct (ch_ob M 1 0) (ch_ob M 4 0 0 2) (M (5, 0, 1)) (M (5, 0, 0) 1).toNatClampNeg, y_hopB (ch_ob M 1 0) (ch_ob M 4 0 0 2) (M (5, 0, 1)) (M (5, 0, 0) 1).toNatClampNeg)) ∧
    (a = 119 → x_R M = r_ww (ch_ob M 1 0) (ch_ob M 4 0 0 2) ∧ x_C M = (if 9 < ch_ob M 1 0 4 (ch_ob M 4 0 0 2).toNatClampNeg then 9 else ch_ob M 1 0 4 (ch_ob M 4 0 0 2).toNatClampNeg, y_wriB (ch_ob M 1 0) (ch_ob M 4 0 0 2))) ∧
    (a = 115 → x_R M = r_ws (ch_ob M 1 0) (ch_ob M 4 0 0 2) ∧ x_C M = (ch_ob M 1 0 3 (ch_ob M 4 0 0 2).toNatClampNeg - ch_ob M 1 0 5 (ch_ob M 4 0 0 2).toNatClampNeg, y_strB (ch_ob M 1 0) (ch_ob M 4 0 0 2))) ∧
    (a = 114 → x_R M = r_wr (ch_ob M 1 0) (ch_ob M 4 0 0 4) ∧ x_C M = (y_washR (ch_ob M 1 0) (ch_ob M 4 0 0 4), y_washB (ch_ob M 1 0) (ch_ob M 4 0 0 4))) ∧
    (a = 116 → x_R M = r_wt (ch_ob M 1 0) ∧ x_C M = (y_termR (ch_ob M 1 0), y_termB (ch_ob M 1 0))) ∧
    (a = 103 → x_R M = r_wg (ch_ob M 1 0) (ch_ob M 4 0 0 2) (ch_ob M 4 0 0 3) (ch_ob M 4 0 0 4) ∧ x_C M = (y_givB (ch_ob M 1 0) (ch_ob M 4 0 0 2) (ch_ob M 4 0 0 3) (ch_ob M 4 0 0 4) 3 (ch_ob M 4 0 0 2).toNatClampNeg, y_givB (ch_ob M 1 0) (ch_ob M 4 0 0 2) (ch_ob M 4 0 0 3) (ch_ob M 4 0 0 4))) := by
  unfold x_R x_C r_w y_car
  rw [h1]
  refine ⟨fun z => ?_, fun z => ?_, fun z => ?_, fun z => ?_, fun z => ?_, fun z => ?_, fun z => ?_, fun z => ?_⟩
  · subst z; exact ⟨rfl, rfl⟩
  · subst z; exact ⟨rfl, rfl⟩
  · subst z; exact ⟨rfl, rfl⟩
  · subst z; exact ⟨rfl, rfl⟩
  · subst z; exact ⟨rfl, rfl⟩
  · subst z; exact ⟨rfl, rfl⟩
  · subst z; exact ⟨rfl, rfl⟩
  · subst z; exact ⟨rfl, rfl⟩
