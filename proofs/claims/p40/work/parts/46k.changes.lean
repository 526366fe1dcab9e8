/-! the texts of changes -/
theorem l_gd_nn {x : Int32} (h : l_gd x = true) : ¬ x < 0 := by
  intro hx
  have hle : x ≤ 0 := by
    rw [Int32.lt_iff_toInt_lt] at hx
    rw [Int32.le_iff_toInt_le]
    omega
  have e0 : s_rn x = 0 := by
    show s_rnF x 9 0 = 0
    unfold s_rnF
    exact if_pos hle
  have e1 : s_rc x = 0 := by
    unfold s_rc
    rw [e0]
    split <;> rfl
  have e2 : l_hn x = 0 := by
    unfold l_hn
    rw [e1]
    split
    · exact nI_0
    · rfl
  unfold l_gd at h
  rw [e2] at h
  simp at h
theorem a_S_9 {A : a_G} {m M : ch_M} (h : a_S A m) (e : ∀ a : ch_Ad, a.1 ≠ 9 → M a = m a) : a_S A M := by
  have e' : ∀ a j c i, a ≠ 9 → M (a, j, c) i = m (a, j, c) i := fun a j c i ha => by rw [e (a, j, c) ha]
  exact a_S_kp h (fun a j c i z _ => e' a j c i (by omega)) ⟨by rw [e' 6 1 0 1 (by decide)]; exact h.2.1.1, fun i hi => by rw [e' 6 1 1 i (by decide)]; exact h.2.1.2 i hi⟩ (by rw [e' 5 0 0 1 (by decide)]; exact h.2.2.2.2.2)
theorem tx_at {g : ch_G} (htx : ∃ more, ch_tx g = ch_lit6.map (fun x => x.2.1) ++ more) : (ch_tx g).getD 0 [] = [99, 48, 64] ∧ (ch_tx g).getD 1 [] = [59, 114, 49] ∧ (ch_tx g).getD 2 [] = [116, 59, 104, 49, 58] := by
  obtain ⟨more, h⟩ := htx
  rw [h]
  exact ⟨rfl, rfl, rfl⟩
theorem bu_tn {g : ch_G} {a i : Nat} {t : List Int32} (h : (ch_tx g).getD i [] = t) : ch_tn (ch_ex g 9 a) i = t.length := by
  show ((ch_tx g).getD i []).length = _
  rw [h]
theorem bu_tfL {g : ch_G} {a i : Nat} {t : List Int32} (h : (ch_tx g).getD i [] = t) (hf : ∀ x ∈ t, fits .byte (.int x) = true) : bu_tf (ch_ex g 9 a) i := by
  intro j
  show fits .byte (.int (((ch_tx g).getD i []).getD j 0)) = true
  rw [h, List.getD_eq_getElem?_getD]
  cases hj : t[j]? with
  | none => decide
  | some x => exact hf x (List.mem_of_getElem? hj)
/-- a return in the world with a text more -/
theorem ch_iret2 {g : ch_G} {H0 : Heap} {bs : List Int32} {b : Nat} {f : ch_MI} {Q : ch_O → ch_M → Prop} {pc : Nat} {ls : ch_LT} {x : Int32} {ty : FieldType} {mem : ch_M} {k : Nat} (hd : decode (ch_bc f) pc = .ok (.ireturn, 1)) (hr : ch_rt f = some ty) (hn : narrow ty (.int x) = .int x) (hk : k ≤ ch_mc f) (hb : ∀ H, ch_Rp (ch_tw g H0 bs b) mem H → ch_Rp g mem H) (hq : Q (.inl (some (.inl (.int x)))) mem) : ch_J (ch_tw g H0 bs b) f (ch_rm f) (ch_E g f Q) pc ls [.inl (.int x)] mem k :=
  fun p e s m args below meth c H locs lm hF hR hS ho hs hL => vx_ret (W.widen hk (by omega) (W.zret hF.1 hF.2.1 (hF.2.2.1.trans hr) hn (fun t ht hw => ⟨some (.inl (.int x)), mem, rfl, hq, by rw [ht]; exact hb H hR, hS.F ht⟩) hS.2.2 hd hF.2.2.2.2.2.2.2.1))
set_option maxHeartbeats 1600000 in
theorem l_342 {g : ch_G} {H0 : Heap} {bs : List Int32} {b j : Nat} {q : Int32 → ch_M → Prop} {A : a_G} {p1 x2 : Int32} {m : ch_M} {k : Nat} (hk : k ≤ 100) (hb : ∀ (m : ch_M) (H : Heap), ch_Rp (ch_tw g H0 bs b) m H → ch_Rp g m H) (hN : ch_tn (ch_tw g H0 bs b) j ≤ 60) (hA : a_S A m) (h0 : A.2.2.2.2 = 0) (hT : A.1 + 720 < 2 ^ 31) (hT0 : 0 < A.1)
    (hq1 : ∀ M, a_S (a_up A (A.1 + 720) (ch_ob m 1 0)) M → (∀ k, M (14, 0, 1) k = m (14, 0, 1) k) → q 1 M) (hq0 : ∀ M, a_S A M → y_sm (ch_ob m 1 0) (ch_ob M 1 0) → (∀ k, M (14, 0, 1) k = m (14, 0, 1) k) → q 0 M) :
    ch_J (ch_tw g H0 bs b) m_l_changes (ch_rm m_l_changes) (ch_E g m_l_changes (ch_oi q)) 342 [some (.inr (0, 0, 0)), some (.inl (.int p1)), some (.inl (.int x2))] [.inr (12, j, 0), .inr (0, 0, 0)] m k := by
  refine ch_callS (f' := m_l_runs) (as := [.inr (0, 0, 0), .inr (12, j, 0)]) (rest := []) d_l_changes_342 lk_l_248 ms_l_runs rfl rfl ⟨Nat.le_of_ble_eq_true rfl, Nat.le_of_ble_eq_true rfl⟩ (Nat.le_of_ble_eq_true rfl) ⟨by show k + 80 ≤ 200; omega, by show 6 * k + 6 * 80 ≤ 6 * 200; omega⟩ (ch_mono (ch_Ki (fun r M hz => ?_)) (s_l_runs (ch_tw g H0 bs b) (a_R A m) A j m ⟨hA, h0, hT, hT0, hN, fun _ M h1 h2 h3 => ⟨h3, Or.inl ⟨h2, h1⟩⟩, fun _ M h1 h2 _ h3 => ⟨h3, Or.inr ⟨by decide, h1, by rw [h2]; exact y_sm_refl _⟩⟩, fun _ M h1 h2 _ _ h3 => ⟨h3, Or.inr ⟨by decide, h1, h2⟩⟩⟩))
  obtain ⟨k14, hR⟩ := hz
  refine ch_if_lt (tgt := 352) d_l_changes_345 (by decide) (fun c => ?_) (fun c => ?_)
  · refine ch_iconst (v := 0) d_l_changes_352 (by decide) ?_
    refine ch_iret2 (ty := .boolean) d_l_changes_353 rfl rfl (by show k + 80 ≤ 200; omega) (hb M) (ch_oi_iff.mpr ?_)
    rcases hR with ⟨r1, r2⟩ | ⟨r1, r2, r3⟩
    · exact absurd c (Int32.not_lt.mpr r1)
    · exact hq0 M r2 r3 k14
  · refine ch_iconst (v := 1) d_l_changes_348 (by decide) ?_
    refine ch_goto (tgt := 353) d_l_changes_349 (by decide) ?_
    refine ch_iret2 (ty := .boolean) d_l_changes_353 rfl rfl (by show k + 80 ≤ 200; omega) (hb M) (ch_oi_iff.mpr ?_)
    rcases hR with ⟨r1, r2⟩ | ⟨r1, r2, r3⟩
    · exact hq1 M r2 k14
    · exact absurd (Int32.not_lt.mp c) r1
section CHG
variable {g : ch_G} {Q : ch_O → ch_M → Prop} {p1 x2 : Int32} {m : ch_M} {k : Nat}
theorem bu_x9 {a : Nat} : ch_xi (ch_ex g 9 a) (9, 0, 0) := Or.inr (Or.inl rfl)
theorem l_00 : ch_ok g (.inr (0, 0, 0)) := fun y hy => by
  cases hy
  exact Or.inl (Or.inl ⟨by decide, by decide, by decide⟩)
theorem l_lsok {x y : Int32} : ∀ o ∈ ([some (.inr (0, 0, 0)), some (.inl (.int x)), some (.inl (.int y))] : ch_LT), ∀ v, o = some v → ch_ok g v := by
  intro o ho v hv
  simp only [List.mem_cons, List.not_mem_nil, or_false] at ho
  rcases ho with rfl | rfl | rfl
  · cases hv
    exact l_00
  · cases hv
    exact ch_okl
  · cases hv
    exact ch_okl
theorem l_rsok : ∀ v ∈ ([.inr (0, 0, 0)] : List ch_V), ch_ok g v := by
  intro v hv
  simp only [List.mem_cons, List.not_mem_nil, or_false] at hv
  rw [hv]
  exact l_00
set_option maxHeartbeats 1600000 in
/-- the one text -/
theorem l_283 (htx : ∃ more, ch_tx g = ch_lit6.map (fun x => x.2.1) ++ more) (hxi : ∀ x, ch_xi g x → x.1 = 14)
    (nx : ∀ (H : Heap) (bs : List Int32) (b : Nat) (M : ch_M) (k : Nat), bs.length ≤ 60 → k ≤ 100 → (∀ (m : ch_M) (H1 : Heap), ch_Rp (ch_tw g H bs b) m H1 → ch_Rp g m H1) → (∀ a : ch_Ad, a.1 ≠ 9 → M a = m a) → ch_J (ch_tw g H bs b) m_l_changes (ch_rm m_l_changes) (ch_E g m_l_changes Q) 342 [some (.inr (0, 0, 0)), some (.inl (.int p1)), some (.inl (.int x2))] [.inr (12, (ch_tx g).length, 0), .inr (0, 0, 0)] M k) :
    ch_J g m_l_changes (ch_rm m_l_changes) (ch_E g m_l_changes Q) 283 [some (.inr (0, 0, 0)), some (.inl (.int p1)), some (.inl (.int x2))] [.inr (0, 0, 0)] m 1 := by
  obtain ⟨t0, t1, t2⟩ := tx_at htx
  refine bu_new d_l_changes_283 d_l_changes_286 d_l_changes_287 nc_l_229 nk_l_231 hxi ⟨Nat.le_of_ble_eq_true rfl, Nat.le_of_ble_eq_true rfl⟩ (by decide) ⟨Nat.le_of_ble_eq_true rfl, Nat.le_of_ble_eq_true rfl⟩ (fun a ha => ?_)
  refine ch_ldcS (i := 0) d_l_changes_290 rfl rfl ?_
  refine ch_callV (f' := m_b_append2) (as := [.inr (12, 0, 0)]) d_l_changes_292 lk_l_234 mi_b_append2 me_b_append2 rfl rfl rfl ⟨Nat.le_of_ble_eq_true rfl, Nat.le_of_ble_eq_true rfl⟩ (Nat.le_of_ble_eq_true rfl) ⟨Nat.le_of_ble_eq_true rfl, Nat.le_of_ble_eq_true rfl⟩ (ch_mono (ch_Ka (fun r M hz => ?_)) (s_b_append2 (ch_ex g 9 a) (fun r M => r = (9, 0, 0) ∧ bu_ok M 3 ∧ bu_fr (m_9 m) M) bu_x9 0 0 (m_9 m) ⟨m_9_ok m, by rw [bu_tn t0]; decide, bu_tfL t0 (by decide), fun M h1 h2 => ⟨rfl, by rw [bu_tn t0] at h1; exact h1, h2⟩⟩))
  obtain ⟨rfl, z1, z2⟩ := hz
  refine ⟨bu_ok9 bu_x9, ?_⟩
  refine ch_iload_n (i := 1) d_l_changes_295 rfl rfl ?_
  refine ch_iconst (v := 4) d_l_changes_296 (by decide) ?_
  refine ch_ishr d_l_changes_297 ?_
  refine ch_bipush (v := 14) d_l_changes_298 (by decide) ?_
  refine ch_callS (f' := m_l_some) (as := [.inl (.int (p1 >>> ((4 : Int32) &&& 31))), .inl (.int 14)]) d_l_changes_300 lk_l_146 ms_l_some rfl rfl ⟨Nat.le_of_ble_eq_true rfl, Nat.le_of_ble_eq_true rfl⟩ (Nat.le_of_ble_eq_true rfl) ⟨Nat.le_of_ble_eq_true rfl, Nat.le_of_ble_eq_true rfl⟩ (ch_mono (ch_Ki (fun r M2 hz => ?_)) (s_l_some (ch_ex g 9 a) (fun r M2 => (0 ≤ r ∧ r < 14) ∧ M2 = M) (p1 >>> ((4 : Int32) &&& 31)) 14 M ⟨by decide, l_sm_lt _ 14 (by decide), rfl⟩))
  obtain ⟨⟨hr0, hr1⟩, rfl⟩ := hz
  obtain ⟨jr, hj, rfl⟩ := nI_of (Int32.not_lt.mpr hr0)
  have hj14 : jr < 14 := (nI_ltI (a := jr) (b := 14) hj (by decide)).mp hr1
  refine ch_callV (f' := m_b_append) (as := [.inl (.int (nI jr))]) d_l_changes_303 lk_l_237 mi_b_append me_b_append rfl rfl rfl ⟨Nat.le_of_ble_eq_true rfl, Nat.le_of_ble_eq_true rfl⟩ (Nat.le_of_ble_eq_true rfl) ⟨Nat.le_of_ble_eq_true rfl, Nat.le_of_ble_eq_true rfl⟩ (ch_mono (ch_Ka (fun r M3 hz => ?_)) (s_b_append (ch_ex g 9 a) (fun r M3 => r = (9, 0, 0) ∧ ∃ e, bu_ok M3 e ∧ e ≤ 5 ∧ bu_fr M2 M3) bu_x9 3 (nI jr) M2 ⟨z1, by decide, nI_pos hj, fun M3 e h1 h2 h3 h4 h5 => ⟨rfl, e, h1, h4 (by rw [nI_clamp hj]; omega), h5⟩⟩))
  obtain ⟨rfl, e, y1, y2, y3⟩ := hz
  refine ⟨bu_ok9 bu_x9, ?_⟩
  refine ch_ldcS (i := 1) d_l_changes_306 rfl rfl ?_
  refine ch_callV (f' := m_b_append2) (as := [.inr (12, 1, 0)]) d_l_changes_308 lk_l_234 mi_b_append2 me_b_append2 rfl rfl rfl ⟨Nat.le_of_ble_eq_true rfl, Nat.le_of_ble_eq_true rfl⟩ (Nat.le_of_ble_eq_true rfl) ⟨Nat.le_of_ble_eq_true rfl, Nat.le_of_ble_eq_true rfl⟩ (ch_mono (ch_Ka (fun r M4 hz => ?_)) (s_b_append2 (ch_ex g 9 a) (fun r M4 => r = (9, 0, 0) ∧ bu_ok M4 (e + 3) ∧ bu_fr M3 M4) bu_x9 e 1 M3 ⟨y1, by rw [bu_tn t1]; show e + 3 ≤ 16; omega, bu_tfL t1 (by decide), fun M4 h1 h2 => ⟨rfl, by rw [bu_tn t1] at h1; exact h1, h2⟩⟩))
  obtain ⟨rfl, w1, w2⟩ := hz
  refine ⟨bu_ok9 bu_x9, ?_⟩
  refine bu_str (n := e + 3) (rest := [.inr (0, 0, 0)]) d_l_changes_311 nk_l_242 hxi ha w1 (by omega) l_lsok l_rsok ⟨Nat.le_of_ble_eq_true rfl, Nat.le_of_ble_eq_true rfl⟩ (by decide) ⟨Nat.le_of_ble_eq_true rfl, Nat.le_of_ble_eq_true rfl⟩ (fun H bs b hbl hback => ?_)
  refine ch_goto (tgt := 342) d_l_changes_314 (by decide) ?_
  exact nx H bs b M4 _ (by omega) (Nat.le_of_ble_eq_true rfl) hback (fun x hx => by rw [w2 x hx, y3 x hx, z2 x hx, m_9_ne hx])
set_option maxHeartbeats 1600000 in
/-- the other -/
theorem l_317 (htx : ∃ more, ch_tx g = ch_lit6.map (fun x => x.2.1) ++ more) (hxi : ∀ x, ch_xi g x → x.1 = 14)
    (nx : ∀ (H : Heap) (bs : List Int32) (b : Nat) (M : ch_M) (k : Nat), bs.length ≤ 60 → k ≤ 100 → (∀ (m : ch_M) (H1 : Heap), ch_Rp (ch_tw g H bs b) m H1 → ch_Rp g m H1) → (∀ a : ch_Ad, a.1 ≠ 9 → M a = m a) → ch_J (ch_tw g H bs b) m_l_changes (ch_rm m_l_changes) (ch_E g m_l_changes Q) 342 [some (.inr (0, 0, 0)), some (.inl (.int p1)), some (.inl (.int x2))] [.inr (12, (ch_tx g).length, 0), .inr (0, 0, 0)] M k) :
    ch_J g m_l_changes (ch_rm m_l_changes) (ch_E g m_l_changes Q) 317 [some (.inr (0, 0, 0)), some (.inl (.int p1)), some (.inl (.int x2))] [.inr (0, 0, 0)] m 1 := by
  obtain ⟨t0, t1, t2⟩ := tx_at htx
  refine bu_new d_l_changes_317 d_l_changes_320 d_l_changes_321 nc_l_229 nk_l_231 hxi ⟨Nat.le_of_ble_eq_true rfl, Nat.le_of_ble_eq_true rfl⟩ (by decide) ⟨Nat.le_of_ble_eq_true rfl, Nat.le_of_ble_eq_true rfl⟩ (fun a ha => ?_)
  refine ch_ldcS (i := 2) d_l_changes_324 rfl rfl ?_
  refine ch_callV (f' := m_b_append2) (as := [.inr (12, 2, 0)]) d_l_changes_326 lk_l_234 mi_b_append2 me_b_append2 rfl rfl rfl ⟨Nat.le_of_ble_eq_true rfl, Nat.le_of_ble_eq_true rfl⟩ (Nat.le_of_ble_eq_true rfl) ⟨Nat.le_of_ble_eq_true rfl, Nat.le_of_ble_eq_true rfl⟩ (ch_mono (ch_Ka (fun r M hz => ?_)) (s_b_append2 (ch_ex g 9 a) (fun r M => r = (9, 0, 0) ∧ bu_ok M 5 ∧ bu_fr (m_9 m) M) bu_x9 0 2 (m_9 m) ⟨m_9_ok m, by rw [bu_tn t2]; decide, bu_tfL t2 (by decide), fun M h1 h2 => ⟨rfl, by rw [bu_tn t2] at h1; exact h1, h2⟩⟩))
  obtain ⟨rfl, z1, z2⟩ := hz
  refine ⟨bu_ok9 bu_x9, ?_⟩
  refine ch_iload_n (i := 1) d_l_changes_329 rfl rfl ?_
  refine ch_bipush (v := 8) d_l_changes_330 (by decide) ?_
  refine ch_ishr d_l_changes_332 ?_
  refine ch_callS (f' := m_l_steps) (as := [.inl (.int (p1 >>> ((8 : Int32) &&& 31)))]) d_l_changes_333 lk_l_158 ms_l_steps rfl rfl ⟨Nat.le_of_ble_eq_true rfl, Nat.le_of_ble_eq_true rfl⟩ (Nat.le_of_ble_eq_true rfl) ⟨Nat.le_of_ble_eq_true rfl, Nat.le_of_ble_eq_true rfl⟩ (ch_mono (ch_Ki (fun r M2 hz => ?_)) (s_l_steps (ch_ex g 9 a) (fun r M2 => l_gd r = true ∧ M2 = M) (p1 >>> ((8 : Int32) &&& 31)) M (fun R h => ⟨h, rfl⟩)))
  obtain ⟨hr0, rfl⟩ := hz
  refine ch_callV (f' := m_b_append) (as := [.inl (.int r)]) d_l_changes_336 lk_l_237 mi_b_append me_b_append rfl rfl rfl ⟨Nat.le_of_ble_eq_true rfl, Nat.le_of_ble_eq_true rfl⟩ (Nat.le_of_ble_eq_true rfl) ⟨Nat.le_of_ble_eq_true rfl, Nat.le_of_ble_eq_true rfl⟩ (ch_mono (ch_Ka (fun r3 M3 hz => ?_)) (s_b_append (ch_ex g 9 a) (fun r M3 => r = (9, 0, 0) ∧ ∃ e, bu_ok M3 e ∧ e ≤ 15 ∧ bu_fr M2 M3) bu_x9 5 r M2 ⟨z1, by decide, l_gd_nn hr0, fun M3 e h1 h2 h3 h4 h5 => ⟨rfl, e, h1, h3, h5⟩⟩))
  obtain ⟨rfl, e, y1, y2, y3⟩ := hz
  refine ⟨bu_ok9 bu_x9, ?_⟩
  refine bu_str (n := e) (rest := [.inr (0, 0, 0)]) d_l_changes_339 nk_l_242 hxi ha y1 (by omega) l_lsok l_rsok ⟨Nat.le_of_ble_eq_true rfl, Nat.le_of_ble_eq_true rfl⟩ (by decide) ⟨Nat.le_of_ble_eq_true rfl, Nat.le_of_ble_eq_true rfl⟩ (fun H bs b hbl hback => ?_)
  exact nx H bs b M3 _ (by omega) (Nat.le_of_ble_eq_true rfl) hback (fun x hx => by rw [y3 x hx, z2 x hx, m_9_ne hx])
end CHG
set_option maxHeartbeats 1600000 in
/-- changes, whole -/
theorem l_CH_of {g : ch_G} (htx : ∃ more, ch_tx g = ch_lit6.map (fun x => x.2.1) ++ more) (hxi : ∀ x, ch_xi g x → x.1 = 14) : l_CH g := by
  intro q A p1 m h
  obtain ⟨hA, h0, hT, hT0, hq1, hq0⟩ := h
  refine l_changes_of g q A p1 m hA h0 hT hT0 hq1 hq0 (fun x2 m4 h4 e4 e14 => ?_)
  have nx : ∀ (H : Heap) (bs : List Int32) (b : Nat) (M : ch_M) (k : Nat), bs.length ≤ 60 → k ≤ 100 → (∀ (m : ch_M) (H1 : Heap), ch_Rp (ch_tw g H bs b) m H1 → ch_Rp g m H1) → (∀ a : ch_Ad, a.1 ≠ 9 → M a = m4 a) → ch_J (ch_tw g H bs b) m_l_changes (ch_rm m_l_changes) (ch_E g m_l_changes (ch_oi q)) 342 [some (.inr (0, 0, 0)), some (.inl (.int p1)), some (.inl (.int x2))] [.inr (12, (ch_tx g).length, 0), .inr (0, 0, 0)] M k := by
    intro H bs b M k hbl hk hback hfr
    have eo : ch_ob M 1 0 = ch_ob m4 1 0 := by
      funext c i
      show M (1, 0, c) i = m4 (1, 0, c) i
      rw [hfr (1, 0, c) (by decide : (1 : Nat) ≠ 9)]
    have e14' : ∀ k, k < 18 → M (14, 0, 1) k = m (14, 0, 1) k := fun k hk => by
      rw [hfr (14, 0, 1) (by decide : (14 : Nat) ≠ 9)]
      exact e14 k hk
    refine l_342 hk hback ?_ (a_S_9 h4 hfr) h0 hT hT0 (fun M2 h1 h2 => ?_) (fun M2 h1 h2 h3 => ?_)
    · show ((ch_tx g ++ [bs]).getD (ch_tx g).length []).length ≤ 60
      rw [show (ch_tx g ++ [bs]).getD (ch_tx g).length [] = bs by simp [List.getD_eq_getElem?_getD]]
      exact hbl
    · rw [eo] at h1
      exact hq1 M2 (a_S_upY h1 e4) (fun k hk => (h2 k).trans (e14' k hk))
    · rw [eo] at h2
      exact hq0 M2 h1 (y_sm_tr e4 h2) (fun k hk => (h3 k).trans (e14' k hk))
  refine ch_aload_n (i := 0) d_l_changes_273 rfl rfl ?_
  refine ch_iload_n (i := 1) d_l_changes_274 rfl rfl ?_
  refine ch_bipush (v := 6) d_l_changes_275 (by decide) ?_
  refine ch_ishr d_l_changes_277 ?_
  refine ch_iconst (v := 1) d_l_changes_278 (by decide) ?_
  refine ch_iand d_l_changes_279 ?_
  refine ch_if_ne (tgt := 317) d_l_changes_280 (by decide) (fun _ => ?_) (fun _ => ?_)
  · exact l_317 htx hxi nx
  · exact l_283 htx hxi nx
