theorem ch_cat12 (v : ch_V) : ch_cat v = 1 ∨ ch_cat v = 2 := by
  cases v with
  | inl v => exact lv_cat v
  | inr _ => exact Or.inl rfl
def ch_kill (ls : ch_LT) (i : Nat) : ch_LT := match i with
  | 0 => ls
  | i' + 1 => match ls[i']? with
    | some (some w) => if ch_cat w = 2 then ls.set i' none else ls
    | _ => ls
def ch_set (ls : ch_LT) (i : Nat) (v : ch_V) : ch_LT := (ch_kill ls i).set i (some v)
def ch_set2 (ls : ch_LT) (i : Nat) (v : ch_V) : ch_LT := ((ch_kill ls i).set i (some v)).set (i + 1) none
theorem ch_kill_at {ls : ch_LT} {i j : Nat} {w : ch_V} (h : (ch_kill ls i)[j]? = some (some w)) : ls[j]? = some (some w) ∧ (j + 1 = i → ch_cat w = 1) := by
  cases i with
  | zero => exact ⟨h, fun q => by omega⟩
  | succ i' =>
    unfold ch_kill at h
    dsimp only at h
    cases hx : ls[i']? with
    | none =>
      rw [hx] at h
      refine ⟨h, fun q => ?_⟩
      have : j = i' := by omega
      subst this
      rw [hx] at h; cases h
    | some o =>
      cases o with
      | none =>
        rw [hx] at h
        refine ⟨h, fun q => ?_⟩
        have : j = i' := by omega
        subst this
        rw [hx] at h; cases h
      | some u =>
        rw [hx] at h
        dsimp only at h
        by_cases hc : ch_cat u = 2
        · rw [if_pos hc] at h
          by_cases hj : i' = j
          · subst hj
            rw [List.getElem?_set_self (List.getElem?_eq_some_iff.mp hx).1] at h
            cases h
          · rw [List.getElem?_set_ne hj] at h
            exact ⟨h, fun q => absurd (by omega) hj⟩
        · rw [if_neg hc] at h
          refine ⟨h, fun q => ?_⟩
          have : j = i' := by omega
          subst this
          rw [hx] at h
          rw [← Option.some.inj (Option.some.inj h)]
          rcases ch_cat12 u with z | z
          · exact z
          · exact absurd z hc
def ch_prs (g : ch_G) (ls : ch_LT) : List (Nat × Value) := (List.range ls.length).filterMap (fun i => match ls[i]? with
  | some (some v) => some (i, ch_tr g v)
  | _ => none)
theorem ch_prs_mem {g : ch_G} {ls : ch_LT} {i : Nat} {v : ch_V} (h : ls[i]? = some (some v)) : (i, ch_tr g v) ∈ ch_prs g ls :=
  List.mem_filterMap.mpr ⟨i, List.mem_range.mpr (List.getElem?_eq_some_iff.mp h).1, by rw [h]⟩
theorem ch_prs_has {g : ch_G} {n : Nat} {ls : ch_LT} {lm : Array Slot} (h : ch_LR g n ls lm) : lv_has lm n (ch_prs g ls) := by
  refine ⟨h.1, h.2.1, fun q hq => ?_⟩
  obtain ⟨i, -, hi⟩ := List.mem_filterMap.mp hq
  cases hx : ls[i]? with
  | none => rw [hx] at hi; cases hi
  | some o =>
    cases o with
    | none => rw [hx] at hi; cases hi
    | some v =>
      rw [hx] at hi
      cases hi
      exact h.2.2 i v hx
theorem ch_LR_set {g : ch_G} {n : Nat} {ls : ch_LT} {lm : Array Slot} {i : Nat} {v : ch_V} (h : lv_has lm n ((i, ch_tr g v) :: (ch_prs g ls).filter (fun q => !(q.1 == i) && !(q.1 + 1 == i && q.2.category == 2)))) : ch_LR g n (ch_set ls i v) lm := by
  refine ⟨h.1, h.2.1, fun j w hj => ?_⟩
  unfold ch_set at hj
  by_cases e : i = j
  · subst e
    have hl := (List.getElem?_eq_some_iff.mp hj).1
    rw [List.length_set] at hl
    rw [List.getElem?_set_self hl] at hj
    cases hj
    exact h.2.2 _ List.mem_cons_self
  · rw [List.getElem?_set_ne e] at hj
    obtain ⟨h1, h2⟩ := ch_kill_at hj
    refine h.2.2 (j, ch_tr g w) (List.mem_cons_of_mem _ (List.mem_filter.mpr ⟨ch_prs_mem h1, ?_⟩))
    simp only [Bool.and_eq_true, Bool.not_eq_true', beq_eq_false_iff_ne, ne_eq, Bool.and_eq_false_iff]
    refine ⟨fun q => e q.symm, ?_⟩
    by_cases q : j + 1 = i
    · exact Or.inr (by rw [ch_cat_tr, h2 q]; decide)
    · exact Or.inl q
theorem ch_LR_set2 {g : ch_G} {n : Nat} {ls : ch_LT} {lm : Array Slot} {i : Nat} {v : ch_V} (h : lv_has lm n ((i, ch_tr g v) :: (ch_prs g ls).filter (fun q => !(q.1 == i) && (!(q.1 == i + 1) && !(q.1 + 1 == i && q.2.category == 2))))) : ch_LR g n (ch_set2 ls i v) lm := by
  refine ⟨h.1, h.2.1, fun j w hj => ?_⟩
  unfold ch_set2 at hj
  by_cases e1 : i + 1 = j
  · subst e1
    have hl := (List.getElem?_eq_some_iff.mp hj).1
    rw [List.length_set] at hl
    rw [List.getElem?_set_self hl] at hj
    cases hj
  rw [List.getElem?_set_ne e1] at hj
  by_cases e : i = j
  · subst e
    have hl := (List.getElem?_eq_some_iff.mp hj).1
    rw [List.length_set] at hl
    rw [List.getElem?_set_self hl] at hj
    cases hj
    exact h.2.2 _ List.mem_cons_self
  · rw [List.getElem?_set_ne e] at hj
    obtain ⟨h1, h2⟩ := ch_kill_at hj
    refine h.2.2 (j, ch_tr g w) (List.mem_cons_of_mem _ (List.mem_filter.mpr ⟨ch_prs_mem h1, ?_⟩))
    simp only [Bool.and_eq_true, Bool.not_eq_true', beq_eq_false_iff_ne, ne_eq, Bool.and_eq_false_iff]
    refine ⟨fun q => e q.symm, fun q => e1 q.symm, ?_⟩
    by_cases q : j + 1 = i
    · exact Or.inr (by rw [ch_cat_tr, h2 q]; decide)
    · exact Or.inl q
theorem ch_kill_ok {g : ch_G} {ls : ch_LT} {i : Nat} (h : ∀ o ∈ ls, ∀ v, o = some v → ch_ok g v) : ∀ o ∈ ch_kill ls i, ∀ v, o = some v → ch_ok g v := by
  intro o ho v hv
  subst hv
  obtain ⟨j, hj⟩ := List.getElem?_of_mem ho
  exact h _ (List.mem_of_getElem? (ch_kill_at hj).1) v rfl
theorem ch_set_ok {g : ch_G} {ls : ch_LT} {i : Nat} {u : ch_V} (h : ∀ o ∈ ls, ∀ v, o = some v → ch_ok g v) (hu : ch_ok g u) : ∀ o ∈ ch_set ls i u, ∀ v, o = some v → ch_ok g v := by
  intro o ho v hv
  rcases List.mem_or_eq_of_mem_set ho with h1 | h1
  · exact ch_kill_ok h o h1 v hv
  · rw [h1] at hv
    cases hv
    exact hu
theorem ch_set2_ok {g : ch_G} {ls : ch_LT} {i : Nat} {u : ch_V} (h : ∀ o ∈ ls, ∀ v, o = some v → ch_ok g v) (hu : ch_ok g u) : ∀ o ∈ ch_set2 ls i u, ∀ v, o = some v → ch_ok g v := by
  intro o ho v hv
  rcases List.mem_or_eq_of_mem_set ho with h1 | h1
  · exact ch_set_ok h hu o h1 v hv
  · rw [h1] at hv
    cases hv
section CHS
variable {g : ch_G} {f : ch_MI} {R : Room} {E : ch_En} {pc : Nat} {ls ls' : ch_LT} {rest : List ch_V} {mem : ch_M} {k : Nat}
theorem ch_istore_n {i : Nat} {n : Fin 4} {x : Int32} (hd : decode (ch_bc f) pc = .ok (.istore_n n, 1)) (hi : (n : Nat) = i) (hn : i < ch_ml f) (hl : ch_set ls i (.inl (.int x)) = ls') (kk : ch_J g f R E (pc + 1) ls' rest mem k) : ch_J g f R E pc ls (.inl (.int x) :: rest) mem k := by
  subst hl
  exact fun p e s m args below meth c H locs lm hF hR hS ho hs hL => lv_istore_n hF.1 hF.2.1 hd hi (ch_prs_has hL) hn rfl (fun lm' hL' => kk p e s m args below meth c H locs lm' hF hR hS (ch_set_ok ho ch_okl) (ch_ok0 hs) (ch_LR_set hL'))
theorem ch_istore {i : Nat} {x : Int32} (hd : decode (ch_bc f) pc = .ok (.istore i, 2)) (hn : i < ch_ml f) (hl : ch_set ls i (.inl (.int x)) = ls') (kk : ch_J g f R E (pc + 2) ls' rest mem k) : ch_J g f R E pc ls (.inl (.int x) :: rest) mem k := by
  subst hl
  exact fun p e s m args below meth c H locs lm hF hR hS ho hs hL => lv_istore hF.1 hF.2.1 hd (ch_prs_has hL) hn rfl (fun lm' hL' => kk p e s m args below meth c H locs lm' hF hR hS (ch_set_ok ho ch_okl) (ch_ok0 hs) (ch_LR_set hL'))
theorem ch_astore_n {i : Nat} {n : Fin 4} {a : ch_Ad} (hd : decode (ch_bc f) pc = .ok (.astore_n n, 1)) (hi : (n : Nat) = i) (hn : i < ch_ml f) (hl : ch_set ls i (.inr a) = ls') (kk : ch_J g f R E (pc + 1) ls' rest mem k) : ch_J g f R E pc ls (.inr a :: rest) mem k := by
  subst hl
  exact fun p e s m args below meth c H locs lm hF hR hS ho hs hL => lv_astore_n hF.1 hF.2.1 hd hi (ch_prs_has hL) hn rfl (fun lm' hL' => kk p e s m args below meth c H locs lm' hF hR hS (ch_set_ok ho (ch_okh hs)) (ch_ok0 hs) (ch_LR_set hL'))
theorem ch_astore {i : Nat} {a : ch_Ad} (hd : decode (ch_bc f) pc = .ok (.astore i, 2)) (hn : i < ch_ml f) (hl : ch_set ls i (.inr a) = ls') (kk : ch_J g f R E (pc + 2) ls' rest mem k) : ch_J g f R E pc ls (.inr a :: rest) mem k := by
  subst hl
  exact fun p e s m args below meth c H locs lm hF hR hS ho hs hL => lv_astore hF.1 hF.2.1 hd (ch_prs_has hL) hn rfl (fun lm' hL' => kk p e s m args below meth c H locs lm' hF hR hS (ch_set_ok ho (ch_okh hs)) (ch_ok0 hs) (ch_LR_set hL'))
theorem ch_lstore {i : Nat} {x : Int64} (hd : decode (ch_bc f) pc = .ok (.lstore i, 2)) (hn : i + 1 < ch_ml f) (hl : ch_set2 ls i (.inl (.long x)) = ls') (kk : ch_J g f R E (pc + 2) ls' rest mem k) : ch_J g f R E pc ls (.inl (.long x) :: rest) mem k := by
  subst hl
  exact fun p e s m args below meth c H locs lm hF hR hS ho hs hL => lv_lstore hF.1 hF.2.1 hd (ch_prs_has hL) hn rfl (fun lm' hL' => kk p e s m args below meth c H locs lm' hF hR hS (ch_set2_ok ho ch_okl) (ch_ok0 hs) (ch_LR_set2 hL'))
theorem ch_lstore_n {i : Nat} {n : Fin 4} {x : Int64} (hd : decode (ch_bc f) pc = .ok (.lstore_n n, 1)) (hi : (n : Nat) = i) (hn : i + 1 < ch_ml f) (hl : ch_set2 ls i (.inl (.long x)) = ls') (kk : ch_J g f R E (pc + 1) ls' rest mem k) : ch_J g f R E pc ls (.inl (.long x) :: rest) mem k := by
  subst hl
  exact fun p e s m args below meth c H locs lm hF hR hS ho hs hL => lv_lstore_n hF.1 hF.2.1 hd hi (ch_prs_has hL) hn rfl (fun lm' hL' => kk p e s m args below meth c H locs lm' hF hR hS (ch_set2_ok ho ch_okl) (ch_ok0 hs) (ch_LR_set2 hL'))
theorem ch_dstore {i : Nat} {x : UInt64} (hd : decode (ch_bc f) pc = .ok (.dstore i, 2)) (hn : i + 1 < ch_ml f) (hl : ch_set2 ls i (.inl (.double x)) = ls') (kk : ch_J g f R E (pc + 2) ls' rest mem k) : ch_J g f R E pc ls (.inl (.double x) :: rest) mem k := by
  subst hl
  exact fun p e s m args below meth c H locs lm hF hR hS ho hs hL => lv_dstore hF.1 hF.2.1 hd (ch_prs_has hL) hn rfl (fun lm' hL' => kk p e s m args below meth c H locs lm' hF hR hS (ch_set2_ok ho ch_okl) (ch_ok0 hs) (ch_LR_set2 hL'))
theorem ch_iinc {i : Nat} {n : Int} {x v : Int32} (hd : decode (ch_bc f) pc = .ok (.iinc i n, 3)) (hx : ls[i]? = some (some (.inl (.int x)))) (hv : x + Int32.ofInt n = v) (hn : i < ch_ml f) (hl : ch_set ls i (.inl (.int v)) = ls') (kk : ch_J g f R E (pc + 3) ls' rest mem k) : ch_J g f R E pc ls rest mem k := by
  subst hl
  intro p e s m args below meth c H locs lm hF hR hS ho hs hL
  obtain ⟨q, hq⟩ := List.getElem?_of_mem (ch_prs_mem (g := g) hx)
  exact lv_iinc hF.1 hF.2.1 hd (ch_prs_has hL) hq hv hn rfl (fun lm' hL' => kk p e s m args below meth c H locs lm' hF hR hS (ch_set_ok ho ch_okl) hs (ch_LR_set (v := .inl (.int v)) hL'))
end CHS
def ch_all : List ch_Ad := [(0, 0, 0), (1, 0, 0), (1, 0, 1), (1, 0, 2), (1, 0, 3), (1, 0, 4), (1, 0, 5), (1, 0, 6), (1, 0, 7), (1, 0, 8), (1, 1, 0), (1, 1, 1), (1, 1, 2), (1, 1, 3), (1, 1, 4), (1, 1, 5), (1, 1, 6), (1, 1, 7), (1, 1, 8), (1, 2, 0), (1, 2, 1), (1, 2, 2), (1, 2, 3), (1, 2, 4), (1, 2, 5), (1, 2, 6), (1, 2, 7), (1, 2, 8), (1, 3, 0), (1, 3, 1), (1, 3, 2), (1, 3, 3), (1, 3, 4), (1, 3, 5), (1, 3, 6), (1, 3, 7), (1, 3, 8), (2, 0, 0), (2, 0, 1), (1, 4, 0), (1, 4, 1), (1, 4, 2), (1, 4, 3), (1, 4, 4), (1, 4, 5), (1, 4, 6), (1, 4, 7), (1, 4, 8), (1, 5, 0), (1, 5, 1), (1, 5, 2), (1, 5, 3), (1, 5, 4), (1, 5, 5), (1, 5, 6), (1, 5, 7), (1, 5, 8), (1, 6, 0), (1, 6, 1), (1, 6, 2), (1, 6, 3), (1, 6, 4), (1, 6, 5), (1, 6, 6), (1, 6, 7), (1, 6, 8), (1, 7, 0), (1, 7, 1), (1, 7, 2), (1, 7, 3), (1, 7, 4), (1, 7, 5), (1, 7, 6), (1, 7, 7), (1, 7, 8), (1, 8, 0), (1, 8, 1), (1, 8, 2), (1, 8, 3), (1, 8, 4), (1, 8, 5), (1, 8, 6), (1, 8, 7), (1, 8, 8), (1, 9, 0), (1, 9, 1), (1, 9, 2), (1, 9, 3), (1, 9, 4), (1, 9, 5), (1, 9, 6), (1, 9, 7), (1, 9, 8), (1, 10, 0), (1, 10, 1), (1, 10, 2), (1, 10, 3), (1, 10, 4), (1, 10, 5), (1, 10, 6), (1, 10, 7), (1, 10, 8), (1, 11, 0), (1, 11, 1), (1, 11, 2), (1, 11, 3), (1, 11, 4), (1, 11, 5), (1, 11, 6), (1, 11, 7), (1, 11, 8), (3, 0, 0), (4, 0, 0), (5, 0, 0), (5, 0, 1), (6, 0, 0), (6, 0, 1), (7, 0, 0), (6, 1, 0), (6, 1, 1), (8, 0, 0), (8, 0, 1), (8, 0, 2), (8, 0, 3), (5, 1, 0), (5, 1, 1)]
theorem ch_all_chk : ((List.range 9).all fun ci => (List.range 12).all fun j => (List.range 12).all fun c => !(decide (j < ch_cnt ci ∧ c < ch_wid ci)) || decide (ch_all[ch_off ci j + c]? = some (ci, j, c))) = true := by decide +kernel
theorem ch_all_ok : ∀ ci, ci < 9 → ∀ j, j < 12 → ∀ c, c < 12 → (j < ch_cnt ci ∧ c < ch_wid ci) → ch_all[ch_off ci j + c]? = some (ci, j, c) := by
  intro ci h1 j h2 c h3 h4
  have h := List.all_eq_true.mp (List.all_eq_true.mp (List.all_eq_true.mp ch_all_chk ci (List.mem_range.mpr h1)) j (List.mem_range.mpr h2)) c (List.mem_range.mpr h3)
  simp only [Bool.or_eq_true, Bool.not_eq_true', decide_eq_false_iff_not, decide_eq_true_eq] at h
  exact h.elim (fun q => absurd h4 q) id
theorem ch_cnt_le (ci : Nat) : ch_cnt ci ≤ 12 := by unfold ch_cnt; split <;> omega
theorem ch_wid_le (ci : Nat) : ch_wid ci ≤ 12 := by unfold ch_wid; split <;> omega
theorem ch_in_all {a : ch_Ad} (h : ch_in a) : ch_all[ch_off a.1 a.2.1 + a.2.2]? = some a := by
  obtain ⟨ci, j, c⟩ := a
  obtain ⟨h1, h2, h3⟩ := h
  have e1 := ch_cnt_le ci
  have e2 := ch_wid_le ci
  exact ch_all_ok ci (by dsimp only at h1; omega) j (by dsimp only at h2; omega) c (by dsimp only at h3; omega) ⟨h2, h3⟩
theorem ch_in_lt {a : ch_Ad} (h : ch_in a) : ch_off a.1 a.2.1 + a.2.2 < 126 := by
  have h1 := (List.getElem?_eq_some_iff.mp (ch_in_all h)).1
  exact h1
theorem ch_adr_in {g : ch_G} {a : ch_Ad} (h : ch_in a) : ch_adr g a = ch_base g + (ch_off a.1 a.2.1 + a.2.2) := by
  unfold ch_adr
  rw [if_pos h.1]
theorem ch_adr_injm {g : ch_G} {a b : ch_Ad} (ha : ch_in a) (hb : ch_in b) (h : ch_adr g a = ch_adr g b) : a = b := by
  rw [ch_adr_in ha, ch_adr_in hb] at h
  have h1 := ch_in_all ha
  have h2 := ch_in_all hb
  rw [show ch_off a.1 a.2.1 + a.2.2 = ch_off b.1 b.2.1 + b.2.2 by omega] at h1
  exact Option.some.inj (h1.symm.trans h2)
theorem ch_ev_eq {g : ch_G} {mem mem' : ch_M} {a : ch_Ad} (h : mem' a = mem a) (t k : Nat) : ch_ev g mem' a t k = ch_ev g mem a t k := by
  unfold ch_ev
  rw [h]
theorem ch_cell_eq {g : ch_G} {mem mem' : ch_M} {a : ch_Ad} {H H' : Heap} (h : mem' a = mem a) (hq : H'[ch_adr g a]? = H[ch_adr g a]?) (hc : ch_cell g mem a H) : ch_cell g mem' a H' := by
  obtain ⟨ci, j, c⟩ := a
  cases c with
  | zero =>
    obtain ⟨r, h1, h2⟩ := hc
    refine ⟨r, h1, (h2.kept hq).to (fun k _ => ?_)⟩
    unfold ch_gv
    cases ch_rf ci k j with
    | none => dsimp only; rw [h]
    | some a => rfl
  | succ c =>
    show H'[_]? = _
    rw [hq]
    have e : (fun k => ch_ev g mem' (ci, j, c + 1) (ch_ak ci (c + 1)).1 k) = (fun k => ch_ev g mem (ci, j, c + 1) (ch_ak ci (c + 1)).1 k) := funext fun k => ch_ev_eq h _ _
    rw [e]
    exact hc
theorem ch_cell_lt {g : ch_G} {mem : ch_M} {a : ch_Ad} {H : Heap} (hc : ch_cell g mem a H) : ch_adr g a < H.size := by
  obtain ⟨ci, j, c⟩ := a
  cases c with
  | zero =>
    obtain ⟨r, -, cell, h, -⟩ := hc
    exact (Array.getElem?_eq_some_iff.mp h).1
  | succ c => exact (Array.getElem?_eq_some_iff.mp hc).1
theorem ch_adr_A {g : ch_G} {mem : ch_M} {H : Heap} {a : ch_Ad} (hR : ch_Rp g mem H) (h : ch_inx g a) : ch_A g (ch_adr g a) := hR.2.2.2.2.1 a h
/-- one cell has changed -/
theorem ch_Rp_upd {g : ch_G} {mem mem' : ch_M} {a : ch_Ad} {H H' : Heap} (hR : ch_Rp g mem H) (ha : ch_inx g a) (hz : H'.size = H.size) (ho : ∀ q, q ≠ ch_adr g a → H'[q]? = H[q]?) (hc : ch_cell g mem' a H') (hm : ∀ b, b ≠ a → mem' b = mem b) : ch_Rp g mem' H' := by
  refine ⟨by rw [hz]; exact hR.1, fun q hq => ?_, fun b hb => ?_, hR.2.2.2⟩
  · rw [ho q (fun e => hq.2 a ha e.symm)]
    exact hR.2.1 q hq
  · by_cases e : b = a
    · rw [e]; exact hc
    · exact ch_cell_eq (hm b e) (ho _ (fun q => e (hR.2.2.2.1 b a hb ha q))) (hR.2.2.1 b hb)
def ch_wr (mem : ch_M) (a : ch_Ad) (k : Nat) (x : Int32) : ch_M := fun b i => if b = a ∧ i = k then x else mem b i
theorem ch_wr_ne {mem : ch_M} {a b : ch_Ad} {k : Nat} {x : Int32} (h : b ≠ a) : ch_wr mem a k x b = mem b := by
  funext i
  unfold ch_wr
  rw [if_neg (fun q => h q.1)]
theorem ch_wr_at {mem : ch_M} {a : ch_Ad} {k : Nat} {x : Int32} (i : Nat) : ch_wr mem a k x a i = if i = k then x else mem a i := by
  unfold ch_wr
  by_cases e : i = k
  · rw [if_pos ⟨rfl, e⟩, if_pos e]
  · rw [if_neg (fun q => e q.2), if_neg e]
