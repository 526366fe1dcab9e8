/-- a field's entry of the class own: field k of class ci -/
def ch_FL (own : String) (idx ci k : Nat) : Prop := ∃ (C : String) (T : u_T) (N : Nat), ch_Cl ci C T N ∧ k < N ∧ (Cond.fieldLink own idx (T k).1 (T k).2.1 (T k).2.2.1 ∈ ch_good ∨ ∃ host, Cond.fieldLinkNest own idx (T k).1 (T k).2.1 (T k).2.2.1 host ∈ ch_oth)
/-- .. one that may be written with an int -/
def ch_FP (own : String) (idx ci k : Nat) (ty : FieldType) : Prop := ∃ (C : String) (T : u_T) (N : Nat), ch_Cl ci C T N ∧ k < N ∧ (Cond.fieldLink own idx (T k).1 (T k).2.1 (T k).2.2.1 ∈ ch_good ∨ ∃ host, Cond.fieldLinkNest own idx (T k).1 (T k).2.1 (T k).2.2.1 host ∈ ch_oth) ∧ (T k).2.2.2 = false ∧ parseFieldDescriptor (T k).2.2.1 = some ty
theorem ch_oth_on {w : Cond} (h : w ∈ ch_oth) : w.onTables = true := by
  have h1 : ch_isO w = true := (List.mem_filter.mp h).2
  cases w with
  | fieldLinkNest => rfl
  | methodLinkNest => rfl
  | castable => rfl
  | declares => rfl
  | privateMethod => rfl
  | _ => cases h1
theorem ch_Cl_lt {ci N : Nat} {C : String} {T : u_T} (h : ch_Cl ci C T N) : ci < 11 := (List.getElem?_eq_some_iff.mp h.1).1
theorem ch_rf_inm {ci k j : Nat} {a : ch_Ad} (h : ch_in (ci, j, 0)) (hr : ch_rf ci k j = some a) : ch_in a := by
  obtain ⟨h1, h2, h3⟩ := h
  dsimp only at h1 h2
  unfold ch_rf at hr
  split at hr
  · split at hr
    all_goals first | (cases hr; exact ⟨by decide, by decide, by decide⟩) | cases hr
  · split at hr
    · cases hr
      exact ⟨by show 1 ≤ 8; decide, h2, by show k + 1 < 9; omega⟩
    · cases hr
  · split at hr
    · cases hr
      exact ⟨by show 2 ≤ 8; decide, h2, by show 1 < 2; decide⟩
    · cases hr
  · split at hr
    · cases hr
      exact ⟨by decide, by decide, by decide⟩
    · cases hr
  · split at hr
    · cases hr
      exact ⟨by show 5 ≤ 8; decide, h2, by show 1 < 2; decide⟩
    · cases hr
  · split at hr
    · cases hr
      exact ⟨by show 6 ≤ 8; decide, h2, by show 1 < 2; decide⟩
    · cases hr
  · split at hr
    · cases hr
      exact ⟨by show 8 ≤ 8; decide, h2, by show k + 1 < 4; omega⟩
    · cases hr
  · exact absurd h1 (by decide)
  · cases hr
theorem ch_rf_in {g : ch_G} {ci k j : Nat} {a : ch_Ad} (hw : ch_gw g) (h : ch_inx g (ci, j, 0)) (hr : ch_rf ci k j = some a) : ch_inx g a := by
  rcases h with h | h
  · exact Or.inl (ch_rf_inm h hr)
  · rcases hw.2.2.2 _ h with e | e
    · have e : ci = 9 := e
      subst e
      have hr : (if k = 0 then some (9, j, 1) else none) = some a := hr
      by_cases hk : k = 0
      · rw [if_pos hk] at hr
        cases hr
        exact Or.inr (hw.2.2.1 j h)
      · rw [if_neg hk] at hr
        cases hr
    · have e : ci = 14 := e
      subst e
      cases hr
theorem ch_ok_in {g : ch_G} {a : ch_Ad} (h : ch_ok g (.inr a)) (h1 : a.1 ≤ 10 ∨ a.1 = 14) : ch_inx g a := by
  rcases h a rfl with h | h | ⟨i, -, h | h⟩ | ⟨i, -, h⟩
  · exact h
  · rw [h] at h1; exact absurd h1 (by decide)
  · rw [h] at h1; exact absurd h1 (by simp)
  · rw [h] at h1; exact absurd h1 (by simp)
  · rw [h] at h1; exact absurd h1 (by simp)
theorem ch_fl_pad (f : Nat → Value) (N k : Nat) (h : k < N) : ((List.range N).map f)[k]? = some (f k) := by
  rw [List.getElem?_map, List.getElem?_range h]
  rfl
section CHH
variable {g : ch_G} {f : ch_MI} {R : Room} {E : ch_En} {pc : Nat} {ls : ch_LT} {rest : List ch_V} {mem : ch_M} {kc : Nat}
theorem ch_get {idx ci j k : Nat} {v : ch_V} (hd : decode (ch_bc f) pc = .ok (.getfield idx, 3)) (hl : ch_FL (ch_nm f).cls idx ci k) (hv : ch_gv mem ci j k = v) (kk : ch_J g f R E (pc + 3) ls (v :: rest) mem kc) : ch_J g f R E pc ls (.inr (ci, j, 0) :: rest) mem kc := by
  subst hv
  refine ch_go (fun p e s m args below meth c H locs lm Q hF hR hS ho hs hL q => ?_) kk
  obtain ⟨C, T, N, hcl, hk, hlink⟩ := hl
  have hci := ch_Cl_lt hcl
  have hin : ch_inx g (ci, j, 0) := ch_ok_in (ch_okh hs) (Or.inl (by show ci ≤ 10; omega))
  obtain ⟨r, hr, hob⟩ := hR.2.2.1 _ hin
  have hr' : r = (C, T, N) := Option.some.inj (hr.symm.trans hcl.1)
  subst hr'
  have hP : va_P (ch_dC g, ch_dI g) ch_cls [(ch_adr g (ci, j, 0), .inr (ci, (List.range N).map (fun k => ch_tr g (ch_gv mem ci j k))))] H := by
    intro i x hx
    have hi : i < 1 := (List.getElem?_eq_some_iff.mp hx).1
    have : i = 0 := by omega
    subst this
    cases hx
    exact ⟨_, hr, hob.to (fun i hi => by simp only [vp_V, List.getD_eq_getElem?_getD]; rw [ch_fl_pad _ _ _ hi]; rfl)⟩
  have hok : ch_ok g (ch_gv mem ci j k) := by
    intro a ha
    unfold ch_gv at ha
    cases hrf : ch_rf ci k j with
    | none => rw [hrf] at ha; cases ha
    | some b =>
      rw [hrf] at ha
      cases ha
      exact Or.inl (ch_rf_in hR.2.2.2 hin hrf)
  have q' := q (ch_ok2 hok (ch_ok0 hs))
  rcases hlink with h | ⟨host, h⟩
  · exact va_get (D := (ch_dC g, ch_dI g)) hF.1 hF.2.1 hF.2.2.2.2.2.1 hcl.2.1 hF.2.2.2.2.1 hF.2.2.2.2.2.2.1.1 hP 0 rfl hcl.1 k hk (hF.2.2.2.2.2.1 _ h) (fun x hx => hx) (ch_fl_pad _ _ _ hk) hd q'
  · exact va_getN (D := (ch_dC g, ch_dI g)) (host := host) hF.1 hF.2.1 hF.2.2.2.2.2.1 hcl.2.1 hF.2.2.2.2.1 hF.2.2.2.2.2.2.1.1 hP 0 rfl hcl.1 k hk (va_Nw.use (ch_oth_on h) (hF.2.2.2.2.2.2.1.2.1 _ h)) (fun x hx => hx) (ch_fl_pad _ _ _ hk) hd q'
theorem ch_put {idx ci j k : Nat} {x : Int32} {ty : FieldType} (hd : decode (ch_bc f) pc = .ok (.putfield idx, 3)) (hl : ch_FP (ch_nm f).cls idx ci k ty) (hrf : ch_rf ci k j = none) (hn : narrow ty (.int x) = .int x) (hfit : fits ty (.int x) = true) (kk : ch_J g f R E (pc + 3) ls rest (ch_wr mem (ci, j, 0) k x) kc) : ch_J g f R E pc ls (.inl (.int x) :: .inr (ci, j, 0) :: rest) mem kc := by
  intro p e s m args below meth c H locs lm hF hR hS ho hs hL
  obtain ⟨C, T, N, hcl, hk, hlink, hfin, hty⟩ := hl
  have hci := ch_Cl_lt hcl
  have hin : ch_inx g (ci, j, 0) := ch_ok_in (ch_okh (ch_ok0 hs)) (Or.inl (by show ci ≤ 10; omega))
  obtain ⟨r, hr, hob⟩ := hR.2.2.1 _ hin
  have hr' : r = (C, T, N) := Option.some.inj (hr.symm.trans hcl.1)
  subst hr'
  obtain ⟨ty0, hty0⟩ := hcl.2.2.1
  have hK := hF.2.2.2.2.2.2.1.1
  have hap := va_apart (D := (ch_dC g, ch_dI g)) (own := (ch_nm f).cls) hF.2.2.2.2.2.1 hcl.2.1 ty0 hty0 hcl.2.2.2 hK hcl.1
  obtain ⟨cell, q1, q2, q3, q4⟩ := hob
  obtain ⟨hSl, hfc, kC, hkC, hkind⟩ := hK.1 ci _ hcl.1
  obtain ⟨cf, kf, fi, fd, hi, hsl⟩ := hSl k hk
  have hlay := hF.2.2.2.2.2.1 _ (hcl.2.1 _ (u_in_lay hk))
  unfold u_lay at hlay
  rw [if_neg (by rw [hfin]; decide)] at hlay
  have hst := (u_facts hfc hkC (u_lays hF.2.2.2.2.2.1 hcl.2.1 hk) hi).1
  have h6 := u_store hfc hkC hkind hlay hi hty hn hfit
  have hi' : s.fieldFound? (T k).1 (T k).2.1 (T k).2.2.1 = some (cf, kf, fi, fd) := hi
  have fin : ∀ H' : Heap, H'[ch_adr g (ci, j, 0)]? = some (cell.setSlot fd.slot (.int x)) → H'.size = H.size → (∀ q, q ≠ ch_adr g (ci, j, 0) → H'[q]? = H[q]?) → W p (ch_l g) e R s m args below meth c H' (locs ++ [⟨ch_adr g (ci, j, 0), fd.slot⟩]) kc (6 * kc) (E s args below) (F0 m (pc + 3) lm (rest.map (ch_tr g))) := by
    intro H' e1 e2 e3
    refine kk p e s m args below meth c H' _ lm hF (ch_Rp_upd hR hin e2 e3 ?_ (fun b hb => ch_wr_ne hb)) (hS.put e2 e3 (ch_adr_A hR hin)) ho (ch_ok0 (ch_ok0 hs)) hL
    refine ⟨_, hr, t_OB.to (V := updV (fun k => ch_tr g (ch_gv mem ci j k)) k (.int x)) ⟨_, e1, q2, q3, ?_⟩ (fun i _ => ?_)⟩
    · rw [hsl]
      exact t_set q4 hap hk _
    · by_cases e : i = k
      · subst e
        simp only [updV, if_true, ch_gv, hrf, ch_tr]
        rw [ch_wr_at, if_pos rfl]
      · simp only [updV, if_neg e, ch_gv]
        cases ch_rf ci i j with
        | none => simp only [ch_tr]; rw [ch_wr_at, if_neg e]
        | some b => rfl
  rcases hlink with h | ⟨host, h⟩
  · exact W.putK hF.1 hF.2.1 (f := fd) ⟨hF.2.2.2.2.1, hF.2.2.2.2.2.1 _ h, ⟨_, _, _, hi'⟩, hst⟩ (by rw [q2]; exact h6) q1 q3 (by rw [hsl]; exact k2_hasslot (q4 k hk)) rfl rfl hd fin
  · exact va_WputK hF.1 hF.2.1 (f := fd) hF.2.2.2.2.1 (va_Nw.use (ch_oth_on h) (hF.2.2.2.2.2.2.1.2.1 _ h)) hi' hst (by rw [q2]; exact h6) q1 q3 (by rw [hsl]; exact k2_hasslot (q4 k hk)) rfl rfl hd fin
theorem ch_arr {H : Heap} {ci j c : Nat} (hR : ch_Rp g mem H) (h : ch_ok g (.inr (ci, j, c + 1))) (hci : ci ≤ 10 ∨ ci = 14) : ch_inx g (ci, j, c + 1) ∧ H[ch_adr g (ci, j, c + 1)]? = some (arrV (ch_cA g (ch_ak ci (c + 1)).1) (ch_ak ci (c + 1)).2 (fun k => ch_ev g mem (ci, j, c + 1) (ch_ak ci (c + 1)).1 k)) :=
  ⟨ch_ok_in h hci, hR.2.2.1 _ (ch_ok_in h hci)⟩
end CHH
