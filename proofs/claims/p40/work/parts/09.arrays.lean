theorem ch_arrK {g : ch_G} {s : State} (hW : ch_WV g s) {t : Nat} (ht : t < 6) : ArrOfT s (ch_cA g t) (ch_ty t) := by
  have h := hW.1.2
  match t, ht with
  | 0, _ => exact (h 0 _ rfl).1
  | 1, _ => exact (h 1 _ rfl).1
  | 2, _ => exact (h 2 _ rfl).1
  | 3, _ => exact (h 3 _ rfl).1
  | 4, _ => exact (h 4 _ rfl).1
  | 5, _ => exact (h 5 _ rfl).1
theorem ch_nc_of (x : Int32) : narrow .char (.int x) = .int (vp_nar .char x) := by rw [vp_nar_char]; rfl
section CHA
variable {g : ch_G} {f : ch_MI} {R : Room} {E : ch_En} {pc : Nat} {ls : ch_LT} {rest : List ch_V} {mem : ch_M} {kc : Nat} {ci j c n : Nat} {x : Int32}
theorem ch_inv {x : Int32} {n : Nat} (h : vp_in x n) (cA : ClassId) (F : Nat → Value) : ¬ (x < 0 ∨ (arrV cA n F).slots.size ≤ x.toNatClampNeg) := by rw [arrV_size]; exact h
theorem ch_inr {x : Int32} {n : Nat} (h : vp_in x n) (cA : ClassId) (F : Nat → Value) : (arrV cA n F).slots[x.toNatClampNeg]? = some (F x.toNatClampNeg) := arrV_read _ _ (Nat.not_le.mp fun q => h (Or.inr q))
theorem ch_iald (hd : decode (ch_bc f) pc = .ok (.iaload, 1)) (hci : ci ≤ 10 ∨ ci = 14) (hk : ch_ak ci (c + 1) = (0, n)) (hx : vp_in x n) (kk : ch_J g f R E (pc + 1) ls (.inl (.int (mem (ci, j, c + 1) x.toNatClampNeg)) :: rest) mem kc) : ch_J g f R E pc ls (.inl (.int x) :: .inr (ci, j, c + 1) :: rest) mem kc := by
  refine ch_go (fun p e s m args below meth c H locs lm Q hF hR hS ho hs hL q => ?_) kk
  obtain ⟨hin, hc⟩ := ch_arr hR (ch_okh (ch_ok0 hs)) hci
  rw [hk] at hc
  exact W.iald hF.1 hF.2.1 hc (ch_arrK hF.2.2.2.2.2.2.1 (t := 0) (by decide) _ _) (fun q => by cases q) (ch_inv hx _ _) (ch_inr hx _ _) rfl rfl hd (q (ch_ok1 (ch_ok0 (ch_ok0 hs))))
theorem ch_cald (hd : decode (ch_bc f) pc = .ok (.caload, 1)) (hci : ci ≤ 10 ∨ ci = 14) (hk : ch_ak ci (c + 1) = (1, n)) (hx : vp_in x n) (kk : ch_J g f R E (pc + 1) ls (.inl (.int (mem (ci, j, c + 1) x.toNatClampNeg)) :: rest) mem kc) : ch_J g f R E pc ls (.inl (.int x) :: .inr (ci, j, c + 1) :: rest) mem kc := by
  refine ch_go (fun p e s m args below meth c H locs lm Q hF hR hS ho hs hL q => ?_) kk
  obtain ⟨hin, hc⟩ := ch_arr hR (ch_okh (ch_ok0 hs)) hci
  rw [hk] at hc
  exact W.cald hF.1 hF.2.1 hc (ch_arrK hF.2.2.2.2.2.2.1 (t := 1) (by decide) _ _) (fun q => by cases q) (ch_inv hx _ _) (ch_inr hx _ _) rfl rfl hd (q (ch_ok1 (ch_ok0 (ch_ok0 hs))))
theorem ch_lald (hd : decode (ch_bc f) pc = .ok (.laload, 1)) (hci : ci ≤ 10 ∨ ci = 14) (hk : ch_ak ci (c + 1) = (2, n)) (hx : vp_in x n) (kk : ch_J g f R E (pc + 1) ls (.inl (.long (ch_lw (mem (ci, j, c + 1) (2 * x.toNatClampNeg)) (mem (ci, j, c + 1) (2 * x.toNatClampNeg + 1)))) :: rest) mem kc) : ch_J g f R E pc ls (.inl (.int x) :: .inr (ci, j, c + 1) :: rest) mem kc := by
  refine ch_go (fun p e s m args below meth c H locs lm Q hF hR hS ho hs hL q => ?_) kk
  obtain ⟨hin, hc⟩ := ch_arr hR (ch_okh (ch_ok0 hs)) hci
  rw [hk] at hc
  exact W.lald hF.1 hF.2.1 hc (ch_arrK hF.2.2.2.2.2.2.1 (t := 2) (by decide) _ _) (fun q => by cases q) (ch_inv hx _ _) (ch_inr hx _ _) rfl rfl hd (q (ch_ok1 (ch_ok0 (ch_ok0 hs))))
/-- the ring's yards -/
theorem ch_aald (hd : decode (ch_bc f) pc = .ok (.aaload, 1)) (hx : vp_in x 8) (kk : ch_J g f R E (pc + 1) ls (.inr (1, 4 + x.toNatClampNeg, 0) :: rest) mem kc) : ch_J g f R E pc ls (.inl (.int x) :: .inr (2, 0, 1) :: rest) mem kc := by
  refine ch_go (fun p e s m args below meth c H locs lm Q hF hR hS ho hs hL q => ?_) kk
  obtain ⟨hin, hc⟩ := ch_arr (c := 0) hR (ch_okh (ch_ok0 hs)) (Or.inl (by decide))
  have hlt : x.toNatClampNeg < 8 := Nat.not_le.mp fun q => hx (Or.inr q)
  have hok : ch_ok g (.inr (1, 4 + x.toNatClampNeg, 0)) := by
    intro a ha
    cases ha
    exact Or.inl (Or.inl ⟨by show 1 ≤ 8; decide, by show 4 + x.toNatClampNeg < 12; omega, by show 0 < 9; decide⟩)
  exact W.aald (ty := .object "ChalkWarrants$Yard") hF.1 hF.2.1 hc (ch_arrK hF.2.2.2.2.2.2.1 (t := 4) (by decide) _ _) rfl (fun q => by cases q) (ch_inv hx _ _) (ch_inr hx _ _) rfl rfl hd (q (ch_ok2 hok (ch_ok0 (ch_ok0 hs))))
theorem ch_alen {t : Nat} {v : Int32} (hd : decode (ch_bc f) pc = .ok (.arraylength, 1)) (hci : ci ≤ 10 ∨ ci = 14) (ht : t < 6) (hk : ch_ak ci (c + 1) = (t, n)) (hv : Int32.ofNat n = v) (kk : ch_J g f R E (pc + 1) ls (.inl (.int v) :: rest) mem kc) : ch_J g f R E pc ls (.inr (ci, j, c + 1) :: rest) mem kc := by
  refine ch_go (fun p e s m args below meth c H locs lm Q hF hR hS ho hs hL q => ?_) kk
  obtain ⟨hin, hc⟩ := ch_arr hR (ch_okh hs) hci
  rw [hk] at hc
  exact W.alen (n := v) hF.1 hF.2.1 hc (ch_arrK hF.2.2.2.2.2.2.1 ht _ _) (by rw [arrV_size]; exact hv) rfl rfl hd (q (ch_ok1 (ch_ok0 hs)))
theorem ch_slen (hd : decode (ch_bc f) pc = .ok (.arraylength, 1)) (kk : ch_J g f R E (pc + 1) ls (.inl (.int (Int32.ofNat (ch_scr g).2.1)) :: rest) mem kc) : ch_J g f R E pc ls (.inr (11, 0, 0) :: rest) mem kc := by
  refine ch_go (fun p e s m args below meth c H locs lm Q hF hR hS ho hs hL q => ?_) kk
  obtain ⟨scr, h1, h2, h3, h4, h5⟩ := hF.2.2.2.2.2.2.1.2.2.2.2.2.1
  have hb := hF.2.2.2.2.2.2.1.2.2.2.2.2.2.1
  exact W.alen (n := Int32.ofNat (ch_scr g).2.1) hF.1 hF.2.1 (show H[ch_adr g (11, 0, 0)]? = some scr by rw [show ch_adr g (11, 0, 0) = (ch_scr g).1 from rfl, hR.2.1 _ hb]; exact h1) h2 (by rw [h4] <;> rfl) rfl rfl hd (q (ch_ok1 (ch_ok0 hs)))
theorem ch_sld (hd : decode (ch_bc f) pc = .ok (.iaload, 1)) (hx : vp_in x (ch_scr g).2.1) (kk : ch_J g f R E (pc + 1) ls (.inl (.int ((ch_scr g).2.2 x.toNatClampNeg)) :: rest) mem kc) : ch_J g f R E pc ls (.inl (.int x) :: .inr (11, 0, 0) :: rest) mem kc := by
  refine ch_go (fun p e s m args below meth c H locs lm Q hF hR hS ho hs hL q => ?_) kk
  obtain ⟨scr, h1, h2, h3, h4, h5⟩ := hF.2.2.2.2.2.2.1.2.2.2.2.2.1
  have hb := hF.2.2.2.2.2.2.1.2.2.2.2.2.2.1
  exact W.iald (v := .int ((ch_scr g).2.2 x.toNatClampNeg)) hF.1 hF.2.1 (show H[ch_adr g (11, 0, 0)]? = some scr by rw [show ch_adr g (11, 0, 0) = (ch_scr g).1 from rfl, hR.2.1 _ hb]; exact h1) h2 h3 (by rw [h4]; exact hx) (h5 _ (Nat.not_le.mp fun q => hx (Or.inr q))) rfl rfl hd (q (ch_ok1 (ch_ok0 (ch_ok0 hs))))
/-- behind a store into an array -/
theorem ch_st {p : Program} {e : Env} {s : State} {m : MethodId} {args : Array Value} {below : List Frame} {meth : Method} {cc : Code} {H H' : Heap} {locs : List Loc} {lm : Array Slot} {mem' : ch_M} {i : Nat} {v : Value}
    (hF : ch_FR g f p s m args meth cc) (hR : ch_Rp g mem H) (hS : va_S (ch_A g) s.heap H locs) (ho : ∀ o ∈ ls, ∀ v, o = some v → ch_ok g v) (hs : ∀ v ∈ rest, ch_ok g v) (hL : ch_LR g (ch_ml f) ls lm) (hin : ch_inx g (ci, j, c + 1))
    (e1 : H'[ch_adr g (ci, j, c + 1)]? = some ((arrV (ch_cA g (ch_ak ci (c + 1)).1) (ch_ak ci (c + 1)).2 (fun k => ch_ev g mem (ci, j, c + 1) (ch_ak ci (c + 1)).1 k)).setSlot i v)) (e2 : H'.size = H.size) (e3 : ∀ q, q ≠ ch_adr g (ci, j, c + 1) → H'[q]? = H[q]?)
    (hm : ∀ b, b ≠ (ci, j, c + 1) → mem' b = mem b) (hv : ∀ k, updV (fun k => ch_ev g mem (ci, j, c + 1) (ch_ak ci (c + 1)).1 k) i v k = ch_ev g mem' (ci, j, c + 1) (ch_ak ci (c + 1)).1 k)
    (kk : ch_J g f R E pc ls rest mem' kc) : W p (ch_l g) e R s m args below meth cc H' (locs ++ [⟨ch_adr g (ci, j, c + 1), i⟩]) kc (6 * kc) (E s args below) (F0 m pc lm (rest.map (ch_tr g))) := by
  refine kk p e s m args below meth cc H' _ lm hF (ch_Rp_upd hR hin e2 e3 ?_ hm) (hS.put e2 e3 (ch_adr_A hR hin)) ho hs hL
  show H'[_]? = _
  rw [e1, arrV_store]
  congr 2
  exact funext hv
theorem ch_iast {y : Int32} (hd : decode (ch_bc f) pc = .ok (.iastore, 1)) (hci : ci ≤ 10 ∨ ci = 14) (hk : ch_ak ci (c + 1) = (0, n)) (hx : vp_in x n) (kk : ch_J g f R E (pc + 1) ls rest (ch_wr mem (ci, j, c + 1) x.toNatClampNeg y) kc) : ch_J g f R E pc ls (.inl (.int y) :: .inl (.int x) :: .inr (ci, j, c + 1) :: rest) mem kc := by
  intro p e s m args below meth cc H locs lm hF hR hS ho hs hL
  obtain ⟨hin, hc⟩ := ch_arr hR (ch_okh (ch_ok0 (ch_ok0 hs))) hci
  have hA := ch_arrK hF.2.2.2.2.2.2.1 (t := 0) (by decide)
  refine W.iast hF.1 hF.2.1 hc (by rw [hk]; exact hA _ _) (fun q => by cases q) (by rw [hk]; exact ch_inv hx _ _) rfl rfl hd (fun H' e1 e2 e3 => ch_st hF hR hS ho (ch_ok0 (ch_ok0 (ch_ok0 hs))) hL hin e1 e2 e3 (fun b hb => ch_wr_ne hb) (fun k => ?_) kk)
  rw [hk]
  show updV (fun k => Value.int (mem (ci, j, c + 1) k)) _ _ k = .int (ch_wr mem (ci, j, c + 1) _ y (ci, j, c + 1) k)
  rw [ch_wr_at]
  unfold updV
  split <;> rfl
theorem ch_cast {y : Int32} (hd : decode (ch_bc f) pc = .ok (.castore, 1)) (hci : ci ≤ 10 ∨ ci = 14) (hk : ch_ak ci (c + 1) = (1, n)) (hx : vp_in x n) (kk : ch_J g f R E (pc + 1) ls rest (ch_wr mem (ci, j, c + 1) x.toNatClampNeg (vp_nar .char y)) kc) : ch_J g f R E pc ls (.inl (.int y) :: .inl (.int x) :: .inr (ci, j, c + 1) :: rest) mem kc := by
  intro p e s m args below meth cc H locs lm hF hR hS ho hs hL
  obtain ⟨hin, hc⟩ := ch_arr hR (ch_okh (ch_ok0 (ch_ok0 hs))) hci
  have hA := ch_arrK hF.2.2.2.2.2.2.1 (t := 1) (by decide)
  refine W.cast hF.1 hF.2.1 hc (by rw [hk]; exact hA _ _) (fun q => by cases q) (by rw [hk]; exact ch_inv hx _ _) rfl rfl hd (fun H' e1 e2 e3 => ch_st hF hR hS ho (ch_ok0 (ch_ok0 (ch_ok0 hs))) hL hin e1 e2 e3 (fun b hb => ch_wr_ne hb) (fun k => ?_) kk)
  rw [hk, ch_nc_of]
  show updV (fun k => Value.int (mem (ci, j, c + 1) k)) _ _ k = .int (ch_wr mem (ci, j, c + 1) _ _ (ci, j, c + 1) k)
  rw [ch_wr_at]
  unfold updV
  split <;> rfl
theorem ch_last {y z : Int32} {w : Int64} (hd : decode (ch_bc f) pc = .ok (.lastore, 1)) (hci : ci ≤ 10 ∨ ci = 14) (hk : ch_ak ci (c + 1) = (2, n)) (hx : vp_in x n) (hw : ch_lw y z = w) (kk : ch_J g f R E (pc + 1) ls rest (ch_wr (ch_wr mem (ci, j, c + 1) (2 * x.toNatClampNeg) y) (ci, j, c + 1) (2 * x.toNatClampNeg + 1) z) kc) : ch_J g f R E pc ls (.inl (.long w) :: .inl (.int x) :: .inr (ci, j, c + 1) :: rest) mem kc := by
  intro p e s m args below meth cc H locs lm hF hR hS ho hs hL
  obtain ⟨hin, hc⟩ := ch_arr hR (ch_okh (ch_ok0 (ch_ok0 hs))) hci
  have hA := ch_arrK hF.2.2.2.2.2.2.1 (t := 2) (by decide)
  refine W.last hF.1 hF.2.1 hc (by rw [hk]; exact hA _ _) (fun q => by cases q) (by rw [hk]; exact ch_inv hx _ _) rfl rfl hd (fun H' e1 e2 e3 => ch_st hF hR hS ho (ch_ok0 (ch_ok0 (ch_ok0 hs))) hL hin e1 e2 e3 (fun b hb => by rw [ch_wr_ne hb, ch_wr_ne hb]) (fun k => ?_) kk)
  rw [hk]
  show updV (fun k => Value.long (ch_lw (mem (ci, j, c + 1) (2 * k)) (mem (ci, j, c + 1) (2 * k + 1)))) _ _ k = .long (ch_lw (ch_wr (ch_wr mem (ci, j, c + 1) _ y) (ci, j, c + 1) _ z (ci, j, c + 1) (2 * k)) (ch_wr (ch_wr mem (ci, j, c + 1) _ y) (ci, j, c + 1) _ z (ci, j, c + 1) (2 * k + 1)))
  rw [ch_wr_at, ch_wr_at, ch_wr_at, ch_wr_at]
  unfold updV
  by_cases e : k = x.toNatClampNeg
  · rw [if_pos e, e, if_neg (by omega), if_pos rfl, if_pos rfl, hw]
  · rw [if_neg e, if_neg (by omega), if_neg (by omega), if_neg (by omega), if_neg (by omega)]
/-- bytes -/
theorem ch_bald2 (hd : decode (ch_bc f) pc = .ok (.baload, 1)) (hci : ci ≤ 10 ∨ ci = 14) (hk : ch_ak ci (c + 1) = (5, n)) (hx : vp_in x n) (kk : ch_J g f R E (pc + 1) ls (.inl (.int (mem (ci, j, c + 1) x.toNatClampNeg)) :: rest) mem kc) : ch_J g f R E pc ls (.inl (.int x) :: .inr (ci, j, c + 1) :: rest) mem kc := by
  refine ch_go (fun p e s m args below meth c H locs lm Q hF hR hS ho hs hL q => ?_) kk
  obtain ⟨hin, hc⟩ := ch_arr hR (ch_okh (ch_ok0 hs)) hci
  rw [hk] at hc
  exact W.bald hF.1 hF.2.1 hc (ch_arrK hF.2.2.2.2.2.2.1 (t := 5) (by decide) _ _) (fun q => by cases q) (ch_inv hx _ _) (ch_inr hx _ _) rfl rfl hd (q (ch_ok1 (ch_ok0 (ch_ok0 hs))))
theorem ch_nb_of (x : Int32) : narrow .byte (.int x) = .int (vp_nar .byte x) := by rw [vp_nar_byte]; rfl
theorem ch_bast {y : Int32} (hd : decode (ch_bc f) pc = .ok (.bastore, 1)) (hci : ci ≤ 10 ∨ ci = 14) (hk : ch_ak ci (c + 1) = (5, n)) (hx : vp_in x n) (kk : ch_J g f R E (pc + 1) ls rest (ch_wr mem (ci, j, c + 1) x.toNatClampNeg (vp_nar .byte y)) kc) : ch_J g f R E pc ls (.inl (.int y) :: .inl (.int x) :: .inr (ci, j, c + 1) :: rest) mem kc := by
  intro p e s m args below meth cc H locs lm hF hR hS ho hs hL
  obtain ⟨hin, hc⟩ := ch_arr hR (ch_okh (ch_ok0 (ch_ok0 hs))) hci
  have hA := ch_arrK hF.2.2.2.2.2.2.1 (t := 5) (by decide)
  refine W.bast hF.1 hF.2.1 hc (by rw [hk]; exact hA _ _) (fun q => by cases q) (by rw [hk]; exact ch_inv hx _ _) rfl rfl hd (fun H' e1 e2 e3 => ch_st hF hR hS ho (ch_ok0 (ch_ok0 (ch_ok0 hs))) hL hin e1 e2 e3 (fun b hb => ch_wr_ne hb) (fun k => ?_) kk)
  rw [hk, ch_nb_of]
  show updV (fun k => Value.int (mem (ci, j, c + 1) k)) _ _ k = .int (ch_wr mem (ci, j, c + 1) _ _ (ci, j, c + 1) k)
  rw [ch_wr_at]
  unfold updV
  split <;> rfl
end CHA
