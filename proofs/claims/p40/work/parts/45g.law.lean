/-- the whole law, from the making of the first object to the answer; the texts of changes and the end are premises -/
theorem l_all {g : ch_G} {R : Room} {E : ch_En} (hR : ch_RR R 18) (hC : 120000 ≤ R.cells ∧ 720000 ≤ R.slots) (hx : ∀ a, ¬ ch_xi g a) (hlo : ch_lo g = ch_base g) (hb : (ch_H0 g).size = ch_base g) (hl : (ch_scr g).2.1 < 2 ^ 31) (ht : l_tx g)
    (hCH : ∀ (H : Heap) (a : Nat), ch_lo g ≤ H.size → (∀ q, q < ch_lo g → H[q]? = (ch_H0 g)[q]?) → l_CH (ch_rw (ch_re g H H.size (ch_xa g) (fun _ => False)) a))
    (hend : ∀ (H : Heap) (a : Nat) (m : ch_M) (k : Nat) (ls : ch_LT), k ≤ 119000 → ch_J (ch_rw (ch_re g H H.size (ch_xa g) (fun _ => False)) a) m_l_law R E 737 ls [.inl (.int 1)] m k) (D : Nat → cb_d) :
    cb_J g m_l_law R E 0 [some (.inr (11, 0, 0)), none, none, none, none, none, none, none, none, none, none] [] (cb_H g 0 D) 0 := by
  refine l_0 hR hC hx (Nat.le_of_eq hlo) hb D (fun k hk => ?_)
  refine e_8 hR hC (fun m k o2 hk => ?_) cb_M k cb_W0 (by omega)
  refine l_479 hR hC (fun q hq => by have : q < (ch_H0 g).size := hq.1; omega) (by omega) (fun H k h1 h2 hk => ?_) m k (some (.inr (0, 0, 0))) o2 none none none none none none none none hk
  refine f_487 (g := ch_re g H H.size (ch_xa g) (fun _ => False)) hR hC hl ht (fun A Y Q m k hT hf hZ hW hk => ?_) (A := e_0) cb_M k (by decide) (by decide) rfl (by decide) cb_W0.1 hk
  refine l_547 (g := ch_re g H H.size (ch_xa g) (fun _ => False)) hC (fun _ z => z) rfl m k hk (fun a k hk => ?_)
  exact f_553 (g := ch_rw (ch_re g H H.size (ch_xa g) (fun _ => False)) a) hR hC (hCH H a h1 h2) hl (hend H a) _ _ _ _ (m_14 m) k hT hf hZ (a_W_m14 hW) (by omega)
