/-! another object over the same heap: what stands fixed is taken anew -/
def ch_re (g : ch_G) (H : Heap) (b : Nat) (xa : ch_Ad → Nat) (xi : ch_Ad → Prop) : ch_G := (g.1, H, (ch_lo g, b), g.2.2.2.1, xa, xi, g.2.2.2.2.2.2)
theorem ch_WV_re {g : ch_G} {H : Heap} {b : Nat} {xa : ch_Ad → Nat} {xi : ch_Ad → Prop} {U : State} (h : ch_WV g U) (hfx : ∀ q, ch_fx g q → q < ch_lo g) (hH : ∀ q, q < ch_lo g → H[q]? = (ch_H0 g)[q]?) (hlo : ch_lo g ≤ H.size)
    (hx : ∀ a : ch_Ad, a.1 = 11 ∨ a.1 = 12 ∨ a.1 = 13 ∨ a.1 = 15 → xa a = ch_xa g a) (hw : ∀ a, ch_inx (ch_re g H b xa xi) a → ch_lo g ≤ ch_adr (ch_re g H b xa xi) a) : ch_WV (ch_re g H b xa xi) U := by
  have fx : ∀ q, ch_fx g q → ch_fx (ch_re g H b xa xi) q := fun q hq => ⟨Nat.lt_of_lt_of_le (hfx q hq) hlo, fun a ha e => by
    have h1 := hw a ha
    have h2 := hfx q hq
    rw [e] at h1
    omega⟩
  obtain ⟨h1, h2, h3, h4, h5, h6, h7, h8, ⟨⟨s1, s1'⟩, s2, s3, ⟨s4, s4'⟩, ⟨s5, s5'⟩, s6⟩, h10⟩ := h
  have kA : ∀ a : Nat, a < (ch_H0 g).size → ¬ ch_A g a → H[a]? = (ch_H0 g)[a]? := fun a _ hn => hH a (Nat.lt_of_not_le hn)
  have kF : ∀ a : Nat, a < (ch_H0 g).size → ¬ (¬ ch_fx g a) → H[a]? = (ch_H0 g)[a]? := fun a _ hn => hH a (hfx a (Classical.not_not.mp hn))
  have nF : ∀ q, ¬ ch_fx (ch_re g H b xa xi) q → ¬ ch_fx g q := fun q hn hq => hn (fx q hq)
  have e11 : (ch_scr (ch_re g H b xa xi)) = ch_scr g := by
    show (xa (11, 0, 0), _) = (ch_xa g (11, 0, 0), _)
    rw [hx _ (Or.inl rfl)]
    rfl
  have e12 : ∀ i, xa (12, i, 0) = ch_xa g (12, i, 0) := fun i => hx _ (Or.inr (Or.inl rfl))
  have e13 : ∀ i, xa (13, i, 0) = ch_xa g (13, i, 0) := fun i => hx _ (Or.inr (Or.inr (Or.inl rfl)))
  have e15 : ∀ i, xa (15, i, 0) = ch_xa g (15, i, 0) := fun i => hx _ (Or.inr (Or.inr (Or.inr rfl)))
  refine ⟨h1, h2, h3, h4.kept kA, h5.kept kA, ?_, ?_, ?_, ⟨⟨s1, fun i x hi => ?_⟩, ?_, (s3.kept kF).narrow nF, ⟨?_, ?_⟩, ⟨(s5.kept kF).narrow nF, s5'⟩, fun i hi => ?_⟩, h10⟩
  · rw [e11]
    exact h6.kept (hH _ (hfx _ h7))
  · rw [e11]
    exact fx _ h7
  · rw [e11]
    exact h8
  · have := s1' i x hi
    rw [← e12] at this
    exact this
  · have f1 : (fun i => xa (12, i, 0)) = fun i => ch_xa g (12, i, 0) := funext e12
    have f2 : (fun i => xa (13, i, 0)) = fun i => ch_xa g (13, i, 0) := funext e13
    have := (s2.kept kF).narrow nF
    rw [← f1, ← f2] at this
    exact this
  · have := (s4.kept kF).narrow nF
    rw [← e15] at this
    exact this
  · have := (s4'.kept kF).narrow nF
    rw [← e15] at this
    exact this
  · have := ((s6 i hi).kept kF).narrow nF
    rw [← e15] at this
    exact this
/-- the frame is one of the other world too -/
theorem ch_FR_re {g : ch_G} {H : Heap} {b : Nat} {xa : ch_Ad → Nat} {xi : ch_Ad → Prop} {f : ch_MI} {p : Program} {s : State} {m : MethodId} {args : Array Value} {meth : Method} {c : Code} (h : ch_FR g f p s m args meth c) (hfx : ∀ q, ch_fx g q → q < ch_lo g) (hH : ∀ q, q < ch_lo g → H[q]? = (ch_H0 g)[q]?) (hlo : ch_lo g ≤ H.size)
    (hx : ∀ a : ch_Ad, a.1 = 11 ∨ a.1 = 12 ∨ a.1 = 13 ∨ a.1 = 15 → xa a = ch_xa g a) (hw : ∀ a, ch_inx (ch_re g H b xa xi) a → ch_lo g ≤ ch_adr (ch_re g H b xa xi) a) : ch_FR (ch_re g H b xa xi) f p s m args meth c := by
  obtain ⟨h1, h2, h3, h4, h5, h6, h7, h8, h9, h10, h11, h12⟩ := h
  exact ⟨h1, h2, h3, h4, h5, h6, ch_WV_re h7 hfx hH hlo hx hw, h8, h9, h10, h11, h12⟩
