def ch_cpy (mem : ch_M) (src dst : ch_Ad) (sp dp n : Nat) : ch_M := fun b i => if b = dst then va_cpy (mem src) (mem dst) sp dp n i else mem b i
/-- System.arraycopy -/
def ch_AC (own : String) (idx : Nat) : Prop := Cond.methodLink own idx arraycopyName ∈ ch_good ∧ Cond.native arraycopyName ∈ ch_good ∧ Cond.static arraycopyName ∈ ch_good ∧ Cond.initialized "java/lang/System" ∈ ch_good
section CHY
variable {g : ch_G} {f : ch_MI} {R : Room} {E : ch_En} {pc : Nat} {ls : ch_LT} {rest : List ch_V} {mem : ch_M} {k : Nat}
theorem ch_copy {idx c1 j1 p1 n1 c2 j2 p2 n2 : Nat} {sp dp n : Int32} (hd : decode (ch_bc f) pc = .ok (.invokestatic idx, 3)) (hm : ch_AC (ch_nm f).cls idx) (hc1 : c1 ≤ 10 ∨ c1 = 14) (hc2 : c2 ≤ 10 ∨ c2 = 14) (hk1 : ch_ak c1 (p1 + 1) = (0, n1)) (hk2 : ch_ak c2 (p2 + 1) = (0, n2)) (hRR : ch_RR R 1) (hcat : (rest.map ch_cat).sum ≤ 8)
    (h1 : ¬ sp < 0) (h2 : ¬ dp < 0) (h3 : ¬ n < 0) (h4 : sp.toNatClampNeg + n.toNatClampNeg ≤ n1) (h5 : dp.toNatClampNeg + n.toNatClampNeg ≤ n2)
    (kk : ch_J g f R E (pc + 3) ls rest (ch_cpy mem (c1, j1, p1 + 1) (c2, j2, p2 + 1) sp.toNatClampNeg dp.toNatClampNeg n.toNatClampNeg) k) : ch_J g f R E pc ls (.inl (.int n) :: .inl (.int dp) :: .inr (c2, j2, p2 + 1) :: .inl (.int sp) :: .inr (c1, j1, p1 + 1) :: rest) mem k := by
  intro p e s m args below meth c H locs lm hF hR hS ho hs hL
  obtain ⟨hin1, hca⟩ := ch_arr hR (ch_okh (ch_ok0 (ch_ok0 (ch_ok0 (ch_ok0 hs))))) hc1
  obtain ⟨hin2, hcb⟩ := ch_arr hR (ch_okh (ch_ok0 (ch_ok0 hs))) hc2
  rw [hk1] at hca
  rw [hk2] at hcb
  have hcat' : ((rest.map (ch_tr g)).map fun v => v.category).sum ≤ 8 := by rw [ch_sum]; exact hcat
  have hA := ch_arrK hF.2.2.2.2.2.2.1 (t := 0) (by decide)
  have nn : ∀ z : Int32, ¬ z < 0 → z.toInt = (z.toNatClampNeg : Int) := by
    intro z hz
    have hz0 : (0 : Int) ≤ z.toInt := by
      have := Int32.not_lt.mp hz
      simpa using Int32.le_iff_toInt_le.mp this
    show z.toInt = ((z.toInt.toNat : Nat) : Int)
    omega
  have hts := hF.2.2.2.2.2.1
  have hfit : ∀ i, fits .int (.int (mem (c1, j1, p1 + 1) i)) = true := fun i => rfl
  intro T hT X
  have hc0 : H[ch_adr g (c1, j1, p1 + 1)]? = some (vp_cell (ch_cA g 0) (n1, .inl (mem (c1, j1, p1 + 1)))) := hca
  have hc9 : H[ch_adr g (c2, j2, p2 + 1)]? = some (vp_cell (ch_cA g 0) (n2, .inl (mem (c2, j2, p2 + 1)))) := hcb
  obtain ⟨-, k0, hk0, cm0, hkk0⟩ := hA n1 (fun i => .int (mem (c1, j1, p1 + 1) i))
  obtain ⟨-, k1, hk1', cm1, hkk1⟩ := hA n2 (fun i => .int (mem (c2, j2, p2 + 1) i))
  obtain ⟨vm', X', step⟩ := X.arraycopy hF.1 hF.2.2.2.2.1 (hts _ hm.1) (hts _ hm.2.1) (hts _ hm.2.2.1) (hts _ hm.2.2.2) (src := ch_adr g (c1, j1, p1 + 1)) (dst := ch_adr g (c2, j2, p2 + 1)) (cs := vp_cell (ch_cA g 0) (n1, .inl (mem (c1, j1, p1 + 1)))) (cd := vp_cell (ch_cA g 0) (n2, .inl (mem (c2, j2, p2 + 1)))) (srcPos := sp) (destPos := dp) (n := n) (by rw [hT]; exact hc0) (by rw [hT]; exact hc9)
    (fun _ h => by cases h) (fun _ h => by cases h) (fun h => by cases h) (fun h => by cases h) hk0 hk1' hkk0 hkk1 (by rfl) h1 h2 h3
    (by rw [nn sp h1, nn n h3]; show ¬ _ > ((arrV _ n1 _).slots.size : Int); rw [arrV_size]; omega)
    (by rw [nn dp h2, nn n h3]; show ¬ _ > ((arrV _ n2 _).slots.size : Int); rw [arrV_size]; omega)
    (fun vm₁ _ i hi => by
      have e9 : (vp_cell (ch_cA g 0) (n1, .inl (mem (c1, j1, p1 + 1)))).slots.getD (sp.toNatClampNeg + i) .null = .int (mem (c1, j1, p1 + 1) (sp.toNatClampNeg + i)) := by
        show (arrV (ch_cA g 0) n1 (fun i => .int (mem (c1, j1, p1 + 1) i))).slots.getD _ _ = _
        rw [Array.getD_eq_getD_getElem?, arrV_read _ _ (by omega)]
        rfl
      refine ⟨?_, ?_⟩
      · rw [e9]
        exact hfit _
      · rw [e9]
        exact trivial)
    (g := F0 m pc lm ((.inl (.int n) :: .inl (.int dp) :: .inr (c2, j2, p2 + 1) :: .inl (.int sp) :: .inr (c1, j1, p1 + 1) :: rest : List ch_V).map (ch_tr g))) rfl (hL.1.trans hF.2.2.2.1.symm) (rest := rest.map (ch_tr g)) rfl (by rw [hF.2.1]; exact hd) hRR.1
    (by have := hRR.2; have hw : nativeFrameWords "java/lang/System" "arraycopy" 5 ≤ 100 := by decide +kernel
        show 2 * 0 + _ + _ ≤ _; omega)
  have e1 : copied (vp_cell (ch_cA g 0) (n1, .inl (mem (c1, j1, p1 + 1)))) (vp_cell (ch_cA g 0) (n2, .inl (mem (c2, j2, p2 + 1)))) sp dp n = vp_cell (ch_cA g 0) (n2, .inl (va_cpy (mem (c1, j1, p1 + 1)) (mem (c2, j2, p2 + 1)) sp.toNatClampNeg dp.toNatClampNeg n.toNatClampNeg)) := va_copied (fun z => .int z) _ _ _ _ h4
  rw [e1] at X' step
  have hl : ch_adr g (c2, j2, p2 + 1) < H.size := (Array.getElem?_eq_some_iff.mp hc9).1
  generalize hcell : vp_cell (ch_cA g 0) (n2, .inl (va_cpy (mem (c1, j1, p1 + 1)) (mem (c2, j2, p2 + 1)) sp.toNatClampNeg dp.toNatClampNeg n.toNatClampNeg)) = cell at X' step
  have hheap : ((T.setVm vm').setCell (ch_adr g (c2, j2, p2 + 1)) cell).heap = H.setIfInBounds (ch_adr g (c2, j2, p2 + 1)) cell := by rw [← hT]; rfl
  have oq : ∀ q : Nat, q ≠ ch_adr g (c2, j2, p2 + 1) → (H.setIfInBounds (ch_adr g (c2, j2, p2 + 1)) cell)[q]? = H[q]? := fun q hq => by simp [Array.getElem?_setIfInBounds, Ne.symm hq]
  have hRp' : ch_Rp g (ch_cpy mem (c1, j1, p1 + 1) (c2, j2, p2 + 1) sp.toNatClampNeg dp.toNatClampNeg n.toNatClampNeg) (H.setIfInBounds (ch_adr g (c2, j2, p2 + 1)) cell) := by
    refine ch_Rp_upd hR hin2 (by simp) oq ?_ (fun b hb => ?_)
    · show (H.setIfInBounds _ cell)[ch_adr g (c2, j2, p2 + 1)]? = _
      rw [hk2]
      have : (H.setIfInBounds (ch_adr g (c2, j2, p2 + 1)) cell)[ch_adr g (c2, j2, p2 + 1)]? = some cell := by simp [Array.getElem?_setIfInBounds, hl]
      rw [this, ← hcell]
      show some (vp_cell _ _) = some (arrV (ch_cA g 0) n2 (fun i => ch_ev g (ch_cpy mem (c1, j1, p1 + 1) (c2, j2, p2 + 1) sp.toNatClampNeg dp.toNatClampNeg n.toNatClampNeg) (c2, j2, p2 + 1) 0 i))
      rw [vp_cell_i]
      congr 2
      funext i
      show Value.int _ = Value.int (ch_cpy _ _ _ _ _ _ _ i)
      unfold ch_cpy
      rw [if_pos rfl]
    · funext i
      unfold ch_cpy
      rw [if_neg hb]
  have hS' : ∀ L : List Loc, (∀ z ∈ L, z.base = ch_adr g (c2, j2, p2 + 1)) → va_S (ch_A g) s.heap (H.setIfInBounds (ch_adr g (c2, j2, p2 + 1)) cell) (locs ++ L) := by
    intro L hLo
    refine ⟨by simp; exact hS.1, fun q g1 g2 => ?_, fun q hq => ?_⟩
    · rw [oq q (fun e => g2 (by rw [e]; exact ch_adr_A hR hin2))]
      exact hS.2.1 q g1 g2
    · rcases List.mem_append.mp hq with h | h
      · exact hS.2.2 q h
      · rw [hLo q h]
        exact ch_adr_A hR hin2
  obtain ⟨t, a1, b1⟩ := kk p e s m args below meth c _ _ lm hF hRp' (hS' _ (fun z hz => by obtain ⟨y, -, hy⟩ := List.mem_map.mp hz; rw [← hy])) ho (ch_ok0 (ch_ok0 (ch_ok0 (ch_ok0 (ch_ok0 hs))))) hL _ hheap X'
  exact ⟨t, step t a1, b1⟩
end CHY
