theorem ch_lswD {d k : Int} : ∀ {ps : List (Int × Int)}, (∀ q ∈ ps, k ≠ q.1) → Op.lookupswitch.offset ps d k = d
  | [], _ => rfl
  | (a, o) :: r, h => by
    rw [Op.lookupswitch.offset_cons, if_neg (fun q => h (a, o) List.mem_cons_self q.symm)]
    exact ch_lswD (fun q hq => h q (List.mem_cons_of_mem _ hq))
theorem ch_hR {R : Room} {d n : Nat} (h : ch_RR R n) (hd : d ≤ n) : ch_RR R d := ⟨Nat.le_trans hd h.1, Nat.le_trans (by omega) h.2⟩
/-- a native that tells the bits of a number -/
def ch_NB (own : String) (idx : Nat) (y : MethodName) : Prop := Cond.methodLink own idx y ∈ ch_good ∧ Cond.native y ∈ ch_good ∧ Cond.static y ∈ ch_good ∧ Cond.initialized y.cls ∈ ch_good
section CHN
variable {g : ch_G} {f : ch_MI} {R : Room} {E : ch_En} {pc : Nat} {ls : ch_LT} {rest : List ch_V} {mem : ch_M} {k : Nat}
theorem ch_d2l {b : UInt64} {idx : Nat} (hd : decode (ch_bc f) pc = .ok (.invokestatic idx, 3)) (hm : ch_NB (ch_nm f).cls idx ⟨"java/lang/Double", "doubleToRawLongBits", "(D)J"⟩) (hRR : ch_RR R 1) (hcat : (rest.map ch_cat).sum ≤ 8) (kk : ch_J g f R E (pc + 3) ls (.inl (.long b.toInt64) :: rest) mem k) : ch_J g f R E pc ls (.inl (.double b) :: rest) mem k :=
  ch_go (fun _ _ _ _ _ _ _ _ _ _ _ _ hF _ _ ho hs hL q => vn_d2l hF.1 hF.2.1 (hF.2.2.2.1.trans hL.1.symm) hF.2.2.2.2.1 (hF.2.2.2.2.2.1 _ hm.1) (hF.2.2.2.2.2.1 _ hm.2.1) (hF.2.2.2.2.2.1 _ hm.2.2.1) (hF.2.2.2.2.2.1 _ hm.2.2.2) hRR.1 (by have := hRR.2; rw [ch_sum]; omega) hd (q (ch_ok1 (ch_ok0 hs)))) kk
theorem ch_f2i {b : UInt32} {idx : Nat} (hd : decode (ch_bc f) pc = .ok (.invokestatic idx, 3)) (hm : ch_NB (ch_nm f).cls idx ⟨"java/lang/Float", "floatToRawIntBits", "(F)I"⟩) (hRR : ch_RR R 1) (hcat : (rest.map ch_cat).sum ≤ 8) (kk : ch_J g f R E (pc + 3) ls (.inl (.int b.toInt32) :: rest) mem k) : ch_J g f R E pc ls (.inl (.float b) :: rest) mem k :=
  ch_go (fun _ _ _ _ _ _ _ _ _ _ _ _ hF _ _ ho hs hL q => vn_f2i hF.1 hF.2.1 (hF.2.2.2.1.trans hL.1.symm) hF.2.2.2.2.1 (hF.2.2.2.2.2.1 _ hm.1) (hF.2.2.2.2.2.1 _ hm.2.1) (hF.2.2.2.2.2.1 _ hm.2.2.1) (hF.2.2.2.2.2.1 _ hm.2.2.2) hRR.1 (by have := hRR.2; rw [ch_sum]; omega) hd (q (ch_ok1 (ch_ok0 hs)))) kk
end CHN
