theorem ch_lswD {d k : Int} : ∀ {ps : List (Int × Int)}, (∀ q ∈ ps, k ≠ q.1) → Op.lookupswitch.offset ps d k = d
  | [], _ => rfl
  | (a, o) :: r, h => by
    rw [Op.lookupswitch.offset_cons, if_neg (fun q => h (a, o) List.mem_cons_self q.symm)]
    exact ch_lswD (fun q hq => h q (List.mem_cons_of_mem _ hq))
theorem ch_hR {R : Room} {d n : Nat} (h : ch_RR R n) (hd : d ≤ n) : ch_RR R d := ⟨Nat.le_trans hd h.1, Nat.le_trans (by omega) h.2⟩
