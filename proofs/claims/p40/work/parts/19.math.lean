/-! pure words -/
theorem ch_oi_iff {q : Int32 → ch_M → Prop} {r : Int32} {m : ch_M} : ch_oi q (.inl (some (.inl (.int r)))) m ↔ q r m :=
  ⟨fun ⟨_, e, h⟩ => by cases e; exact h, fun h => ⟨r, rfl, h⟩⟩
theorem ch_ov_iff {q : ch_M → Prop} {m : ch_M} : ch_ov q (.inl none) m ↔ q m := ⟨fun h => h.2, fun h => ⟨rfl, h⟩⟩
theorem ch_of_iff {q : UInt32 → ch_M → Prop} {r : UInt32} {m : ch_M} : ch_of q (.inl (some (.inl (.float r)))) m ↔ q r m :=
  ⟨fun ⟨_, e, h⟩ => by cases e; exact h, fun h => ⟨r, rfl, h⟩⟩
theorem ch_od_iff {q : UInt64 → ch_M → Prop} {r : UInt64} {m : ch_M} : ch_od q (.inl (some (.inl (.double r)))) m ↔ q r m :=
  ⟨fun ⟨_, e, h⟩ => by cases e; exact h, fun h => ⟨r, rfl, h⟩⟩
theorem ch_ox_l {q : ch_O → ch_M → Prop} {x : Nat → ch_M → Prop} {v : Option ch_V} {m : ch_M} : ch_ox q x (.inl v) m ↔ q (.inl v) m :=
  ⟨fun h => h.elim id (fun ⟨_, e, _⟩ => by cases e), Or.inl⟩
theorem ch_ox_oi {q : Int32 → ch_M → Prop} {x : Nat → ch_M → Prop} {n : Nat} {m : ch_M} : ch_ox (ch_oi q) x (.inr n) m ↔ n < 6 ∧ x n m :=
  ⟨fun h => h.elim (fun ⟨_, e, _⟩ => by cases e) (fun ⟨n', e, h⟩ => by cases e; exact h), fun h => Or.inr ⟨n, rfl, h⟩⟩
theorem ch_ox_ov {q : ch_M → Prop} {x : Nat → ch_M → Prop} {n : Nat} {m : ch_M} : ch_ox (ch_ov q) x (.inr n) m ↔ n < 6 ∧ x n m :=
  ⟨fun h => h.elim (fun e => by cases e.1) (fun ⟨n', e, h⟩ => by cases e; exact h), fun h => Or.inr ⟨n, rfl, h⟩⟩
theorem ch_ox_od {q : UInt64 → ch_M → Prop} {x : Nat → ch_M → Prop} {n : Nat} {m : ch_M} : ch_ox (ch_od q) x (.inr n) m ↔ n < 6 ∧ x n m :=
  ⟨fun h => h.elim (fun ⟨_, e, _⟩ => by cases e) (fun ⟨n', e, h⟩ => by cases e; exact h), fun h => Or.inr ⟨n, rfl, h⟩⟩
/-- an object's cells in the memory: by part and place -/
abbrev ch_B : Type := Nat → Nat → Int32
def ch_ob (m : ch_M) (ci j : Nat) : ch_B := fun c k => m (ci, j, c) k
def ch_os (m : ch_M) (ci j : Nat) (B : ch_B) : ch_M := fun a k => if a.1 = ci ∧ a.2.1 = j then B a.2.2 k else m a k
def ch_bw (B : ch_B) (c k : Nat) (v : Int32) : ch_B := fun c' k' => if c' = c ∧ k' = k then v else B c' k'
theorem ch_os_at (m : ch_M) (ci j c k : Nat) (B : ch_B) : ch_os m ci j B (ci, j, c) k = B c k := by unfold ch_os; rw [if_pos ⟨rfl, rfl⟩]
theorem ch_os_ne {m : ch_M} {ci j : Nat} {B : ch_B} {a : ch_Ad} (h : ¬ (a.1 = ci ∧ a.2.1 = j)) : ch_os m ci j B a = m a := by
  funext k
  unfold ch_os
  rw [if_neg h]
theorem ch_os_self (m : ch_M) (ci j : Nat) : ch_os m ci j (ch_ob m ci j) = m := by
  funext a k
  unfold ch_os ch_ob
  by_cases h : a.1 = ci ∧ a.2.1 = j
  · obtain ⟨x, y, z⟩ := a
    obtain ⟨rfl, rfl⟩ := h
    rw [if_pos ⟨rfl, rfl⟩]
  · rw [if_neg h]
theorem ch_os_os (m : ch_M) (ci j : Nat) (B B' : ch_B) : ch_os (ch_os m ci j B) ci j B' = ch_os m ci j B' := by
  funext a k
  unfold ch_os
  by_cases h : a.1 = ci ∧ a.2.1 = j
  · rw [if_pos h, if_pos h]
  · rw [if_neg h, if_neg h, if_neg h]
theorem ch_ob_os (m : ch_M) (ci j : Nat) (B : ch_B) : ch_ob (ch_os m ci j B) ci j = B := by
  funext c k
  exact ch_os_at m ci j c k B
theorem ch_os_wr (m : ch_M) (ci j c k : Nat) (B : ch_B) (v : Int32) : ch_wr (ch_os m ci j B) (ci, j, c) k v = ch_os m ci j (ch_bw B c k v) := by
  funext a i
  obtain ⟨x, y, z⟩ := a
  unfold ch_wr ch_os ch_bw
  simp only [Prod.mk.injEq]
  by_cases h : x = ci ∧ y = j
  · obtain ⟨rfl, rfl⟩ := h
    simp
  · have h2 : ¬ ((x = ci ∧ y = j ∧ z = c) ∧ i = k) := fun q => h ⟨q.1.1, q.1.2.1⟩
    rw [if_neg h2, if_neg h, if_neg h]
theorem ch_bw_at (B : ch_B) (c k : Nat) (v : Int32) : ch_bw B c k v c k = v := by unfold ch_bw; rw [if_pos ⟨rfl, rfl⟩]
theorem ch_bw_c {B : ch_B} {c k c' k' : Nat} {v : Int32} (h : c' ≠ c) : ch_bw B c k v c' k' = B c' k' := by unfold ch_bw; rw [if_neg (fun q => h q.1)]
theorem ch_bw_k {B : ch_B} {c k c' k' : Nat} {v : Int32} (h : k' ≠ k) : ch_bw B c k v c' k' = B c' k' := by unfold ch_bw; rw [if_neg (fun q => h q.2)]
theorem ch_wr_os (m : ch_M) (ci j c k : Nat) (v : Int32) : ch_wr m (ci, j, c) k v = ch_os m ci j (ch_bw (ch_ob m ci j) c k v) := by
  have h := ch_os_wr m ci j c k (ch_ob m ci j) v
  rw [ch_os_self] at h
  exact h
/-- a way from the end back -/
theorem ch_down (P : Nat → Prop) (N : Nat) (hN : P N) (hs : ∀ k, k < N → P (k + 1) → P k) : ∀ k, k ≤ N → P k := by
  intro k hk
  obtain ⟨n, rfl⟩ : ∃ n, N = k + n := ⟨N - k, by omega⟩
  clear hk
  induction n generalizing k with
  | zero => exact hN
  | succ n ih => exact hs k (by omega) (ih (k + 1) (by rw [show k + 1 + n = k + (n + 1) by omega]; exact hN) (fun i hi => hs i (by omega)))
/-- how many of the first n cells hold o -/
def ch_cnO (f : Nat → Int32) (o : Int32) : Nat → Int32
  | 0 => 0
  | n + 1 => if f n = o then ch_cnO f o n + 1 else ch_cnO f o n
theorem ch_lit (n : Nat) (x : Int32) (h : nI n = x := by decide) : nI n = x := h
