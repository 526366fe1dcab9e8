/-! what holds of the two sides at every turn of the law -/
def lw_wr (W B : ch_B) : Prop := vp_in (W 0 1) 61 ∧ W 0 1 = B 0 8 ∧ (∀ i, i < (W 0 1).toNatClampNeg → B 6 i = W 1 i) ∧ ∀ i, i < 60 → narrow .char (.int (W 1 i)) = .int (W 1 i)
def lw_rg (n c k : Nat) : Nat := (n + 9 - c + k) % 8
def lw_past (T : Nat) (K : Nat → ch_B) (P B : ch_B) : Prop := ∃ n c, n < 8 ∧ c ≤ 8 ∧ P 0 1 = nI n ∧ P 0 2 = nI c ∧ B 0 4 = nI c ∧ ∀ k, k < c → y_inv T (K (lw_rg n c k)) ∧ m_rel (K (lw_rg n c k)) (fun i => B 4 (63 * k + i))
def lw_sv (T : Nat) (Z B : ch_B) (f : Int32) : Prop := f = B 0 6 ∧ (¬ f = 0 → y_inv T Z ∧ m_rel Z (B 5))
def lw_rs (R B : ch_B) : Prop := R 0 0 = B 0 15 ∧ R 0 1 = B 0 16 ∧ R 0 2 = B 0 17
def lw_I (T : Nat) (Y Z : ch_B) (K : Nat → ch_B) (P R X W B : ch_B) (f fp s : Int32) : Prop := (y_inv T Y ∧ m_rel Y (B 1)) ∧ lw_rs R B ∧ fp = B 0 14 ∧ m_txt X B ∧ lw_wr W B ∧ lw_sv T Z B f ∧ lw_past T K P B ∧ vp_in s 13
def lw_inv (T : Nat) (m : ch_M) : Prop := lw_I T (ch_ob m 1 0) (ch_ob m 1 3) (fun k => ch_ob m 1 (4 + k)) (ch_ob m 2 0) (ch_ob m 3 0) (ch_ob m 6 0) (ch_ob m 6 1) (ch_ob m 9 0) (m (0, 0, 0) 12) (m (0, 0, 0) 13) (m (5, 0, 0) 1)
theorem m_rel_cong {Y : ch_B} {N N' : Nat → Int32} (h : m_rel Y N) (e : ∀ i, i < 63 → N' i = N i) : m_rel Y N' := by
  obtain ⟨⟨a0, a1, a2, a3, a4, a5, a6, a7, a8⟩, h2, h3, h4⟩ := h
  refine ⟨⟨(e 0 (by omega)).trans a0, (e 1 (by omega)).trans a1, (e 2 (by omega)).trans a2, (e 3 (by omega)).trans a3, (e 4 (by omega)).trans a4, (e 5 (by omega)).trans a5, (e 6 (by omega)).trans a6, (e 7 (by omega)).trans a7, (e 8 (by omega)).trans a8⟩, fun k h5 hk => (e _ (by omega)).trans (h2 k h5 hk), fun k hk => ⟨(e _ (by omega)).trans (h3 k hk).1, (e _ (by omega)).trans (h3 k hk).2⟩, fun c hc => ?_⟩
  obtain ⟨b1, b2, b3, b4, b5⟩ := h4 c hc
  exact ⟨(e _ (by omega)).trans b1, (e _ (by omega)).trans b2, (e _ (by omega)).trans b3, (e _ (by omega)).trans b4, (e _ (by omega)).trans b5⟩
/-- the reference's block, what of it stays -/
def lw_bq (B B' : ch_B) : Prop := (∀ i, i < 63 → B' 1 i = B 1 i) ∧ (∀ a i, a = 4 ∨ a = 5 ∨ a = 6 ∨ a = 7 → B' a i = B a i) ∧ ∀ i, i = 4 ∨ i = 6 ∨ i = 8 ∨ i = 10 ∨ i = 14 ∨ i = 15 ∨ i = 16 ∨ i = 17 → B' 0 i = B 0 i
theorem lw_bq_refl (B : ch_B) : lw_bq B B := ⟨fun _ _ => rfl, fun _ _ _ => rfl, fun _ _ => rfl⟩
theorem lw_bq_tr {B C D : ch_B} (h : lw_bq B C) (h' : lw_bq C D) : lw_bq B D := ⟨fun i hi => (h'.1 i hi).trans (h.1 i hi), fun a i ha => (h'.2.1 a i ha).trans (h.2.1 a i ha), fun i hi => (h'.2.2 i hi).trans (h.2.2 i hi)⟩
theorem lw_I_bq {T : Nat} {Y Z : ch_B} {K : Nat → ch_B} {P R X W B B' : ch_B} {f fp s : Int32} (h : lw_I T Y Z K P R X W B f fp s) (e : lw_bq B B') : lw_I T Y Z K P R X W B' f fp s := by
  obtain ⟨⟨h1, h2⟩, ⟨r1, r2, r3⟩, h4, ⟨x1, x2, x3⟩, ⟨w1, w2, w3, w4⟩, ⟨v1, v2⟩, ⟨n, c, p1, p2, p3, p4, p5, p6⟩, h9⟩ := h
  obtain ⟨e1, e2, e3⟩ := e
  refine ⟨⟨h1, m_rel_cong h2 e1⟩, ⟨?_, ?_, ?_⟩, ?_, ⟨x1, ?_, fun k hk => ?_⟩, ⟨w1, ?_, fun i hi => ?_, w4⟩, ⟨?_, fun z => ⟨(v2 z).1, m_rel_cong (v2 z).2 (fun i _ => e2 5 i (by omega))⟩⟩, ⟨n, c, p1, p2, p3, p4, ?_, fun k hk => ⟨(p6 k hk).1, m_rel_cong (p6 k hk).2 (fun i _ => e2 4 _ (by omega))⟩⟩, h9⟩
  · rw [e3 15 (by omega)]; exact r1
  · rw [e3 16 (by omega)]; exact r2
  · rw [e3 17 (by omega)]; exact r3
  · rw [e3 14 (by omega)]; exact h4
  · rw [e3 10 (by omega)]; exact x2
  · rw [e2 7 k (by omega)]; exact x3 k hk
  · rw [e3 8 (by omega)]; exact w2
  · rw [e2 6 i (by omega)]; exact w3 i hi
  · rw [e3 6 (by omega)]; exact v1
  · rw [e3 4 (by omega)]; exact p5
theorem lw_I_mono {T T' : Nat} {Y Z : ch_B} {K : Nat → ch_B} {P R X W B : ch_B} {f fp s : Int32} (h : lw_I T Y Z K P R X W B f fp s) (hT : T' < 2 ^ 31) (hl : T ≤ T') : lw_I T' Y Z K P R X W B f fp s := by
  obtain ⟨⟨h1, h2⟩, h3, h4, h5, h6, ⟨v1, v2⟩, ⟨n, c, p1, p2, p3, p4, p5, p6⟩, h9⟩ := h
  exact ⟨⟨y_inv_mono hT h1 hl, h2⟩, h3, h4, h5, h6, ⟨v1, fun z => ⟨y_inv_mono hT (v2 z).1 hl, (v2 z).2⟩⟩, ⟨n, c, p1, p2, p3, p4, p5, fun k hk => ⟨y_inv_mono hT (p6 k hk).1 hl, (p6 k hk).2⟩⟩, h9⟩
theorem lw_inv_mono {T T' : Nat} {m : ch_M} (h : lw_inv T m) (hT : T' < 2 ^ 31) (hl : T ≤ T') : lw_inv T' m := lw_I_mono h hT hl
/-- the cells that count, the reference's aside -/
def lw_used (a j c i : Nat) : Prop := (a = 1 ∧ j ≠ 1 ∧ j ≠ 2) ∨ a = 2 ∨ a = 3 ∨ a = 6 ∨ (a = 0 ∧ j = 0 ∧ c = 0 ∧ (i = 12 ∨ i = 13)) ∨ (a = 5 ∧ j = 0 ∧ c = 0 ∧ i = 1)
def lw_same (m m' : ch_M) : Prop := ∀ a j c i, lw_used a j c i → m' (a, j, c) i = m (a, j, c) i
theorem lw_same_refl (m : ch_M) : lw_same m m := fun _ _ _ _ _ => rfl
theorem lw_same_tr {m m' m'' : ch_M} (h : lw_same m m') (h' : lw_same m' m'') : lw_same m m'' := fun a j c i hu => (h' a j c i hu).trans (h a j c i hu)
theorem lw_same_wr (m : ch_M) {a j c k : Nat} (v : Int32) (h : ¬ lw_used a j c k) : lw_same m (ch_wr m (a, j, c) k v) := by
  intro a' j' c' i hu
  unfold ch_wr
  refine if_neg (fun z => h ?_)
  obtain ⟨z1, z2⟩ := z
  injection z1 with e1 e2
  injection e2 with e2 e3
  rw [← e1, ← e2, ← e3, ← z2]
  exact hu
theorem lw_same_os (m : ch_M) {a j : Nat} (B : ch_B) (h : ∀ c i, ¬ lw_used a j c i) : lw_same m (ch_os m a j B) := by
  intro a' j' c' i hu
  refine congrFun (ch_os_ne (fun z => h c' i ?_)) i
  have e1 : a' = a := z.1
  have e2 : j' = j := z.2
  rw [← e1, ← e2]
  exact hu
theorem lw_inv_same {T : Nat} {m m' : ch_M} (h : lw_inv T m) (hs : lw_same m m') (hB : lw_bq (ch_ob m 9 0) (ch_ob m' 9 0)) : lw_inv T m' := by
  have e : ∀ a j, (∀ c i, lw_used a j c i) → ch_ob m' a j = ch_ob m a j := fun a j hu => by
    funext c i
    exact hs a j c i (hu c i)
  have e1 := e 1 0 (fun c i => by unfold lw_used; omega)
  have e2 := e 1 3 (fun c i => by unfold lw_used; omega)
  have e3 : (fun k => ch_ob m' 1 (4 + k)) = fun k => ch_ob m 1 (4 + k) := by
    funext k
    exact e 1 (4 + k) (fun c i => by unfold lw_used; omega)
  have e4 := e 2 0 (fun c i => by unfold lw_used; omega)
  have e5 := e 3 0 (fun c i => by unfold lw_used; omega)
  have e6 := e 6 0 (fun c i => by unfold lw_used; omega)
  have e7 := e 6 1 (fun c i => by unfold lw_used; omega)
  have e8 : m' (0, 0, 0) 12 = m (0, 0, 0) 12 := hs 0 0 0 12 (by unfold lw_used; omega)
  have e9 : m' (0, 0, 0) 13 = m (0, 0, 0) 13 := hs 0 0 0 13 (by unfold lw_used; omega)
  have e10 : m' (5, 0, 0) 1 = m (5, 0, 0) 1 := hs 5 0 0 1 (by unfold lw_used; omega)
  unfold lw_inv
  rw [e1, e2, e3, e4, e5, e6, e7, e8, e9, e10]
  exact lw_I_bq h hB
theorem lw_bq_th (B : ch_B) {i : Nat} (v : Int32) (h : i = 19) : lw_bq B (ch_bw B 0 i v) := by
  subst h
  refine ⟨fun i _ => ch_bw_c (by decide), fun a i ha => ch_bw_c (by omega), fun i hi => ch_bw_k (by omega)⟩
theorem lw_9_wr (m : ch_M) {a j c k : Nat} (v : Int32) (h : a ≠ 9) : ch_ob (ch_wr m (a, j, c) k v) 9 0 = ch_ob m 9 0 := by
  rw [ch_wr_os]
  exact ch_ob_ne (by omega)
/-- a question: its answer in out, and thrown -/
theorem lw_inv_q {T : Nat} {m : ch_M} (h : lw_inv T m) (v t : Int32) : lw_inv T (ch_wr (ch_wr m (10, 0, 1) 0 v) (9, 0, 0) 19 t) := by
  refine lw_inv_same h (lw_same_tr (lw_same_wr m v (by unfold lw_used; omega)) (lw_same_wr _ t (by unfold lw_used; omega))) ?_
  rw [ch_wr_os _ 9 0, ch_ob_os, lw_9_wr _ _ (by omega)]
  exact lw_bq_th _ _ rfl
theorem lw_inv_t {T : Nat} {m : ch_M} (h : lw_inv T m) (t : Int32) : lw_inv T (ch_wr m (9, 0, 0) 19 t) := by
  refine lw_inv_same h (lw_same_wr _ t (by unfold lw_used; omega)) ?_
  rw [ch_wr_os _ 9 0, ch_ob_os]
  exact lw_bq_th _ _ rfl
/-- the past, when a state is kept -/
theorem lw_kn {P : ch_B} {n : Nat} (hn : n < 8) (e : P 0 1 = nI n) : p_kn P = (n + 1) % 8 ∧ p_kB P 0 1 = nI ((n + 1) % 8) := by
  unfold p_kn p_kB
  rw [ch_bw_k (by decide), ch_bw_at, e, nI_1]
  by_cases h : n = 7
  · subst h
    exact ⟨by decide, by decide⟩
  · have h8 : ¬ (8 : Int32) ≤ nI (n + 1) := nI_ge (b := 8) (by omega) (by decide)
    rw [if_neg h8, if_neg h8, nI_clamp (by omega), Nat.mod_eq_of_lt (by omega)]
    exact ⟨rfl, rfl⟩
theorem lw_past_push {T T' : Nat} {K : Nat → ch_B} {P B B' Y : ch_B} (h : lw_past T K P B) (hT : T' < 2 ^ 31) (hl : T ≤ T') (hi : y_inv T Y) (hr : m_rel Y (B 1)) (hp : m_push B B') : lw_past T' (fun k => if k = p_kn P then y_cp Y (K k) else K k) (p_kB P) B' := by
  obtain ⟨n, c, p1, p2, p3, p4, p5, p6⟩ := h
  obtain ⟨q1, q2⟩ := lw_kn p1 p3
  rw [q1]
  have hY : ∀ Z, y_inv T' (y_cp Y Z) := fun Z => y_inv_mono hT (y_inv_cp Z hi) hl
  by_cases h8 : c = 8
  · subst h8
    obtain ⟨u1, u2, u3⟩ := hp.1 p5
    refine ⟨(n + 1) % 8, 8, Nat.mod_lt _ (by decide), Nat.le_refl 8, q2, ?_, u1, fun k hk => ?_⟩
    · unfold p_kB
      rw [ch_bw_at, p4]
      decide
    · by_cases h7 : k = 7
      · have e : lw_rg ((n + 1) % 8) 8 k = (n + 1) % 8 := by unfold lw_rg; omega
        rw [e]
        dsimp only
        rw [if_pos rfl]
        exact ⟨hY _, m_rel_cong (m_rel_cp _ hi hr) (fun i hi => by rw [h7]; exact u3 i hi)⟩
      · have e : lw_rg ((n + 1) % 8) 8 k = lw_rg n 8 (k + 1) := by unfold lw_rg; omega
        have e2 : ¬ lw_rg n 8 (k + 1) = (n + 1) % 8 := by unfold lw_rg; omega
        rw [e]
        dsimp only
        rw [if_neg e2]
        obtain ⟨a, b⟩ := p6 (k + 1) (by omega)
        refine ⟨y_inv_mono hT a hl, m_rel_cong b (fun i hi => ?_)⟩
        rw [u2 (63 * k + i) (by omega), show 63 + (63 * k + i) = 63 * (k + 1) + i by omega]
  · obtain ⟨u1, u2, u3⟩ := hp.2 c (by omega) p5
    refine ⟨(n + 1) % 8, c + 1, Nat.mod_lt _ (by decide), by omega, q2, ?_, u1, fun k hk => ?_⟩
    · unfold p_kB
      rw [ch_bw_at, p4, if_neg (show ¬ (8 : Int32) ≤ nI c from nI_ge (b := 8) (by omega) (by decide)), nI_1]
    · by_cases h7 : k = c
      · have e : lw_rg ((n + 1) % 8) (c + 1) k = (n + 1) % 8 := by unfold lw_rg; omega
        rw [e]
        dsimp only
        rw [if_pos rfl]
        exact ⟨hY _, m_rel_cong (m_rel_cp _ hi hr) (fun i hi => by rw [h7]; exact u3 i hi)⟩
      · have e : lw_rg ((n + 1) % 8) (c + 1) k = lw_rg n c k := by unfold lw_rg; omega
        have e2 : ¬ lw_rg n c k = (n + 1) % 8 := by unfold lw_rg; omega
        rw [e]
        dsimp only
        rw [if_neg e2]
        obtain ⟨a, b⟩ := p6 k (by omega)
        refine ⟨y_inv_mono hT a hl, m_rel_cong b (fun i hi => ?_)⟩
        exact u2 (63 * k + i) (by omega)
theorem lw_I_fr {B B' X W : ch_B} {fp : Int32} (h4 : fp = B 0 14) (hx : m_txt X B) (hw : lw_wr W B) (hf : m_fr B B') : fp = B' 0 14 ∧ m_txt X B' ∧ lw_wr W B' := by
  obtain ⟨x1, x2, x3⟩ := hx
  obtain ⟨w1, w2, w3, w4⟩ := hw
  obtain ⟨f1, f2⟩ := hf
  refine ⟨?_, ⟨x1, ?_, fun k hk => ?_⟩, ⟨w1, ?_, fun i hi => ?_, w4⟩⟩
  · rw [f2 14 (by omega)]; exact h4
  · rw [f2 10 (by omega)]; exact x2
  · rw [f1 7 k (by omega)]; exact x3 k hk
  · rw [f2 8 (by omega)]; exact w2
  · rw [f1 6 i (by omega)]; exact w3 i hi
theorem lw_I_done {T T' : Nat} {Y Y' Z : ch_B} {K : Nat → ch_B} {P R X W B B' : ch_B} {f fp s : Int32} (h : lw_I T Y Z K P R X W B f fp s) (hT : T' < 2 ^ 31) (hl : T ≤ T') (hY : y_inv T' Y') (hB : m_done B B' Y') : lw_I T' Y' Z (fun k => if k = p_kn P then y_cp Y (K k) else K k) (p_kB P) R X W B' f fp s := by
  obtain ⟨⟨h1, h2⟩, ⟨r1, r2, r3⟩, h4, hx, hw, ⟨v1, v2⟩, hp, h9⟩ := h
  obtain ⟨d1, -, d3, d4, d5, d6, d7⟩ := hB
  obtain ⟨c1, c2, c3⟩ := lw_I_fr h4 hx hw d4
  obtain ⟨f1, f2⟩ := d4
  refine ⟨⟨hY, d1⟩, ⟨?_, ?_, ?_⟩, c1, c2, c3, ⟨?_, fun z => ⟨y_inv_mono hT (v2 z).1 hl, m_rel_cong (v2 z).2 (fun i _ => f1 5 i (by omega))⟩⟩, lw_past_push hp hT hl h1 h2 d3, h9⟩
  · rw [d5]; exact r1
  · rw [d6]; exact r2
  · rw [d7]; exact r3
  · rw [f2 6 (by omega)]; exact v1
theorem lw_I_rfd {T : Nat} {Y Z : ch_B} {K : Nat → ch_B} {P R R' X W B B' : ch_B} {f fp s w d : Int32} (h : lw_I T Y Z K P R X W B f fp s) (hB : m_rfd B B' w d) (hR : R' 0 0 = w ∧ R' 0 1 = d ∧ R' 0 2 = 0) : lw_I T Y Z K P R' X W B' f fp s := by
  obtain ⟨⟨h1, h2⟩, -, h4, hx, hw, ⟨v1, v2⟩, ⟨n, c, p1, p2, p3, p4, p5, p6⟩, h9⟩ := h
  obtain ⟨d1, -, ⟨e1, e2, e3⟩, ⟨k1, k2⟩, d4⟩ := hB
  obtain ⟨c1, c2, c3⟩ := lw_I_fr h4 hx hw d4
  obtain ⟨f1, f2⟩ := d4
  refine ⟨⟨h1, m_rel_cong h2 (fun i _ => d1 i)⟩, ⟨hR.1.trans e1.symm, hR.2.1.trans e2.symm, hR.2.2.trans e3.symm⟩, c1, c2, c3, ⟨?_, fun z => ⟨(v2 z).1, m_rel_cong (v2 z).2 (fun i _ => f1 5 i (by omega))⟩⟩, ⟨n, c, p1, p2, p3, p4, k1.trans p5, fun k hk => ⟨(p6 k hk).1, m_rel_cong (p6 k hk).2 (fun i _ => k2 _)⟩⟩, h9⟩
  rw [f2 6 (by omega)]; exact v1
theorem lw_inv_done {T T' : Nat} {M : ch_M} {Y' B' : ch_B} {v : Int32} (h : lw_inv T M) (hT : T' < 2 ^ 31) (hl : T ≤ T') (hY : y_inv T' Y') (hB : m_done (ch_ob M 9 0) B' Y') : lw_inv T' (ch_os (ch_wr (ch_os (p_kM M 0) 1 0 Y') (10, 0, 1) 0 v) 9 0 B') := by
  have h2 := lw_I_done h hT hl hY hB
  have k : ∀ a j, ¬ (a = 9 ∧ j = 0) → ¬ (a = 10 ∧ j = 0) → ¬ (a = 1 ∧ j = 0) → ch_ob (ch_os (ch_wr (ch_os (p_kM M 0) 1 0 Y') (10, 0, 1) 0 v) 9 0 B') a j = ch_ob (p_kM M 0) a j := fun a j a1 a2 a3 => by
    rw [ch_ob_ne a1, ch_wr_os, ch_ob_ne a2, ch_ob_ne a3]
  have k2 : ∀ a j, ¬ (a = 9 ∧ j = 0) → ¬ (a = 10 ∧ j = 0) → ¬ (a = 1 ∧ (j = 0 ∨ 4 ≤ j)) → ¬ (a = 2 ∧ j = 0) → ch_ob (ch_os (ch_wr (ch_os (p_kM M 0) 1 0 Y') (10, 0, 1) 0 v) 9 0 B') a j = ch_ob M a j := fun a j a1 a2 a3 a4 => by
    rw [k a j a1 a2 (by omega)]
    unfold p_kM
    rw [ch_ob_ne (by omega), ch_ob_ne a4]
  have kc : ∀ a j c i, ¬ (a = 9 ∧ j = 0) → ¬ (a = 10 ∧ j = 0) → ¬ (a = 1 ∧ (j = 0 ∨ 4 ≤ j)) → ¬ (a = 2 ∧ j = 0) → ch_os (ch_wr (ch_os (p_kM M 0) 1 0 Y') (10, 0, 1) 0 v) 9 0 B' (a, j, c) i = M (a, j, c) i := fun a j c i a1 a2 a3 a4 => congrFun (congrFun (k2 a j a1 a2 a3 a4) c) i
  have e1 : ch_ob (ch_os (ch_wr (ch_os (p_kM M 0) 1 0 Y') (10, 0, 1) 0 v) 9 0 B') 1 0 = Y' := by rw [ch_ob_ne (by omega), ch_wr_os, ch_ob_ne (by omega), ch_ob_os]
  have e3 : (fun k => ch_ob (ch_os (ch_wr (ch_os (p_kM M 0) 1 0 Y') (10, 0, 1) 0 v) 9 0 B') 1 (4 + k)) = fun k => if k = p_kn (ch_ob M 2 0) then y_cp (ch_ob M 1 0) (ch_ob M 1 (4 + k)) else ch_ob M 1 (4 + k) := by
    funext i
    rw [k 1 (4 + i) (by omega) (by omega) (by omega)]
    unfold p_kM
    by_cases e : i = p_kn (ch_ob M 2 0)
    · rw [if_pos e, ← e, ch_ob_os]
    · rw [if_neg e, ch_ob_ne (by omega), ch_ob_ne (by omega)]
  have e4 : ch_ob (ch_os (ch_wr (ch_os (p_kM M 0) 1 0 Y') (10, 0, 1) 0 v) 9 0 B') 2 0 = p_kB (ch_ob M 2 0) := by
    rw [k 2 0 (by omega) (by omega) (by omega)]
    unfold p_kM
    rw [ch_ob_ne (by omega), ch_ob_os]
  unfold lw_inv
  rw [e1, e3, e4, k2 1 3 (by omega) (by omega) (by omega) (by omega), k2 3 0 (by omega) (by omega) (by omega) (by omega), k2 6 0 (by omega) (by omega) (by omega) (by omega), k2 6 1 (by omega) (by omega) (by omega) (by omega), kc 0 0 0 12 (by omega) (by omega) (by omega) (by omega), kc 0 0 0 13 (by omega) (by omega) (by omega) (by omega), kc 5 0 0 1 (by omega) (by omega) (by omega) (by omega), ch_ob_os]
  exact h2
theorem lw_inv_rfd {T : Nat} {M : ch_M} {B' : ch_B} {w d : Int32} (h : lw_inv T M) (hB : m_rfd (ch_ob M 9 0) B' w d) : lw_inv T (ch_os (r_kp M w d) 9 0 B') := by
  have k : ∀ a j, ¬ (a = 9 ∧ j = 0) → ¬ (a = 3 ∧ j = 0) → ch_ob (ch_os (r_kp M w d) 9 0 B') a j = ch_ob M a j := fun a j a1 a2 => by
    unfold r_kp
    rw [ch_ob_ne a1, ch_ob_ne a2]
  have kc : ∀ a j c i, ¬ (a = 9 ∧ j = 0) → ¬ (a = 3 ∧ j = 0) → ch_os (r_kp M w d) 9 0 B' (a, j, c) i = M (a, j, c) i := fun a j c i a1 a2 => congrFun (congrFun (k a j a1 a2) c) i
  have e3 : (fun k => ch_ob (ch_os (r_kp M w d) 9 0 B') 1 (4 + k)) = fun k => ch_ob M 1 (4 + k) := by
    funext i
    exact k 1 (4 + i) (by omega) (by omega)
  have e5 : ch_ob (ch_os (r_kp M w d) 9 0 B') 3 0 = ch_bw (ch_bw (ch_bw (ch_ob M 3 0) 0 0 w) 0 1 d) 0 2 0 := by
    unfold r_kp
    rw [ch_ob_ne (by omega), ch_ob_os]
  unfold lw_inv
  rw [e3, e5, k 1 0 (by omega) (by omega), k 1 3 (by omega) (by omega), k 2 0 (by omega) (by omega), k 6 0 (by omega) (by omega), k 6 1 (by omega) (by omega), kc 0 0 0 12 (by omega) (by omega), kc 0 0 0 13 (by omega) (by omega), kc 5 0 0 1 (by omega) (by omega), ch_ob_os]
  refine lw_I_rfd h hB ⟨?_, ?_, ch_bw_at _ _ _ _⟩
  · rw [ch_bw_k (by decide), ch_bw_k (by decide), ch_bw_at]
  · rw [ch_bw_k (by decide), ch_bw_at]
theorem ch_rc0 {k b : Nat} {R : Room} (h : k + 40 ≤ R.cells ∧ 6 * k + 240 ≤ R.slots) (hb : b ≤ 40) : k + b ≤ R.cells ∧ 6 * k + 6 * b ≤ R.slots := by
  obtain ⟨h1, h2⟩ := h
  exact ⟨by omega, by omega⟩
theorem ch_rc1 {k a b : Nat} {R : Room} (h : k + 40 ≤ R.cells ∧ 6 * k + 240 ≤ R.slots) (hb : a + b ≤ 40) : k + a + b ≤ R.cells ∧ 6 * (k + a) + 6 * b ≤ R.slots := by
  obtain ⟨h1, h2⟩ := h
  exact ⟨by omega, by omega⟩
