/-! BUILDING THE WORLD: the heap grows cell by cell from the base on, in the order of ch_off -/
abbrev cb_d : Type := (Nat × (Nat → ch_V)) ⊕ (Nat × Nat × (Nat → ch_V))
def cb_c (g : ch_G) (d : cb_d) (a : Nat) (H : Heap) : Prop := match d with
  | .inl (ci, V) => ∃ r : vw_C, ch_cls[ci]? = some r ∧ t_OB a (ch_dC g ci) r.2.2 (ch_dI g ci) H (fun k => ch_tr g (V k))
  | .inr (t, len, V) => H[a]? = some (arrV (ch_cA g t) len (fun k => ch_tr g (V k)))
theorem cb_c_kept {g : ch_G} {d : cb_d} {a : Nat} {H H1 : Heap} (h : cb_c g d a H) (h1 : H1[a]? = H[a]?) : cb_c g d a H1 := by
  match d with
  | .inl (ci, V) =>
    obtain ⟨r, hr, h⟩ := h
    exact ⟨r, hr, h.kept h1⟩
  | .inr (t, len, V) =>
    have h : H[a]? = some (arrV (ch_cA g t) len (fun k => ch_tr g (V k))) := h
    exact (h1.trans h : H1[a]? = some (arrV (ch_cA g t) len (fun k => ch_tr g (V k))))
/-- n cells stand, as D says -/
def cb_H (g : ch_G) (n : Nat) (D : Nat → cb_d) (H : Heap) : Prop := H.size = ch_base g + n ∧ (∀ q, q < ch_base g → H[q]? = (ch_H0 g)[q]?) ∧ ∀ i, i < n → cb_c g (D i) (ch_base g + i) H
theorem cb_H_cong {g : ch_G} {n : Nat} {D D' : Nat → cb_d} {H : Heap} (h : cb_H g n D H) (e : ∀ i, i < n → D' i = D i) : cb_H g n D' H :=
  ⟨h.1, h.2.1, fun i hi => by rw [e i hi]; exact h.2.2 i hi⟩
/-- a cell is pushed -/
theorem cb_H_push {g : ch_G} {n : Nat} {D : Nat → cb_d} {H H1 : Heap} (h : cb_H g n D H) (hz : H1.size = H.size + 1) (ho : ∀ q, q < H.size → H1[q]? = H[q]?) (hc : cb_c g (D n) (ch_base g + n) H1) : cb_H g (n + 1) D H1 := by
  obtain ⟨h1, h2, h3⟩ := h
  refine ⟨by omega, fun q hq => (ho q (by omega)).trans (h2 q hq), fun i hi => ?_⟩
  by_cases e : i = n
  · rw [e]; exact hc
  · exact cb_c_kept (h3 i (by omega)) (ho _ (by omega))
/-- a cell is written -/
theorem cb_H_set {g : ch_G} {n i0 : Nat} {D D' : Nat → cb_d} {H H1 : Heap} (h : cb_H g n D H) (hz : H1.size = H.size) (ho : ∀ q, q ≠ ch_base g + i0 → H1[q]? = H[q]?) (hi0 : i0 < n) (hD : ∀ i, i < n → i ≠ i0 → D' i = D i) (hc : cb_c g (D' i0) (ch_base g + i0) H1) : cb_H g n D' H1 := by
  obtain ⟨h1, h2, h3⟩ := h
  refine ⟨by omega, fun q hq => (ho q (by omega)).trans (h2 q hq), fun i hi => ?_⟩
  by_cases e : i = i0
  · rw [e]; exact hc
  · rw [hD i hi e]
    exact cb_c_kept (h3 i hi) (ho _ (by omega))
/-- from here the frame comes to E, the heap being as P says -/
def cb_J (g : ch_G) (f : ch_MI) (R : Room) (E : ch_En) (pc : Nat) (ls : ch_LT) (st : List ch_V) (P : Heap → Prop) (k : Nat) : Prop :=
  ∀ (p : Program) (e : Env) (s : State) (m : MethodId) (args : Array Value) (below : List Frame) (meth : Method) (c : Code) (H : Heap) (locs : List Loc) (lm : Array Slot),
    ch_FR g f p s m args meth c → ch_lo g ≤ ch_base g → P H → va_S (ch_A g) s.heap H locs → (∀ o ∈ ls, ∀ v, o = some v → ch_ok g v) → (∀ v ∈ st, ch_ok g v) → ch_LR g (ch_ml f) ls lm →
    W p (ch_l g) e R s m args below meth c H locs k (6 * k) (E s args below) (F0 m pc lm (st.map (ch_tr g)))
theorem cb_J_imp {g : ch_G} {f : ch_MI} {R : Room} {E : ch_En} {pc : Nat} {ls : ch_LT} {st : List ch_V} {P P' : Heap → Prop} {k : Nat} (hP : ∀ H, P H → P' H) (kk : cb_J g f R E pc ls st P' k) : cb_J g f R E pc ls st P k :=
  fun p e s m args below meth c H locs lm hF hN hR hS ho hs hL => kk p e s m args below meth c H locs lm hF hN (hP H hR) hS ho hs hL
theorem cb_J_of {g : ch_G} {f : ch_MI} {R : Room} {E : ch_En} {pc : Nat} {ls : ch_LT} {st : List ch_V} {mem : ch_M} {k : Nat} (kk : ch_J g f R E pc ls st mem k) : cb_J g f R E pc ls st (ch_Rp g mem) k :=
  fun p e s m args below meth c H locs lm hF _ hR hS ho hs hL => kk p e s m args below meth c H locs lm hF hR hS ho hs hL
section CB
variable {g : ch_G} {f : ch_MI} {R : Room} {E : ch_En} {pc : Nat} {ls ls' : ch_LT} {rest : List ch_V} {P : Heap → Prop} {k : Nat}
theorem cb_go {pc' : Nat} {st st' : List ch_V}
    (h : ∀ (p : Program) (e : Env) (s : State) (m : MethodId) (args : Array Value) (below : List Frame) (meth : Method) (c : Code) (H : Heap) (locs : List Loc) (lm : Array Slot) (Q : State → Prop),
      ch_FR g f p s m args meth c → (∀ o ∈ ls, ∀ v, o = some v → ch_ok g v) → (∀ v ∈ st, ch_ok g v) → ch_LR g (ch_ml f) ls lm →
      ((∀ v ∈ st', ch_ok g v) → W p (ch_l g) e R s m args below meth c H locs k (6 * k) Q (F0 m pc' lm (st'.map (ch_tr g)))) → W p (ch_l g) e R s m args below meth c H locs k (6 * k) Q (F0 m pc lm (st.map (ch_tr g))))
    (kk : cb_J g f R E pc' ls st' P k) : cb_J g f R E pc ls st P k :=
  fun p e s m args below meth c H locs lm hF hN hR hS ho hs hL => h p e s m args below meth c H locs lm _ hF ho hs hL (fun hs' => kk p e s m args below meth c H locs lm hF hN hR hS ho hs' hL)
theorem cb_iconst {n : Int} {v : Int32} (hd : decode (ch_bc f) pc = .ok (.iconst n, 1)) (hv : Int32.ofInt n = v) (kk : cb_J g f R E (pc + 1) ls (.inl (.int v) :: rest) P k) : cb_J g f R E pc ls rest P k :=
  cb_go (fun _ _ _ _ _ _ _ _ _ _ _ _ hF ho hs hL q => lv_iconst hF.1 hF.2.1 hd hv (q (ch_ok1 hs))) kk
theorem cb_bipush {n : Int} {v : Int32} (hd : decode (ch_bc f) pc = .ok (.bipush n, 2)) (hv : (Int8.ofInt n).toInt32 = v) (kk : cb_J g f R E (pc + 2) ls (.inl (.int v) :: rest) P k) : cb_J g f R E pc ls rest P k :=
  cb_go (fun _ _ _ _ _ _ _ _ _ _ _ _ hF ho hs hL q => lv_bipush hF.1 hF.2.1 hd hv (q (ch_ok1 hs))) kk
theorem cb_sipush {n : Int} {v : Int32} (hd : decode (ch_bc f) pc = .ok (.sipush n, 3)) (hv : (Int16.ofInt n).toInt32 = v) (kk : cb_J g f R E (pc + 3) ls (.inl (.int v) :: rest) P k) : cb_J g f R E pc ls rest P k :=
  cb_go (fun _ _ _ _ _ _ _ _ _ _ _ _ hF ho hs hL q => lv_sipush hF.1 hF.2.1 hd hv (q (ch_ok1 hs))) kk
theorem cb_iload_n {i : Nat} {n : Fin 4} {x : Int32} (hd : decode (ch_bc f) pc = .ok (.iload_n n, 1)) (hi : (n : Nat) = i) (hl : ls[i]? = some (some (.inl (.int x)))) (kk : cb_J g f R E (pc + 1) ls (.inl (.int x) :: rest) P k) : cb_J g f R E pc ls rest P k :=
  cb_go (fun _ _ _ _ _ _ _ _ _ _ _ _ hF ho hs hL q => lv_iload_n hF.1 hF.2.1 hd hi (hL.2.2 _ _ hl) (q (ch_ok1 hs))) kk
theorem cb_aload_n {i : Nat} {n : Fin 4} {a : ch_Ad} (hd : decode (ch_bc f) pc = .ok (.aload_n n, 1)) (hi : (n : Nat) = i) (hl : ls[i]? = some (some (.inr a))) (kk : cb_J g f R E (pc + 1) ls (.inr a :: rest) P k) : cb_J g f R E pc ls rest P k :=
  cb_go (fun _ _ _ _ _ _ _ _ _ _ _ _ hF ho hs hL q => lv_aload_n hF.1 hF.2.1 hd hi (hL.2.2 _ _ hl) (q (ch_ok2 (ho _ (List.mem_of_getElem? hl) _ rfl) hs))) kk
theorem cb_dup {v : ch_V} (hd : decode (ch_bc f) pc = .ok (.dup, 1)) (hc : ch_cat v = 1) (kk : cb_J g f R E (pc + 1) ls (v :: v :: rest) P k) : cb_J g f R E pc ls (v :: rest) P k :=
  cb_go (fun _ _ _ _ _ _ _ _ _ _ _ _ hF ho hs hL q => lv_dup hF.1 hF.2.1 hd ((ch_cat_tr g v).trans hc) (q (ch_ok2 (ch_okh hs) hs))) kk
theorem cb_goto {off : Int} {tgt : Nat} (hd : decode (ch_bc f) pc = .ok (.goto off, 3)) (ht : (pc : Int) + off = (tgt : Int)) (kk : cb_J g f R E tgt ls rest P k) : cb_J g f R E pc ls rest P k :=
  cb_go (fun _ _ _ _ _ _ _ _ _ _ _ _ hF ho hs hL q => lv_goto hF.1 hF.2.1 hd ht (q hs)) kk
theorem cb_icmp_ge {off : Int} {tgt : Nat} {x y : Int32} (hd : decode (ch_bc f) pc = .ok (.if_icmp .ge off, 3)) (ht : (pc : Int) + off = (tgt : Int)) (kt : y ≤ x → cb_J g f R E tgt ls rest P k) (kf : ¬ y ≤ x → cb_J g f R E (pc + 3) ls rest P k) : cb_J g f R E pc ls (.inl (.int y) :: .inl (.int x) :: rest) P k :=
  fun p e s m args below meth c H locs lm hF hN hR hS ho hs hL => lv_icmp_ge hF.1 hF.2.1 hd ht (fun z => kt z p e s m args below meth c H locs lm hF hN hR hS ho (ch_ok0 (ch_ok0 hs)) hL) (fun z => kf z p e s m args below meth c H locs lm hF hN hR hS ho (ch_ok0 (ch_ok0 hs)) hL)
theorem cb_istore_n {i : Nat} {n : Fin 4} {x : Int32} (hd : decode (ch_bc f) pc = .ok (.istore_n n, 1)) (hi : (n : Nat) = i) (hn : i < ch_ml f) (hl : ch_set ls i (.inl (.int x)) = ls') (kk : cb_J g f R E (pc + 1) ls' rest P k) : cb_J g f R E pc ls (.inl (.int x) :: rest) P k := by
  subst hl
  exact fun p e s m args below meth c H locs lm hF hN hR hS ho hs hL => lv_istore_n hF.1 hF.2.1 hd hi (ch_prs_has hL) hn rfl (fun lm' hL' => kk p e s m args below meth c H locs lm' hF hN hR hS (ch_set_ok ho ch_okl) (ch_ok0 hs) (ch_LR_set hL'))
theorem cb_istore {i : Nat} {x : Int32} (hd : decode (ch_bc f) pc = .ok (.istore i, 2)) (hn : i < ch_ml f) (hl : ch_set ls i (.inl (.int x)) = ls') (kk : cb_J g f R E (pc + 2) ls' rest P k) : cb_J g f R E pc ls (.inl (.int x) :: rest) P k := by
  subst hl
  exact fun p e s m args below meth c H locs lm hF hN hR hS ho hs hL => lv_istore hF.1 hF.2.1 hd (ch_prs_has hL) hn rfl (fun lm' hL' => kk p e s m args below meth c H locs lm' hF hN hR hS (ch_set_ok ho ch_okl) (ch_ok0 hs) (ch_LR_set hL'))
theorem cb_astore_n {i : Nat} {n : Fin 4} {a : ch_Ad} (hd : decode (ch_bc f) pc = .ok (.astore_n n, 1)) (hi : (n : Nat) = i) (hn : i < ch_ml f) (hl : ch_set ls i (.inr a) = ls') (kk : cb_J g f R E (pc + 1) ls' rest P k) : cb_J g f R E pc ls (.inr a :: rest) P k := by
  subst hl
  exact fun p e s m args below meth c H locs lm hF hN hR hS ho hs hL => lv_astore_n hF.1 hF.2.1 hd hi (ch_prs_has hL) hn rfl (fun lm' hL' => kk p e s m args below meth c H locs lm' hF hN hR hS (ch_set_ok ho (ch_okh hs)) (ch_ok0 hs) (ch_LR_set hL'))
theorem cb_astore {i : Nat} {a : ch_Ad} (hd : decode (ch_bc f) pc = .ok (.astore i, 2)) (hn : i < ch_ml f) (hl : ch_set ls i (.inr a) = ls') (kk : cb_J g f R E (pc + 2) ls' rest P k) : cb_J g f R E pc ls (.inr a :: rest) P k := by
  subst hl
  exact fun p e s m args below meth c H locs lm hF hN hR hS ho hs hL => lv_astore hF.1 hF.2.1 hd (ch_prs_has hL) hn rfl (fun lm' hL' => kk p e s m args below meth c H locs lm' hF hN hR hS (ch_set_ok ho (ch_okh hs)) (ch_ok0 hs) (ch_LR_set hL'))
theorem cb_iinc {i : Nat} {n : Int} {x v : Int32} (hd : decode (ch_bc f) pc = .ok (.iinc i n, 3)) (hx : ls[i]? = some (some (.inl (.int x)))) (hv : x + Int32.ofInt n = v) (hn : i < ch_ml f) (hl : ch_set ls i (.inl (.int v)) = ls') (kk : cb_J g f R E (pc + 3) ls' rest P k) : cb_J g f R E pc ls rest P k := by
  subst hl
  intro p e s m args below meth c H locs lm hF hN hR hS ho hs hL
  obtain ⟨q, hq⟩ := List.getElem?_of_mem (ch_prs_mem (g := g) hx)
  exact lv_iinc hF.1 hF.2.1 hd (ch_prs_has hL) hq hv hn rfl (fun lm' hL' => kk p e s m args below meth c H locs lm' hF hN hR hS (ch_set_ok ho ch_okl) hs (ch_LR_set (v := .inl (.int v)) hL'))
theorem cb_widen {k' : Nat} (hk : k ≤ k') (kk : cb_J g f R E pc ls rest P k') : cb_J g f R E pc ls rest P k :=
  fun p e s m args below meth c H locs lm hF hN hR hS ho hs hL => W.widen hk (by omega) (kk p e s m args below meth c H locs lm hF hN hR hS ho hs hL)
end CB
