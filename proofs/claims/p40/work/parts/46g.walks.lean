/-! the builder's constructor; toString -/
def st_W (g : ch_G) (K : Heap) : Prop := ch_lo g ≤ K.size ∧ ch_base g ≤ K.size ∧ ∀ q, ch_fx g q → q < K.size ∧ K[q]? = (ch_H0 g)[q]?
theorem st_W_fx {g : ch_G} {K : Heap} {n : Nat} {D : Nat → cb_d} (h : st_W g K) : ∀ H, st_H g K n D H → ∀ q, ch_fx g q → H[q]? = (ch_H0 g)[q]? := fun H hH q hq => (hH.2.1 q (h.2.2 q hq).1).trans (h.2.2 q hq).2
theorem st_W_b {g : ch_G} {K : Heap} {n : Nat} {D : Nat → cb_d} (h : st_W g K) : ∀ H, st_H g K n D H → ch_base g ≤ H.size := fun H hH => by
  rw [hH.1]
  exact Nat.le_trans h.2.1 (Nat.le_add_right _ _)
theorem st_H_cong {g : ch_G} {K : Heap} {n : Nat} {D D' : Nat → cb_d} {H : Heap} (h : st_H g K n D H) (e : ∀ i, i < n → D' i = D i) : st_H g K n D' H := ⟨h.1, h.2.1, fun i hi => by rw [e i hi]; exact h.2.2 i hi⟩
def bu_V0 : Nat → ch_V := fun i => if i = 0 then .inl .null else .inl (.int 0)
def bu_V1 (c : Nat) : Nat → ch_V := fun i => if i = 0 then .inr (c, 0, 1) else .inl (.int 0)
def bu_D1 : Nat → cb_d := fun i => if i = 1 then .inr (5, 16, fun _ => .inl (.int 0)) else .inl (9, bu_V1 9)
section BUI
variable {g : ch_G} {K : Heap}
theorem k_a_init (hW : st_W g K) (h0 : ch_adr g (9, 0, 0) = K.size) (h1 : ch_adr g (9, 0, 1) = K.size + 1) (hx0 : ch_ok g (.inr (9, 0, 0))) (hx1 : ch_ok g (.inr (9, 0, 1))) : gx_C g n_a_init [.inr (9, 0, 0), .inl (.int 16)] (st_H g K 1 (fun _ => .inl (9, bu_V0))) none (st_H g K 2 bu_D1) := by
  refine gx_enter nf_a_init rfl (by intro v hv; simp only [List.mem_cons, List.not_mem_nil, or_false] at hv; rcases hv with rfl | rfl <;> rfl) (Nat.le_of_ble_eq_true rfl) ?_
  refine cb_aload_n (i := 0) e_a_init_0 rfl rfl ?_
  refine cb_objInit e_a_init_1 no_a_3 oi_i oi_c ⟨Nat.le_of_ble_eq_true rfl, Nat.le_of_ble_eq_true rfl⟩ (by decide) ?_
  refine gx_getsC e_a_init_4 fl_a_18 (st_W_fx hW) ?_
  refine gx_if_eq (tgt := 25) e_a_init_7 (by decide) (fun z => absurd z (by decide)) (fun _ => ?_)
  refine cb_aload_n (i := 0) e_a_init_10 rfl rfl ?_
  refine cb_iload_n (i := 1) e_a_init_11 rfl rfl ?_
  refine st_newa (len := 16) (k' := 3) (a := (9, 0, 1)) e_a_init_12 na_byte rfl (by decide) h1 hx1 ⟨by decide, by decide⟩ ⟨Nat.le_of_ble_eq_true rfl, Nat.le_of_ble_eq_true rfl⟩ ?_
  refine st_put (v := .inr (9, 0, 1)) (a := (9, 0, 0)) (i0 := 0) (V := bu_V0) (kf := 0) (ty := .array .byte) e_a_init_14 ch_Cl9 (by decide) np_a_15 rfl (by decide +kernel) rfl rfl h0 (by decide) rfl hW.1 ?_
  refine cb_aload_n (i := 0) e_a_init_17 rfl rfl ?_
  refine cb_iconst (v := 0) e_a_init_18 (by decide) ?_
  refine st_put (v := .inl (.int 0)) (a := (9, 0, 0)) (i0 := 0) (V := fun q => if q = 0 then .inr (9, 0, 1) else bu_V0 q) (kf := 1) (ty := .byte) e_a_init_19 ch_Cl9 (by decide) np_a_22 rfl (by decide +kernel) rfl rfl h0 (by decide) rfl hW.1 ?_
  refine cb_goto (tgt := 38) e_a_init_22 (by decide) ?_
  refine gx_vret e_a_init_38 rfl (Nat.le_of_ble_eq_true rfl) (fun H hH => st_H_cong hH (fun i hi => ?_))
  match i, hi with
  | 0, _ =>
    show (Sum.inl (9, bu_V1 9) : cb_d) = Sum.inl (9, fun q => if q = 1 then .inl (.int 0) else if q = 0 then .inr (9, 0, 1) else bu_V0 q)
    congr 2
    funext q
    unfold bu_V1 bu_V0
    by_cases e0 : q = 0
    · subst e0
      rfl
    · by_cases e1 : q = 1
      · subst e1
        rfl
      · rw [if_neg e0, if_neg e1, if_neg e0, if_neg e0]
  | 1, _ => rfl
theorem k_b_init (hW : st_W g K) (h0 : ch_adr g (9, 0, 0) = K.size) (h1 : ch_adr g (9, 0, 1) = K.size + 1) (hx0 : ch_ok g (.inr (9, 0, 0))) (hx1 : ch_ok g (.inr (9, 0, 1))) : gx_C g n_b_init [.inr (9, 0, 0)] (st_H g K 1 (fun _ => .inl (9, bu_V0))) none (st_H g K 2 bu_D1) := by
  refine gx_enter nf_b_init rfl (by intro v hv; simp only [List.mem_cons, List.not_mem_nil, or_false] at hv; subst hv; rfl) (Nat.le_of_ble_eq_true rfl) ?_
  refine cb_aload_n (i := 0) e_b_init_0 rfl rfl ?_
  refine cb_bipush (v := 16) e_b_init_1 (by decide) ?_
  refine gx_callI (f' := n_a_init) (as := [.inl (.int 16)]) e_b_init_3 nk_b_1 ni_a_init rfl rfl rfl rfl ⟨Nat.le_of_ble_eq_true rfl, Nat.le_of_ble_eq_true rfl⟩ (by decide) ⟨Nat.le_of_ble_eq_true rfl, Nat.le_of_ble_eq_true rfl⟩ (st_W_b hW) (k_a_init hW h0 h1 hx0 hx1) ?_
  exact gx_vret e_b_init_6 rfl (Nat.le_of_ble_eq_true rfl) (fun H hH => hH)
end BUI
section BUT
variable {g : ch_G} {P : Heap → Prop} {V : Nat → ch_V}
theorem k_a_getValue (hB : ∀ H, P H → cb_c g (.inl (9, V)) (ch_adr g (9, 0, 0)) H) (hV : V 0 = .inr (9, 0, 1)) (hx1 : ch_ok g (.inr (9, 0, 1))) : gx_C g m_a_getValue [.inr (9, 0, 0)] P (some (.inr (9, 0, 1))) P := by
  refine gx_enter mf_a_getValue rfl (by intro v hv; simp only [List.mem_cons, List.not_mem_nil, or_false] at hv; subst hv; rfl) (Nat.le_of_ble_eq_true rfl) ?_
  refine cb_aload_n (i := 0) d_a_getValue_0 rfl rfl ?_
  refine gx_get d_a_getValue_1 fl_a_15 hB hV hx1 ?_
  exact gx_aret d_a_getValue_4 rfl (Or.inr ⟨_, rfl⟩) (Nat.le_of_ble_eq_true rfl) (fun H hH => hH)
theorem k_a_isLatin1 (hB : ∀ H, P H → cb_c g (.inl (9, V)) (ch_adr g (9, 0, 0)) H) (hfx : ∀ H, P H → ∀ q, ch_fx g q → H[q]? = (ch_H0 g)[q]?) (hV : V 1 = .inl (.int 0)) : gx_C g m_a_isLatin1 [.inr (9, 0, 0)] P (some (.inl (.int 1))) P := by
  refine gx_enter mf_a_isLatin1 rfl (by intro v hv; simp only [List.mem_cons, List.not_mem_nil, or_false] at hv; subst hv; rfl) (Nat.le_of_ble_eq_true rfl) ?_
  refine gx_getsC d_a_isLatin1_0 fl_a_18 hfx ?_
  refine gx_if_eq (tgt := 17) d_a_isLatin1_3 (by decide) (fun z => absurd z (by decide)) (fun _ => ?_)
  refine cb_aload_n (i := 0) d_a_isLatin1_6 rfl rfl ?_
  refine gx_get d_a_isLatin1_7 fl_a_22 hB hV ch_okl ?_
  refine gx_if_ne (tgt := 17) d_a_isLatin1_10 (by decide) (fun z => absurd rfl z) (fun _ => ?_)
  refine cb_iconst (v := 1) d_a_isLatin1_13 (by decide) ?_
  refine cb_goto (tgt := 18) d_a_isLatin1_14 (by decide) ?_
  exact gx_iret (ty := .boolean) d_a_isLatin1_18 rfl rfl (Nat.le_of_ble_eq_true rfl) (fun H hH => hH)
theorem k_a_length {x : Int32} (hB : ∀ H, P H → cb_c g (.inl (9, V)) (ch_adr g (9, 0, 0)) H) (hV : V 3 = .inl (.int x)) : gx_C g m_a_length [.inr (9, 0, 0)] P (some (.inl (.int x))) P := by
  refine gx_enter mf_a_length rfl (by intro v hv; simp only [List.mem_cons, List.not_mem_nil, or_false] at hv; subst hv; rfl) (Nat.le_of_ble_eq_true rfl) ?_
  refine cb_aload_n (i := 0) d_a_length_0 rfl rfl ?_
  refine gx_get d_a_length_1 fl_a_79 hB hV ch_okl ?_
  exact gx_iret (ty := .int) d_a_length_4 rfl rfl (Nat.le_of_ble_eq_true rfl) (fun H hH => hH)
theorem k_b_length {x : Int32} (hB : ∀ H, P H → cb_c g (.inl (9, V)) (ch_adr g (9, 0, 0)) H) (hb : ∀ H, P H → ch_base g ≤ H.size) (hV : V 3 = .inl (.int x)) : gx_C g m_b_length [.inr (9, 0, 0)] P (some (.inl (.int x))) P := by
  refine gx_enter mf_b_length rfl (by intro v hv; simp only [List.mem_cons, List.not_mem_nil, or_false] at hv; subst hv; rfl) (Nat.le_of_ble_eq_true rfl) ?_
  refine cb_aload_n (i := 0) d_b_length_0 rfl rfl ?_
  refine gx_callSU (f' := m_a_length) (C := "java/lang/StringBuilder") (v := some (.inl (.int x))) d_b_length_1 nk_b_343 mi_a_length nl_same sp_b (by decide) rfl rfl hB ⟨Nat.le_of_ble_eq_true rfl, Nat.le_of_ble_eq_true rfl⟩ (by decide) ⟨Nat.le_of_ble_eq_true rfl, Nat.le_of_ble_eq_true rfl⟩ hb (k_a_length hB hV) (fun w z => by cases z; exact ch_okl) ?_
  exact gx_iret (ty := .int) d_b_length_4 rfl rfl (Nat.le_of_ble_eq_true rfl) (fun H hH => hH)
theorem k_g_checkLength {n : Nat} (hn : n < 2 ^ 31) : gx_C g m_g_checkLength [.inl (.int 0), .inl (.int (nI n))] P none P := by
  refine gx_enter mf_g_checkLength rfl (by intro v hv; simp only [List.mem_cons, List.not_mem_nil, or_false] at hv; rcases hv with rfl | rfl <;> rfl) (Nat.le_of_ble_eq_true rfl) ?_
  refine cb_iload_n (i := 1) d_g_checkLength_0 rfl rfl ?_
  refine cb_iload_n (i := 0) d_g_checkLength_1 rfl rfl ?_
  refine cb_icmp_ge (tgt := 37) d_g_checkLength_2 (by decide) (fun _ => ?_) (fun z => absurd (nI_pos' hn) z)
  exact gx_vret d_g_checkLength_37 rfl (Nat.le_of_ble_eq_true rfl) (fun H hH => hH)
end BUT
def q_D (D : Nat → cb_d) (n : Nat) (B : Nat → Int32) : Nat → cb_d := fun i => if i = 1 then .inr (5, n, fun q => .inl (.int (va_cpy B (fun _ => 0) 0 0 n q))) else D i
section BUS
variable {g : ch_G} {K : Heap} {D : Nat → cb_d} {n : Nat} {B : Nat → Int32} {V : Nat → ch_V}
theorem k_g_copyOfRangeByte (hW : st_W g K) (hn : n < 16) (hB : K[ch_adr g (9, 0, 1)]? = some (vp_cell (ch_cA g 5) (16, .inl B))) (hf : sb_Fit B) (h1 : ch_adr g (10, 0, 1) = K.size + 1) (hx1 : ch_ok g (.inr (10, 0, 1))) : gx_C g n_g_copyOfRangeByte [.inr (9, 0, 1), .inl (.int 0), .inl (.int (nI n))] (st_H g K 1 D) (some (.inr (10, 0, 1))) (st_H g K 2 (q_D D n B)) := by
  have hs : (nI n - (0 : Int32)) = nI n := pk_sub (a := n) (b := 0) (by omega)
  have hc : (nI n).toNatClampNeg = n := nI_clamp (by omega)
  refine gx_enter nf_g_copyOfRangeByte rfl (by intro v hv; simp only [List.mem_cons, List.not_mem_nil, or_false] at hv; rcases hv with rfl | rfl | rfl <;> rfl) (Nat.le_of_ble_eq_true rfl) ?_
  refine cb_iload_n (i := 1) e_g_copyOfRangeByte_0 rfl rfl ?_
  refine cb_iload_n (i := 2) e_g_copyOfRangeByte_1 rfl rfl ?_
  refine gx_callS (f' := m_g_checkLength) (as := [.inl (.int 0), .inl (.int (nI n))]) (v := none) e_g_copyOfRangeByte_2 nk_g_343 ms_g_checkLength rfl rfl ⟨Nat.le_of_ble_eq_true rfl, Nat.le_of_ble_eq_true rfl⟩ (by decide) ⟨Nat.le_of_ble_eq_true rfl, Nat.le_of_ble_eq_true rfl⟩ (st_W_b hW) (k_g_checkLength (by omega)) (fun w z => by cases z) ?_
  refine cb_iload_n (i := 2) e_g_copyOfRangeByte_5 rfl rfl ?_
  refine cb_iload_n (i := 1) e_g_copyOfRangeByte_6 rfl rfl ?_
  refine gx_isub e_g_copyOfRangeByte_7 ?_
  rw [hs]
  refine cb_istore_n (i := 3) (ls' := [some (.inr (9, 0, 1)), some (.inl (.int 0)), some (.inl (.int (nI n))), some (.inl (.int (nI n))), none]) e_g_copyOfRangeByte_8 rfl (Nat.le_of_ble_eq_true rfl) rfl ?_
  refine cb_iload_n (i := 3) e_g_copyOfRangeByte_9 rfl rfl ?_
  refine st_newa (len := n) (k' := 3) (a := (10, 0, 1)) e_g_copyOfRangeByte_10 na_byte rfl (by omega) h1 hx1 ⟨by decide, by show 6 * (0 + 0) + n ≤ 6 * 3; omega⟩ ⟨Nat.le_of_ble_eq_true rfl, Nat.le_of_ble_eq_true rfl⟩ ?_
  refine cb_astore (i := 4) (ls' := [some (.inr (9, 0, 1)), some (.inl (.int 0)), some (.inl (.int (nI n))), some (.inl (.int (nI n))), some (.inr (10, 0, 1))]) e_g_copyOfRangeByte_12 (Nat.le_of_ble_eq_true rfl) rfl ?_
  refine cb_aload_n (i := 0) e_g_copyOfRangeByte_14 rfl rfl ?_
  refine cb_iload_n (i := 1) e_g_copyOfRangeByte_15 rfl rfl ?_
  refine gx_aload e_g_copyOfRangeByte_16 rfl ?_
  refine cb_iconst (v := 0) e_g_copyOfRangeByte_18 (by decide) ?_
  refine cb_aload_n (i := 0) e_g_copyOfRangeByte_19 rfl rfl ?_
  refine gx_alen (v := 16) (t := 5) (len := 16) (F := fun i => .int (B i)) e_g_copyOfRangeByte_20 (by decide) (fun H hH => (hH.2.1 _ (Array.getElem?_eq_some_iff.mp hB).1).trans hB) rfl ?_
  refine cb_iload_n (i := 1) e_g_copyOfRangeByte_21 rfl rfl ?_
  refine gx_isub e_g_copyOfRangeByte_22 ?_
  refine cb_iload_n (i := 3) e_g_copyOfRangeByte_23 rfl rfl ?_
  refine gx_min e_g_copyOfRangeByte_24 nk_min ⟨Nat.le_of_ble_eq_true rfl, Nat.le_of_ble_eq_true rfl⟩ ⟨Nat.le_of_ble_eq_true rfl, Nat.le_of_ble_eq_true rfl⟩ (by decide) ?_
  have hm : (if nI n < (16 - 0 : Int32) then nI n else (16 - 0 : Int32)) = nI n := if_pos (nI_lt (a := n) (b := 16) hn (by decide))
  rw [hm]
  refine st_copy (i0 := 1) (n1 := 16) (n2 := n) (F := fun _ => 0) (B := B) (a := (10, 0, 1)) (b := (9, 0, 1)) e_g_copyOfRangeByte_27 nk_copy hB h1 (by decide) rfl hW.1 ⟨Nat.le_of_ble_eq_true rfl, Nat.le_of_ble_eq_true rfl⟩ (by decide) (by decide) (by decide) (nI_pos (by omega)) (by rw [hc, sb_cl0]; omega) (by rw [hc, sb_cl0]; omega) hf ?_
  refine gx_aload e_g_copyOfRangeByte_30 rfl ?_
  refine gx_aret e_g_copyOfRangeByte_32 rfl (Or.inr ⟨_, rfl⟩) (Nat.le_of_ble_eq_true rfl) (fun H hH => st_H_cong hH (fun i hi => ?_))
  rw [hc, sb_cl0]
  unfold q_D
  by_cases e : i = 1
  · rw [if_pos e, if_pos e]
  · rw [if_neg e, if_neg e, if_neg e]
theorem k_g_copyOfRange (hW : st_W g K) (hn : n < 16) (hB : K[ch_adr g (9, 0, 1)]? = some (vp_cell (ch_cA g 5) (16, .inl B))) (hf : sb_Fit B) (h1 : ch_adr g (10, 0, 1) = K.size + 1) (hx1 : ch_ok g (.inr (10, 0, 1))) : gx_C g n_g_copyOfRange [.inr (9, 0, 1), .inl (.int 0), .inl (.int (nI n))] (st_H g K 1 D) (some (.inr (10, 0, 1))) (st_H g K 2 (q_D D n B)) := by
  refine gx_enter nf_g_copyOfRange rfl (by intro v hv; simp only [List.mem_cons, List.not_mem_nil, or_false] at hv; rcases hv with rfl | rfl | rfl <;> rfl) (Nat.le_of_ble_eq_true rfl) ?_
  refine cb_iload_n (i := 1) e_g_copyOfRange_0 rfl rfl ?_
  refine gx_if_ne (tgt := 10) e_g_copyOfRange_1 (by decide) (fun z => absurd rfl z) (fun _ => ?_)
  refine cb_iload_n (i := 2) e_g_copyOfRange_4 rfl rfl ?_
  refine cb_aload_n (i := 0) e_g_copyOfRange_5 rfl rfl ?_
  refine gx_alen (v := 16) (t := 5) (len := 16) (F := fun i => .int (B i)) e_g_copyOfRange_6 (by decide) (fun H hH => (hH.2.1 _ (Array.getElem?_eq_some_iff.mp hB).1).trans hB) rfl ?_
  refine gx_icmp_eq (tgt := 17) e_g_copyOfRange_7 (by decide) (fun z => absurd ((nI_eq (a := n) (b := 16) (by omega) (by decide)).mp z) (by omega)) (fun _ => ?_)
  refine cb_aload_n (i := 0) e_g_copyOfRange_10 rfl rfl ?_
  refine cb_iload_n (i := 1) e_g_copyOfRange_11 rfl rfl ?_
  refine cb_iload_n (i := 2) e_g_copyOfRange_12 rfl rfl ?_
  refine gx_callS (f' := n_g_copyOfRangeByte) (as := [.inr (9, 0, 1), .inl (.int 0), .inl (.int (nI n))]) (v := some (.inr (10, 0, 1))) e_g_copyOfRange_13 nk_g_339 ns_g_copyOfRangeByte rfl rfl ⟨Nat.le_of_ble_eq_true rfl, Nat.le_of_ble_eq_true rfl⟩ (by decide) ⟨Nat.le_of_ble_eq_true rfl, Nat.le_of_ble_eq_true rfl⟩ (st_W_b hW) (k_g_copyOfRangeByte hW hn hB hf h1 hx1) (fun w z => by cases z; exact hx1) ?_
  exact gx_aret e_g_copyOfRange_16 rfl (Or.inr ⟨_, rfl⟩) (Nat.le_of_ble_eq_true rfl) (fun H hH => hH)
/-- the text that is made -/
def q_T (n : Nat) (B : Nat → Int32) : Nat → cb_d := q_D (fun _ => .inl (10, bu_V1 10)) n B
theorem k_q_initA (hW : st_W g K) (hn : n < 16) (hc : cb_c g (.inl (9, V)) (ch_adr g (9, 0, 0)) K) (hV0 : V 0 = .inr (9, 0, 1)) (hV1 : V 1 = .inl (.int 0)) (hV3 : V 3 = .inl (.int (nI n))) (hB : K[ch_adr g (9, 0, 1)]? = some (vp_cell (ch_cA g 5) (16, .inl B))) (hf : sb_Fit B) (h0 : ch_adr g (10, 0, 0) = K.size) (h1 : ch_adr g (10, 0, 1) = K.size + 1) (hx9 : ch_ok g (.inr (9, 0, 1))) (hx1 : ch_ok g (.inr (10, 0, 1))) : gx_C g n_q_initA [.inr (10, 0, 0), .inr (9, 0, 0), .inl .null] (st_H g K 1 (fun _ => .inl (10, bu_V0))) none (st_H g K 2 (q_T n B)) := by
  have hb : ch_adr g (9, 0, 0) < K.size := by
    obtain ⟨r, hr, cell, q1, -⟩ := hc
    exact (Array.getElem?_eq_some_iff.mp q1).1
  have hcK : ∀ {m : Nat} {D : Nat → cb_d} (H : Heap), st_H g K m D H → cb_c g (.inl (9, V)) (ch_adr g (9, 0, 0)) H := fun H hH => cb_c_kept hc (hH.2.1 _ hb)
  refine gx_enter nf_q_initA rfl (by intro v hv; simp only [List.mem_cons, List.not_mem_nil, or_false] at hv; rcases hv with rfl | rfl | rfl <;> rfl) (Nat.le_of_ble_eq_true rfl) ?_
  refine cb_aload_n (i := 0) e_q_initA_0 rfl rfl ?_
  refine cb_objInit e_q_initA_1 no_q_1 oi_i oi_c ⟨Nat.le_of_ble_eq_true rfl, Nat.le_of_ble_eq_true rfl⟩ (by decide) ?_
  refine cb_aload_n (i := 1) e_q_initA_4 rfl rfl ?_
  refine gx_callC (f' := m_a_getValue) (C := "java/lang/StringBuilder") (v := some (.inr (9, 0, 1))) e_q_initA_5 nk_q_552 mi_a_getValue (bu_selW nl_val) rfl rfl hcK ⟨Nat.le_of_ble_eq_true rfl, Nat.le_of_ble_eq_true rfl⟩ (by decide) ⟨Nat.le_of_ble_eq_true rfl, Nat.le_of_ble_eq_true rfl⟩ (st_W_b hW) (k_a_getValue hcK hV0 hx9) (fun w z => by cases z; exact hx9) ?_
  refine cb_astore_n (i := 3) (ls' := [some (.inr (10, 0, 0)), some (.inr (9, 0, 0)), some (.inl .null), some (.inr (9, 0, 1)), none]) e_q_initA_8 rfl (Nat.le_of_ble_eq_true rfl) rfl ?_
  refine cb_aload_n (i := 1) e_q_initA_9 rfl rfl ?_
  refine gx_callU (f' := m_b_length) (x := ⟨"java/lang/AbstractStringBuilder", "length", "()I"⟩) (C := "java/lang/StringBuilder") (v := some (.inl (.int (nI n)))) e_q_initA_10 mf_b_length nl_len nl_same mi_a_length nl_sel mi_b_length mf_a_length.1 ⟨by decide, by decide⟩ (by decide +kernel) rfl rfl hcK ⟨Nat.le_of_ble_eq_true rfl, Nat.le_of_ble_eq_true rfl⟩ (by decide) ⟨Nat.le_of_ble_eq_true rfl, Nat.le_of_ble_eq_true rfl⟩ (st_W_b hW) (k_b_length hcK (st_W_b hW) hV3) (fun w z => by cases z; exact ch_okl) ?_
  refine cb_istore (i := 4) (ls' := [some (.inr (10, 0, 0)), some (.inr (9, 0, 0)), some (.inl .null), some (.inr (9, 0, 1)), some (.inl (.int (nI n)))]) e_q_initA_13 (Nat.le_of_ble_eq_true rfl) rfl ?_
  refine cb_aload_n (i := 1) e_q_initA_15 rfl rfl ?_
  refine gx_callC (f' := m_a_isLatin1) (C := "java/lang/StringBuilder") (v := some (.inl (.int 1))) e_q_initA_16 nk_q_1047 mi_a_isLatin1 (bu_selW bu_latW) rfl rfl hcK ⟨Nat.le_of_ble_eq_true rfl, Nat.le_of_ble_eq_true rfl⟩ (by decide) ⟨Nat.le_of_ble_eq_true rfl, Nat.le_of_ble_eq_true rfl⟩ (st_W_b hW) (k_a_isLatin1 hcK (st_W_fx hW) hV1) (fun w z => by cases z; exact ch_okl) ?_
  refine gx_if_eq (tgt := 41) e_q_initA_19 (by decide) (fun z => absurd z (by decide)) (fun _ => ?_)
  refine cb_aload_n (i := 0) e_q_initA_22 rfl rfl ?_
  refine cb_iconst (v := 0) e_q_initA_23 (by decide) ?_
  refine st_putF (v := .inl (.int 0)) (a := (10, 0, 0)) (i0 := 0) (V := bu_V0) (kf := 1) (ty := .byte) e_q_initA_24 ch_Cl10 (by decide) rfl np_q_15 rfl rfl rfl (by decide +kernel) rfl rfl h0 (by decide) rfl hW.1 ?_
  refine cb_aload_n (i := 0) e_q_initA_27 rfl rfl ?_
  refine cb_aload_n (i := 3) e_q_initA_28 rfl rfl ?_
  refine cb_iconst (v := 0) e_q_initA_29 (by decide) ?_
  refine gx_iload e_q_initA_30 rfl ?_
  refine gx_callS (f' := n_g_copyOfRange) (as := [.inr (9, 0, 1), .inl (.int 0), .inl (.int (nI n))]) (v := some (.inr (10, 0, 1))) e_q_initA_32 nk_q_54 ns_g_copyOfRange rfl rfl ⟨Nat.le_of_ble_eq_true rfl, Nat.le_of_ble_eq_true rfl⟩ (by decide) ⟨Nat.le_of_ble_eq_true rfl, Nat.le_of_ble_eq_true rfl⟩ (st_W_b hW) (k_g_copyOfRange hW hn hB hf h1 hx1) (fun w z => by cases z; exact hx1) ?_
  refine st_putF (v := .inr (10, 0, 1)) (a := (10, 0, 0)) (i0 := 0) (V := fun q => if q = 1 then .inl (.int 0) else bu_V0 q) (kf := 0) (ty := .array .byte) e_q_initA_35 ch_Cl10 (by decide) rfl np_q_9 rfl rfl rfl (by decide +kernel) rfl rfl h0 (by decide) rfl hW.1 ?_
  refine cb_goto (tgt := 97) e_q_initA_38 (by decide) ?_
  refine gx_vret e_q_initA_97 rfl (Nat.le_of_ble_eq_true rfl) (fun H hH => st_H_cong hH (fun i hi => ?_))
  match i, hi with
  | 0, _ =>
    show (Sum.inl (10, bu_V1 10) : cb_d) = Sum.inl (10, fun q => if q = 0 then .inr (10, 0, 1) else if q = 1 then .inl (.int 0) else bu_V0 q)
    congr 2
    funext q
    unfold bu_V1 bu_V0
    by_cases e0 : q = 0
    · rw [if_pos e0, if_pos e0]
    · by_cases e1 : q = 1
      · rw [if_neg e0, if_neg e0, if_pos e1]
      · rw [if_neg e0, if_neg e0, if_neg e1, if_neg e0]
  | 1, _ => rfl
theorem k_q_initB (hW : st_W g K) (hn : n < 16) (hc : cb_c g (.inl (9, V)) (ch_adr g (9, 0, 0)) K) (hV0 : V 0 = .inr (9, 0, 1)) (hV1 : V 1 = .inl (.int 0)) (hV3 : V 3 = .inl (.int (nI n))) (hB : K[ch_adr g (9, 0, 1)]? = some (vp_cell (ch_cA g 5) (16, .inl B))) (hf : sb_Fit B) (h0 : ch_adr g (10, 0, 0) = K.size) (h1 : ch_adr g (10, 0, 1) = K.size + 1) (hx9 : ch_ok g (.inr (9, 0, 1))) (hx1 : ch_ok g (.inr (10, 0, 1))) : gx_C g n_q_initB [.inr (10, 0, 0), .inr (9, 0, 0)] (st_H g K 1 (fun _ => .inl (10, bu_V0))) none (st_H g K 2 (q_T n B)) := by
  refine gx_enter nf_q_initB rfl (by intro v hv; simp only [List.mem_cons, List.not_mem_nil, or_false] at hv; rcases hv with rfl | rfl <;> rfl) (Nat.le_of_ble_eq_true rfl) ?_
  refine cb_aload_n (i := 0) e_q_initB_0 rfl rfl ?_
  refine cb_aload_n (i := 1) e_q_initB_1 rfl rfl ?_
  refine gx_null e_q_initB_2 ?_
  refine gx_callI (f' := n_q_initA) (as := [.inr (9, 0, 0), .inl .null]) e_q_initB_3 nk_q_489 ni_q_initA rfl rfl rfl rfl ⟨Nat.le_of_ble_eq_true rfl, Nat.le_of_ble_eq_true rfl⟩ (by decide) ⟨Nat.le_of_ble_eq_true rfl, Nat.le_of_ble_eq_true rfl⟩ (st_W_b hW) (k_q_initA hW hn hc hV0 hV1 hV3 hB hf h0 h1 hx9 hx1) ?_
  exact gx_vret e_q_initB_6 rfl (Nat.le_of_ble_eq_true rfl) (fun H hH => hH)
theorem q_ty : ∀ i, i < 4 → parseFieldDescriptor (ch_F10 i).2.2.1 = some (ch_T10 i) ∧ defaultValue (ch_T10 i) = ch_tr g (bu_V0 i) := by
  intro i hi
  match i, hi with
  | 0, _ => exact ⟨by decide +kernel, rfl⟩
  | 1, _ => exact ⟨by decide +kernel, rfl⟩
  | 2, _ => exact ⟨by decide +kernel, rfl⟩
  | 3, _ => exact ⟨by decide +kernel, rfl⟩
theorem b_ty : ∀ i, i < 4 → parseFieldDescriptor (ch_F9 i).2.2.1 = some (ch_T9 i) ∧ defaultValue (ch_T9 i) = ch_tr g (bu_V0 i) := by
  intro i hi
  match i, hi with
  | 0, _ => exact ⟨by decide +kernel, rfl⟩
  | 1, _ => exact ⟨by decide +kernel, rfl⟩
  | 2, _ => exact ⟨by decide +kernel, rfl⟩
  | 3, _ => exact ⟨by decide +kernel, rfl⟩
theorem k_b_toString (hW : st_W g K) (hn : n < 16) (hc : cb_c g (.inl (9, V)) (ch_adr g (9, 0, 0)) K) (hV0 : V 0 = .inr (9, 0, 1)) (hV1 : V 1 = .inl (.int 0)) (hV3 : V 3 = .inl (.int (nI n))) (hB : K[ch_adr g (9, 0, 1)]? = some (vp_cell (ch_cA g 5) (16, .inl B))) (hf : sb_Fit B) (h0 : ch_adr g (10, 0, 0) = K.size) (h1 : ch_adr g (10, 0, 1) = K.size + 1) (hx9 : ch_ok g (.inr (9, 0, 1))) (hx0 : ch_ok g (.inr (10, 0, 0))) (hx1 : ch_ok g (.inr (10, 0, 1))) : gx_C g n_b_toString [.inr (9, 0, 0)] (st_H g K 0 D) (some (.inr (10, 0, 0))) (st_H g K 2 (q_T n B)) := by
  refine gx_enter nf_b_toString rfl (by intro v hv; simp only [List.mem_cons, List.not_mem_nil, or_false] at hv; subst hv; rfl) (Nat.le_of_ble_eq_true rfl) ?_
  refine st_new (k' := 1) (V := bu_V0) (a := (10, 0, 0)) ch_T10 ch_Cl10 q_ty e_b_toString_0 nc_b_18 nb_q nz_q h0 hx0 ⟨by decide, by decide⟩ ⟨Nat.le_of_ble_eq_true rfl, Nat.le_of_ble_eq_true rfl⟩ ?_
  refine cb_J_imp (P' := st_H g K 1 (fun _ => .inl (10, bu_V0))) (fun H hH => st_H_cong hH (fun i hi => by rw [if_pos (by omega)])) ?_
  refine cb_dup e_b_toString_3 rfl ?_
  refine cb_aload_n (i := 0) e_b_toString_4 rfl rfl ?_
  refine gx_callI (f' := n_q_initB) (as := [.inr (9, 0, 0)]) e_b_toString_5 nk_b_137 ni_q_initB rfl rfl rfl rfl ⟨Nat.le_of_ble_eq_true rfl, Nat.le_of_ble_eq_true rfl⟩ (by decide) ⟨Nat.le_of_ble_eq_true rfl, Nat.le_of_ble_eq_true rfl⟩ (st_W_b hW) (k_q_initB hW hn hc hV0 hV1 hV3 hB hf h0 h1 hx9 hx1) ?_
  exact gx_aret e_b_toString_8 rfl (Or.inl ⟨_, rfl⟩) (Nat.le_of_ble_eq_true rfl) (fun H hH => hH)
end BUS
