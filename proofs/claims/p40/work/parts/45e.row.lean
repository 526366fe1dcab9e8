section ROW
variable {g : ch_G} {R : Room} {E : ch_En}
set_option maxHeartbeats 1600000 in
theorem l_547 (hC : 120000 ≤ R.cells ∧ 720000 ≤ R.slots) (hxi : ∀ x, ¬ ch_xi g x) (hb : (ch_H0 g).size = ch_base g) {Y : ch_B} (m : ch_M) (k : Nat) (hk : k ≤ 54000)
    (nx : ∀ a k, k ≤ 54010 → ch_J (ch_rw g a) m_l_law R E 553 (f_L none Y (some (.inr (14, 0, 1))) none none none none) [] (m_14 m) k) : ch_J g m_l_law R E 547 (f_L none Y none none none none none) [] m k := by
  refine ch_bipush (v := 9) d_l_law_547 (by decide) ?_
  intro p e s mm args below meth cc H locs lm hF hRp hS ho hs hL
  have hts := hF.2.2.2.2.2.1
  have h0 : ch_in (0, 0, 0) := cb_in (by decide) (by decide) (by decide) (by decide)
  have hsz : (ch_H0 g).size ≤ H.size := by
    obtain ⟨r, hr, cell, q1, -⟩ := hRp.2.2.1 _ (Or.inl h0)
    have h1 := (Array.getElem?_eq_some_iff.mp q1).1
    rw [ch_adr_in h0] at h1
    omega
  have hk1 : k + 1 ≤ k + 3 ∧ 6 * k + 9 ≤ 6 * (k + 3) := by omega
  have hc1 : k + 3 ≤ R.cells ∧ 6 * (k + 3) ≤ R.slots := by omega
  have hcb : componentBytes (newarray.typeOf .long) ≤ 8 := by decide
  refine va_newaK hF.1 hF.2.1 (hts _ ac_long) rfl d_l_law_549 rfl (by decide) (show Int32.toNatClampNeg 9 = 9 by decide) (by decide) (by omega) (by omega) rfl fun H1 cA e1 z1 o1 hAr hNm => ?_
  have hcA : cA = ch_cA g 2 := Option.some.inj (hNm.symm.trans (hF.2.2.2.2.2.2.1.1.2 2 _ rfl).2)
  have e1' : H1[H.size]? = some (arrV (ch_cA g 2) 9 (fun _ => defaultValue (ch_ty 2))) := by
    rw [← hcA]
    exact e1
  have hR1 := ch_Rp_rw hxi hsz hRp e1' z1 o1
  have hF1 := ch_FR_rw (a := H.size) hxi hsz hF
  have J : ch_J (ch_rw g H.size) m_l_law R E 551 (f_L none Y none none none none none) [.inr (14, 0, 1)] (m_14 m) (k + 3) := ch_astore (i := 6) (ls' := f_L none Y (some (.inr (14, 0, 1))) none none none none) d_l_law_551 (Nat.le_of_ble_eq_true rfl) rfl (nx H.size (k + 3) (by omega))
  have J1 := J p e s mm args below meth cc H1 locs lm hF1 hR1 (cb_S_push hS z1 o1) (fun o h v hv => (ch_rw_ok hxi (ho o h v hv)).1) (fun v hv => by
    rcases List.mem_cons.mp hv with z | z
    · rw [z]
      intro a ha
      cases ha
      exact Or.inl (Or.inr rfl)
    · cases z) ⟨hL.1, hL.2.1, fun i v hv => by
      rw [(ch_rw_ok (a := H.size) hxi (ho _ (List.mem_of_getElem? hv) v rfl)).2]
      exact hL.2.2 i v hv⟩
  have est : ([.inr (14, 0, 1)] : List ch_V).map (ch_tr (ch_rw g H.size)) = [.ref H.size] := by
    show [Value.ref (ch_adr (ch_rw g H.size) (14, 0, 1))] = _
    rw [ch_rw_14]
  rw [est] at J1
  exact W.widen hk1.1 hk1.2 J1
end ROW
