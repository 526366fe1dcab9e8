/-- a nest mate's constructor is called -/
def cb_SN (f : ch_MI) (own : String) (idx : Nat) : Prop := ch_MF f ∧ Cond.methodLinkNest own idx (ch_nm f) "ChalkWarrants" ∈ ch_oth ∧ (parseMethodDescriptor (ch_nm f).desc).map (fun d => d.parameters.length) = some 0
section CB5
variable {g : ch_G} {f : ch_MI} {R : Room} {E : ch_En} {pc : Nat} {ls ls' : ch_LT} {rest : List ch_V} {n k : Nat}
theorem cb_callN {f' : ch_MI} {idx : Nat} {a : ch_Ad} {P P' : Heap → Prop} (hd : decode (ch_bc f) pc = .ok (.invokespecial idx, 3)) (hsv : cb_SN f' (ch_nm f).cls idx) (hi : Cond.instanceMethod (ch_nm f') ∈ ch_good) (hnm : (ch_nm f').name = "<init>") (hhh : ch_hh f' = []) (hrt : ch_rt f' = none) (hRR : ch_RR R (ch_fr f' + 1)) (hcat : (rest.map ch_cat).sum ≤ 8) (hcs : k + ch_mc f' ≤ R.cells ∧ 6 * k + 6 * ch_mc f' ≤ R.slots) (hb : ∀ H, P H → ch_base g ≤ H.size)
    (h : cb_C g f' [.inr a] P P') (kk : cb_J g f R E (pc + 3) ls rest P' (k + ch_mc f')) : cb_J g f R E pc ls (.inr a :: rest) P k := by
  intro p e s m args below meth c H locs lm hF hN hP hS ho hs hL
  have hts := hF.2.2.2.2.2.1
  have h5 := hsv.1.2.2.2.2
  have hlo : 8 + (ch_ml f' + 11) + (ch_rm f').locals ≤ R.locals := by
    have := hRR.2
    show 8 + (ch_ml f' + 11) + (128 * ch_fr f' + 64) ≤ R.locals
    omega
  have hws : ∀ w ∈ ch_ws f', ∀ (a' : Array Value) (U : State), s.WarmedH U.vm → w.before a' U = true := pay_in hts (ch_ws_good hsv.1)
  have hM := h hF.2.2.2.2.2.2.2.2.2.1 (fun v hv => by
    rcases List.mem_cons.mp hv with e | e
    · rw [e]; exact ch_okh hs
    · cases e)
  have hcw : ch_cw f' = Cond.code (ch_nm f') (ch_bc f') (ch_ml f') (ch_rt f') := by unfold ch_cw; rw [hhh]
  have hcode := hsv.1.1
  rw [hcw] at hcode
  rw [hrt] at hcw hcode
  refine va_callv (va_runIN (host := "ChalkWarrants") (As := []) (b := ch_adr g a) (rest := rest.map (ch_tr g)) (n := 0) (bytes := ch_bc f') (maxL := ch_ml f') ⟨hF.1, hF.2.1, hF.2.2.2.1, hF.2.2.2.2.1, hts⟩ hM ⟨⟨⟨rfl, rfl, hRR.1, hlo, hws, by unfold ch_ws; rw [hcw]; exact List.mem_cons_self⟩, hts _ hcode, hts _ hsv.1.2.1, hsv.1.2.2.1, ch_len hsv.2.2, va_Nw.use rfl (hF.2.2.2.2.2.2.1.2.1 _ hsv.2.1)⟩, hnm, hts _ hi⟩
    ⟨cb_PC_blind, fun U hU hW => ⟨rfl, hF.2.2.2.2.2.2.1.warm hW, hN, by rw [hU]; exact hP, by rw [hU]; exact hb _ hP⟩⟩ rfl rfl hL.1 rfl (by show 2 * 0 + _ ≤ 8; rw [ch_sum]; omega) hd hcs) hS (fun q _ h => h) (fun q h => h) (fun u t H1 locs1 ht hvm _ hB hz hk hS1 => ?_)
  have := kk p e s m args below meth c H1 locs1 lm hF hN (by rw [← ht]; exact hB) hS1 ho (ch_ok0 hs) hL
  rw [Nat.mul_add] at this
  exact this
end CB5
