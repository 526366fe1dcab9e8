def w_l (Y : ch_B) (c s : Int32) : Int32 := if ch_lineB Y c (s - 1) = true then 1 else 0
def w_ty (B : ch_B) (lv : Int32) (stop next : Nat) (step : Int32) : ch_B := if B 3 stop = 0 ∨ B 1 next + lv < B 1 stop ∨ (B 1 next + lv = B 1 stop ∧ B 2 next + 1 < B 2 stop) then ch_bw (ch_bw (ch_bw B 1 stop (B 1 next + lv)) 2 stop (B 2 next + 1)) 3 stop step else B
set_option maxHeartbeats 1600000 in
theorem s_w_tryStep (g : ch_G) (q : ch_M → Prop) (j1 : Nat) (p2 : Int32) (p3 : Int32) (p4 : Int32) (m : ch_M) (h : (vp_in p3 15) ∧ (vp_in (p3 + p4) 15) ∧ q (ch_os m 8 0 (w_ty (ch_ob m 8 0) (w_l (ch_ob m 1 j1) p2 (p3 + p4)) (Int32.toNatClampNeg p3) (Int32.toNatClampNeg (p3 + p4)) p4))) : ch_C g m_w_tryStep [.inr (8, 0, 0), .inr (1, j1, 0), .inl (.int p2), .inl (.int p3), .inl (.int p4)] m (ch_ov q) := by
  refine e_w_tryStep g _ j1 p2 p3 p4 m ?_
  obtain ⟨h1, h2, hq⟩ := h
  have fin : ∀ lv : Int32, lv = w_l (ch_ob m 1 j1) p2 (p3 + p4) →
      ((m (8, 0, 3) (Int32.toNatClampNeg p3) = 0 ∨ m (8, 0, 1) (Int32.toNatClampNeg (p3 + p4)) + lv < m (8, 0, 1) (Int32.toNatClampNeg p3) ∨ (m (8, 0, 1) (Int32.toNatClampNeg (p3 + p4)) + lv = m (8, 0, 1) (Int32.toNatClampNeg p3) ∧ m (8, 0, 2) (Int32.toNatClampNeg (p3 + p4)) + 1 < m (8, 0, 2) (Int32.toNatClampNeg p3))) →
        ∀ m6 m7 m8 : ch_M, m6 = ch_wr m (8, 0, 1) (Int32.toNatClampNeg p3) (m (8, 0, 1) (Int32.toNatClampNeg (p3 + p4)) + lv) → m7 = ch_wr m6 (8, 0, 2) (Int32.toNatClampNeg p3) (m (8, 0, 2) (Int32.toNatClampNeg (p3 + p4)) + 1) → m8 = ch_wr m7 (8, 0, 3) (Int32.toNatClampNeg p3) p4 → ch_ov q (.inl none) m8) ∧
      (¬ (m (8, 0, 3) (Int32.toNatClampNeg p3) = 0 ∨ m (8, 0, 1) (Int32.toNatClampNeg (p3 + p4)) + lv < m (8, 0, 1) (Int32.toNatClampNeg p3) ∨ (m (8, 0, 1) (Int32.toNatClampNeg (p3 + p4)) + lv = m (8, 0, 1) (Int32.toNatClampNeg p3) ∧ m (8, 0, 2) (Int32.toNatClampNeg (p3 + p4)) + 1 < m (8, 0, 2) (Int32.toNatClampNeg p3))) → ch_ov q (.inl none) m) := by
    intro lv hl
    rw [← hl] at hq
    refine ⟨fun c m6 m7 m8 e6 e7 e8 => ?_, fun c => ?_⟩
    · have e : w_ty (ch_ob m 8 0) lv (Int32.toNatClampNeg p3) (Int32.toNatClampNeg (p3 + p4)) p4 = _ := if_pos c
      rw [e] at hq
      rw [ch_wr_os] at e6
      subst e6
      rw [ch_os_wr] at e7
      subst e7
      rw [ch_os_wr] at e8
      subst e8
      exact ch_ov_iff.mpr hq
    · have e : w_ty (ch_ob m 8 0) lv (Int32.toNatClampNeg p3) (Int32.toNatClampNeg (p3 + p4)) p4 = ch_ob m 8 0 := if_neg c
      rw [e, ch_os_self] at hq
      exact ch_ov_iff.mpr hq
  refine g_w_tryStep_0 g _ _ _ _ _ _ ⟨h2, fun c => ⟨h1, ?_⟩, fun c => ⟨h1, ?_⟩⟩
  · obtain ⟨fa, fb⟩ := fin 1 (by unfold w_l; rw [if_pos ((ch_lineB_iff _ _ _).mpr c)])
    refine ⟨fun a m6 e6 m7 e7 m8 e8 => fa (Or.inl a) m6 m7 m8 e6 e7 e8, fun a => ⟨fun b m6 e6 m7 e7 m8 e8 => fa (Or.inr (Or.inl b)) m6 m7 m8 e6 e7 e8, fun b => ⟨fun d => fb (fun z => z.elim a (fun z => z.elim b (fun z => d z.1))), fun d => ⟨fun e => fb (fun z => z.elim a (fun z => z.elim b (fun z => by have := z.2; grind))), fun e m6 e6 m7 e7 m8 e8 => fa (Or.inr (Or.inr ⟨d, by grind⟩)) m6 m7 m8 e6 e7 e8⟩⟩⟩⟩
  · obtain ⟨fa, fb⟩ := fin 0 (by unfold w_l; rw [if_neg (fun z => c ((ch_lineB_iff _ _ _).mp z))])
    refine ⟨fun a m6 e6 m7 e7 m8 e8 => fa (Or.inl a) m6 m7 m8 e6 e7 e8, fun a => ⟨fun b m6 e6 m7 e7 m8 e8 => fa (Or.inr (Or.inl b)) m6 m7 m8 e6 e7 e8, fun b => ⟨fun d => fb (fun z => z.elim a (fun z => z.elim b (fun z => d z.1))), fun d => ⟨fun e => fb (fun z => z.elim a (fun z => z.elim b (fun z => by have := z.2; grind))), fun e m6 e6 m7 e7 m8 e8 => fa (Or.inr (Or.inr ⟨d, by grind⟩)) m6 m7 m8 e6 e7 e8⟩⟩⟩⟩
