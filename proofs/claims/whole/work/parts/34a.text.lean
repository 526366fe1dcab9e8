/-- the text as the class has it, and as the reference; where reading stands -/
def m_tx (T B : ch_B) (p : Nat) : Prop := vp_in (T 0 1) 61 ∧ B 0 10 = T 0 1 ∧ (∀ k, k < (T 0 1).toNatClampNeg → B 7 k = T 1 k) ∧ B 0 11 = nI p ∧ p ≤ (T 0 1).toNatClampNeg
