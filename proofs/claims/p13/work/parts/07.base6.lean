theorem zc_ne {a b : Int32} (h : (¬ a < 0) ∧ (¬ b < 0) ∧ ¬ a = b) : a.toNatClampNeg ≠ b.toNatClampNeg := by
  intro q
  have e1 := zc_eq h.1
  have e2 := zc_eq h.2.1
  exact h.2.2 (Int32.toInt_inj.mp (by omega))
