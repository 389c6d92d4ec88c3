/-! ===== PURE: the needed accumulation ===== -/
theorem lmin_le {D : Nat → Nat} {lo j : Nat} : lo ≤ lmin D lo j ∧ lmin D lo j ≤ lo + j := (lmin_best j).1
