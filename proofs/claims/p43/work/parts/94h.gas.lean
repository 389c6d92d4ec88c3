/-! ===== PURE: the least depth of a gas age ===== -/
theorem c_max1 {v : Nat} (hv : v < 2 ^ 31) : (if (1 : Int32) < nI v then nI v else (1 : Int32)) = nI (if v ≤ 1 then 1 else v) := by
  by_cases h : v ≤ 1
  · rw [if_pos h, if_neg (by rw [show (1 : Int32) = nI 1 from rfl, k_lt (by omega) (by omega)]; omega)]
    rfl
  · rw [if_neg h, if_pos (by rw [show (1 : Int32) = nI 1 from rfl, k_lt (by omega) (by omega)]; omega)]
