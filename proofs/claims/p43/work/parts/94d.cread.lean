/-! ===== PURE: the class's reads ===== -/
theorem k_subL_toInt {a b : Nat} (ha : a < 2 ^ 62) (hb : b < 2 ^ 62) : (lN a - lN b).toInt = (a : Int) - b := by
  rw [Int64.toInt_sub, pk_lT (by omega), pk_lT (by omega)]
  exact Int.bmod_eq_of_le (by omega) (by omega)
theorem k_sub64 {a b : Nat} (ha : a < 2 ^ 30) (hb : b < 2 ^ 30) : (nI a - nI b).toInt64 = lN a - lN b := by
  apply Int64.toInt_inj.mp
  rw [Int32.toInt_toInt64, pk_sub_toInt ha hb, k_subL_toInt (by omega) (by omega)]
theorem k_negL {a b : Nat} (ha : a < 2 ^ 62) (hb : b < 2 ^ 62) : (0 : Int64) - (lN a - lN b) = lN b - lN a := by
  apply Int64.toInt_inj.mp
  rw [Int64.toInt_sub, k_subL_toInt ha hb, k_subL_toInt hb ha, show (0 : Int64).toInt = 0 from by decide, Int.bmod_eq_of_le (by omega) (by omega)]
  omega
theorem k_negI {a b : Nat} (ha : a < 2 ^ 30) (hb : b < 2 ^ 30) : (0 : Int32) - (nI a - nI b) = nI b - nI a := by
  apply Int32.toInt_inj.mp
  rw [Int32.toInt_sub, pk_sub_toInt ha hb, pk_sub_toInt hb ha, show (0 : Int32).toInt = 0 from by decide, Int.bmod_eq_of_le (by omega) (by omega)]
  omega
theorem k_ge0I {a b : Nat} (ha : a < 2 ^ 30) (hb : b < 2 ^ 30) : (0 : Int32) ≤ nI a - nI b ↔ b ≤ a := by
  rw [Int32.le_iff_toInt_le, pk_sub_toInt ha hb, show (0 : Int32).toInt = 0 from by decide]
  omega
theorem k_ge0L {a b : Nat} (ha : a < 2 ^ 62) (hb : b < 2 ^ 62) : (0 : Int64) ≤ lN a - lN b ↔ b ≤ a := by
  rw [Int64.le_iff_toInt_le, k_subL_toInt ha hb, show (0 : Int64).toInt = 0 from by decide]
  omega
theorem k_absI {a b : Nat} (ha : a < 2 ^ 30) (hb : b < 2 ^ 30) : (if 0 ≤ (nI a - nI b) then (nI a - nI b) else 0 - (nI a - nI b)) = nI (adN a b) := by
  unfold adN
  by_cases h : b ≤ a
  · rw [if_pos ((k_ge0I ha hb).mpr h), pk_sub h]
    congr 1
    omega
  · rw [if_neg (by rw [k_ge0I ha hb]; exact h), k_negI ha hb, pk_sub (by omega)]
    congr 1
    omega
theorem m_size {a b : Nat} (ha : a < 2 ^ 62) (hb : b < 2 ^ 62) : fX5_size (lN a - lN b) = some (lN (adN a b)) := by
  unfold fX5_size adN
  by_cases h : b ≤ a
  · rw [if_pos ((k_ge0L ha hb).mpr h), lN_sub h]
    congr 2
    omega
  · rw [if_neg (by rw [k_ge0L ha hb]; exact h), k_negL ha hb, lN_sub (by omega)]
    congr 2
    omega
def RC (st : Nat → Nat) (c : KC) : Prop := c.1 = nI (st 0) ∧ c.2.1 = nI (st 1) ∧ c.2.2.1 = nI (st 2) ∧ c.2.2.2.1 = nI (st 3) ∧ c.2.2.2.2.1 = nI (st 4) ∧ ∀ k, k < st 0 → c.2.2.2.2.2.1 k = nI (st (8 * k + 5)) ∧ c.2.2.2.2.2.2.1 k = nI (st (8 * k + 6)) ∧ c.2.2.2.2.2.2.2.1 k = nI (st (8 * k + 7)) ∧ c.2.2.2.2.2.2.2.2.1 k = nI (st (8 * k + 8)) ∧ (c.2.2.2.2.2.2.2.2.2.1 k = if st (8 * k + 9) = 1 then nI (st (8 * k + 10)) else -1) ∧ (st (8 * k + 9) = 1 → c.2.2.2.2.2.2.2.2.2.2.1 k = nI (st (8 * k + 11))) ∧ c.2.2.2.2.2.2.2.2.2.2.2 k = nI (st (8 * k + 12))
theorem c_has_t {st : Nat → Nat} {c : KC} (h : RC st c) (hn : st 0 ≤ 16) {x : Int32} {k : Nat} (hx : x = nI k) (hk : k < st 0) : fX0_has c x = some 1 := by
  subst hx
  unfold fX0_has
  rw [if_neg (nI_pos (by omega)), h.1, if_neg (by rw [k_le (by omega) (by omega)]; omega)]
theorem c_has_f {st : Nat → Nat} {c : KC} (h : RC st c) (hn : st 0 ≤ 16) {x : Int32} (hx : ¬ ∃ k, k < st 0 ∧ x = nI k) : fX0_has c x = some 0 := by
  unfold fX0_has
  rcases k_of x with h1 | ⟨n, h1, rfl⟩
  · rw [if_pos h1]
  · rw [if_neg (nI_pos h1), h.1, if_pos]
    have h2 : ¬ n < st 0 := fun z => hx ⟨n, z, rfl⟩
    rw [k_le (by omega) (by omega)]
    omega
theorem c_hasAsh {st : Nat → Nat} {c : KC} (h : RC st c) (hI : Inv st) {x : Int32} {k : Nat} (hx : x = nI k) (hk : k < st 0) : fX0_hasAsh c x = some (nI (st (8 * k + 9))) := by
  have h16 := hI.1
  have hl := (hI.2.2.2.2.2.1 k hk).2.2.2.2
  unfold fX0_hasAsh
  rw [c_has_t h h16 hx hk, Option.bind_some, if_neg (by decide), hx, if_pos (k_in rfl (by omega) (by omega)), nI_clamp (by omega), (h.2.2.2.2.2 k hk).2.2.2.2.1]
  by_cases h1 : st (8 * k + 9) = 1
  · rw [if_pos h1, if_neg, h1]
    · rfl
    · rw [show (-1 : Int32) = nI 4294967295 from by decide]
      intro z
      have := congrArg Int32.toInt z
      rw [nI_toInt (by omega), show (nI 4294967295).toInt = -1 from by decide] at this
      omega
  · rw [if_neg h1, if_pos rfl, show st (8 * k + 9) = 0 by omega]
    rfl
theorem c_topOf {st : Nat → Nat} {c : KC} (h : RC st c) (h16 : st 0 ≤ 16) {x : Int32} {n : Nat} (hx : x = nI n) (hn : n ≤ st 0) : fX0_topOf c x = some (nI (topN st n)) := by
  subst hx
  unfold fX0_topOf
  refine kLoop_to (fun j => (nI (topN st j), nI j)) n rfl (fun j hj nx => ?_) (fun nx => ?_) (by rw [kFu_eq]; omega)
  · show fX0_topOf_c4 c (nI n) (nI (topN st j)) (nI j) nx = nx (nI (topN st (j + 1)), nI (j + 1))
    unfold fX0_topOf_c4
    rw [if_neg (by rw [k_le (by omega) (by omega)]; omega), h.1, if_neg (by rw [k_le (by omega) (by omega)]; omega), if_pos (k_in rfl (by omega) (by omega)), nI_clamp (by omega), (h.2.2.2.2.2 j (by omega)).1, nI_add, nI_1]
    rfl
  · show fX0_topOf_c4 c (nI n) (nI (topN st n)) (nI n) nx = _
    unfold fX0_topOf_c4
    rw [if_pos (by rw [k_le (by omega) (by omega)]; omega)]
theorem c_bottom {st : Nat → Nat} {c : KC} (h : RC st c) (h16 : st 0 ≤ 16) : fX0_bottom c = some (nI (topN st (st 0))) := by
  unfold fX0_bottom
  rw [c_topOf h h16 h.1 (Nat.le_refl _), Option.bind_some]
theorem c_max10 {v : Nat} (hv : v < 2 ^ 31) : (if lN v < (10 : Int64) then (10 : Int64) else lN v).toInt32 = nI (if v < 10 then 10 else v) := by
  rw [show (10 : Int64) = lN 10 from rfl]
  by_cases h : v < 10
  · rw [if_pos (by rw [pk_lLT (by omega) (by omega)]; omega), if_pos h]
    rfl
  · rw [if_neg (by rw [pk_lLT (by omega) (by omega)]; omega), if_neg h, lN_i]
theorem c_thinningOf {st : Nat → Nat} {c : KC} (h : RC st c) (hI : Inv st) {x y z : Int32} {n f k : Nat} (hx : x = nI n) (hn : n < st 0) (hfy : y = nI f) (hf : f ≤ 2) (hkz : z = nI k) (hk : k ≤ 900) : fX0_thinningOf c x y z = some (nI (thinN st f k n)) := by
  subst hx
  subst hfy
  subst hkz
  have h16 := hI.1
  have hB := hI.2.1
  have hy := yN_eq hI hn
  have hh := hN_le (st := st) hk
  have htop := topN_in hI hn
  have hq := thQ_le hI (f := f) hk hn
  have hth := (hI.2.2.2.2.2.1 n hn).1
  have hl := h.2.2.2.2.2 n hn
  have hres : ∀ v : Nat, ¬ f = 2 → thQ st f k n = v → some ((if lN v < (10 : Int64) then (10 : Int64) else lN v).toInt32) = some (nI (thinN st f k n)) := by
    intro v hf2 hv
    rw [c_max10 (by omega)]
    unfold thinN
    rw [if_neg hf2, hv]
  unfold fX0_thinningOf
  by_cases f2 : f = 2
  · rw [if_neg (by rw [f2]; exact fun z => z rfl), if_pos (k_in rfl (by omega) (by omega)), nI_clamp (by omega), hl.2.2.2.1]
    unfold thinN
    rw [if_pos f2]
  · have e2 : ¬ nI f = 2 := by
      rw [show (2 : Int32) = nI 2 from rfl, k_eq (by omega) (by omega)]
      exact f2
    rw [if_pos e2, c_topOf h h16 rfl (by omega), Option.bind_some, if_pos (k_in rfl (by omega) (by omega)), nI_clamp (by omega), hl.1, h.2.1]
    have eB : (nI (st 1)).toInt64 = lN (st 1) := nI_l (by omega)
    have ey : (nI (st 1) - (nI (topN st n) + nI (st (8 * n + 5)) / (2 : Int32))).toInt64 = lN (yN st n) := by
      rw [show (2 : Int32) = nI 2 from rfl, k_div (by omega) (by omega) (by omega), nI_add, pk_sub (by omega), nI_l (by omega)]
      rfl
    have eh : ((nI (st 1)).toInt64 * (nI k).toInt64) / (1000 : Int64) = lN (hN st k) := by
      have : st 1 * k ≤ 200000 * 900 := Nat.mul_le_mul hB.2 hk
      rw [nI_l (by omega), nI_l (by omega), lN_mul, show (1000 : Int64) = lN 1000 from rfl, lN_div (by omega) (by omega) (by omega)]
      rfl
    rw [ey, eh, eB]
    simp only [Option.bind_some]
    by_cases f1 : f = 1
    · have f0 : ¬ f = 0 := by omega
      rw [if_neg (by rw [f1]; exact fun z => z rfl)]
      have e2B : (2 : Int64) * lN (st 1) - lN (hN st k) = lN (2 * st 1 - hN st k) := by
        rw [show (2 : Int64) = lN 2 from rfl, lN_mul, lN_sub (by omega)]
      rw [e2B]
      by_cases hc : hN st k ≤ yN st n
      · rw [if_neg (by rw [pk_lLT (by omega) (by omega)]; omega)]
        unfold fX0_thinningOf_c95 fX0_thinningOf_c127
        rw [if_neg (by decide), if_neg (by decide)]
        rw [show (1000 : Int64) = lN 1000 from rfl, show (2 : Int64) = lN 2 from rfl, lN_mul, lN_sub (by omega), lN_mul, fX4_quotient_ok (by omega) (by omega) (by omega), Option.bind_some]
        exact hres _ f2 (by unfold thQ; rw [if_neg f0, if_pos hc])
      · have q1 : hN st k * (2 * st 1 - hN st k) ≤ 200000 * 400000 := Nat.mul_le_mul (by omega) (by omega)
        have q2 : 0 < hN st k * (2 * st 1 - hN st k) := Nat.mul_pos (by omega) (by omega)
        have q3 : 1000 * yN st n * yN st n ≤ 1000 * 200000 * 200000 := Nat.mul_le_mul (Nat.mul_le_mul_left _ (by omega)) (by omega)
        rw [if_pos (by rw [pk_lLT (by omega) (by omega)]; omega)]
        unfold fX0_thinningOf_c95 fX0_thinningOf_c127
        rw [if_pos rfl, if_pos rfl]
        rw [show (1000 : Int64) = lN 1000 from rfl, lN_mul, lN_mul, lN_mul, fX4_quotient_ok (by omega) (by omega) (by omega), Option.bind_some]
        exact hres _ f2 (by unfold thQ; rw [if_neg f0, if_neg hc])
    · have f0 : f = 0 := by omega
      have e1 : ¬ nI f = 1 := by
        rw [show (1 : Int32) = nI 1 from rfl, k_eq (by omega) (by omega)]
        exact f1
      rw [if_pos e1, show (1000 : Int64) = lN 1000 from rfl, lN_mul, fX4_quotient_ok (by omega) (by omega) (by omega), Option.bind_some]
      exact hres _ f2 (by unfold thQ; rw [if_pos f0])
theorem c_yearsDividend {st : Nat → Nat} {c : KC} (h : RC st c) (hI : Inv st) {x : Int32} {n : Nat} (hx : x = nI n) (hn : n < st 0) : fX0_yearsDividend c x = some (lN (10000000 * st (8 * n + 5))) := by
  subst hx
  have h16 := hI.1
  have hth := (hI.2.2.2.2.2.1 n hn).1
  unfold fX0_yearsDividend
  rw [if_pos (k_in rfl (by omega) (by omega)), nI_clamp (by omega), (h.2.2.2.2.2 n hn).1, nI_l (by omega), show (10000000 : Int64) = lN 10000000 from rfl, lN_mul]
theorem c_yearsOf {st : Nat → Nat} {c : KC} (h : RC st c) (hI : Inv st) {x y z : Int32} {n f k : Nat} (hx : x = nI n) (hn : n < st 0) (hfy : y = nI f) (hf : f ≤ 2) (hkz : z = nI k) (hk : k ≤ 900) : fX0_yearsOf c x y z = some (nI (yrN st f k n)) := by
  have h16 := hI.1
  obtain ⟨h1, h2, h3, -⟩ := hI.2.2.2.2.2.1 n hn
  have h4 := thinN_b hI (f := f) hk hn
  have h5 := k_prod h2 h3 h4
  have hl := h.2.2.2.2.2 n hn
  have hc : thinN st f k n * st (8 * n + 6) * st (8 * n + 7) = st (8 * n + 6) * st (8 * n + 7) * thinN st f k n := by
    rw [Nat.mul_assoc, Nat.mul_comm]
  unfold fX0_yearsOf
  rw [c_thinningOf h hI hx hn hfy hf hkz hk, Option.bind_some, c_yearsDividend h hI hx hn, Option.bind_some, hx, if_pos (k_in rfl (by omega) (by omega)), if_pos (k_in rfl (by omega) (by omega)), nI_clamp (by omega), hl.2.1, hl.2.2.1]
  rw [nI_l (by omega), nI_l (by omega), nI_l (by omega), lN_mul, lN_mul, hc, fX4_quotient_ok (by omega) (by omega) (by omega), Option.bind_some, lN_i]
  rfl
theorem c_years {st : Nat → Nat} {c : KC} (h : RC st c) (hI : Inv st) {x : Int32} {n : Nat} (hx : x = nI n) (hn : n < st 0) : fX0_yearsOf c x c.2.2.1 c.2.2.2.1 = some (nI (yrN st (st 2) (st 3) n)) :=
  c_yearsOf h hI hx hn h.2.2.1 hI.2.2.1 h.2.2.2.1 hI.2.2.2.1
theorem c_delayOf {st : Nat → Nat} {c : KC} (h : RC st c) (hI : Inv st) {x : Int32} {n : Nat} (hx : x = nI n) (hn : n < st 0) : fX0_delayOf c x = some (nI (delN st n)) := by
  subst hx
  have h16 := hI.1
  have hco := hI.2.2.2.2.1
  obtain ⟨h1, h2, h3, -⟩ := hI.2.2.2.2.2.1 n hn
  have q1 : 10 * 200 ≤ st (8 * n + 6) * st (8 * n + 7) := Nat.mul_le_mul h2.1 h3.1
  have q2 : st (8 * n + 6) * st (8 * n + 7) ≤ 2000 * 5000 := Nat.mul_le_mul h2.2 h3.2
  have hl := h.2.2.2.2.2 n hn
  unfold fX0_delayOf
  rw [if_pos (k_in rfl (by omega) (by omega)), if_pos (k_in rfl (by omega) (by omega)), nI_clamp (by omega), hl.2.1, hl.2.2.1, h.2.2.2.2.1]
  rw [nI_l (by omega), nI_l (by omega), nI_l (by omega), lN_mul, show (10000 : Int64) = lN 10000 from rfl, lN_mul, fX4_quotient_ok (by omega) (by omega) (by omega), Option.bind_some, lN_i]
  rfl
