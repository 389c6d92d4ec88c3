/-! ===== PURE: the reference's reads ===== -/
theorem k_i0 : kIn 0 133 = true := by decide
theorem k_i1 : kIn 1 133 = true := by decide
theorem k_i2 : kIn 2 133 = true := by decide
theorem k_i3 : kIn 3 133 = true := by decide
theorem k_c0 : (0 : Int32).toNatClampNeg = 0 := by decide
theorem k_c1 : (1 : Int32).toNatClampNeg = 1 := by decide
theorem k_c2 : (2 : Int32).toNatClampNeg = 2 := by decide
theorem k_c3 : (3 : Int32).toNatClampNeg = 3 := by decide
def RM (st : Nat → Nat) (u : KM) : Prop := ∀ i, i < 133 → u.2.2.2.2.2.2.1 i = nI (st i)
def adN (a b : Nat) : Nat := (a - b) + (b - a)
theorem m_ix (k w : Nat) : ((8 : Int32) * nI k) + nI w = nI (8 * k + w) := by
  rw [show (8 : Int32) = nI 8 from rfl, pk_mul, nI_add]
theorem m_of {st : Nat → Nat} {u : KM} (h : RM st u) {x y : Int32} {k w : Nat} (hx : x = nI k) (hy : y = nI w) (hk : 8 * k + w < 133) : fX5_of u x y = some (nI (st (8 * k + w))) := by
  subst hx
  subst hy
  unfold fX5_of
  rw [m_ix, if_pos (k_in rfl hk (by omega)), nI_clamp (by omega), h _ hk]
theorem m_of5 {st : Nat → Nat} {u : KM} (h : RM st u) {k : Nat} (hk : 8 * k + 5 < 133) : fX5_of u (nI k) 5 = some (nI (st (8 * k + 5))) := m_of h rfl rfl hk
theorem m_of6 {st : Nat → Nat} {u : KM} (h : RM st u) {k : Nat} (hk : 8 * k + 6 < 133) : fX5_of u (nI k) 6 = some (nI (st (8 * k + 6))) := m_of h rfl rfl hk
theorem m_of7 {st : Nat → Nat} {u : KM} (h : RM st u) {k : Nat} (hk : 8 * k + 7 < 133) : fX5_of u (nI k) 7 = some (nI (st (8 * k + 7))) := m_of h rfl rfl hk
theorem m_of8 {st : Nat → Nat} {u : KM} (h : RM st u) {k : Nat} (hk : 8 * k + 8 < 133) : fX5_of u (nI k) 8 = some (nI (st (8 * k + 8))) := m_of h rfl rfl hk
theorem m_of9 {st : Nat → Nat} {u : KM} (h : RM st u) {k : Nat} (hk : 8 * k + 9 < 133) : fX5_of u (nI k) 9 = some (nI (st (8 * k + 9))) := m_of h rfl rfl hk
theorem m_of10 {st : Nat → Nat} {u : KM} (h : RM st u) {k : Nat} (hk : 8 * k + 10 < 133) : fX5_of u (nI k) 10 = some (nI (st (8 * k + 10))) := m_of h rfl rfl hk
theorem m_of11 {st : Nat → Nat} {u : KM} (h : RM st u) {k : Nat} (hk : 8 * k + 11 < 133) : fX5_of u (nI k) 11 = some (nI (st (8 * k + 11))) := m_of h rfl rfl hk
theorem m_isLayer_t {st : Nat → Nat} {u : KM} (h : RM st u) (hn : st 0 ≤ 16) {x : Int32} {k : Nat} (hx : x = nI k) (hk : k < st 0) : fX5_isLayer u x = some 1 := by
  subst hx
  unfold fX5_isLayer
  rw [if_pos k_i0, k_c0, h 0 (by omega)]
  have e : nI (st 0) - 1 = nI (st 0 - 1) := by rw [show (1 : Int32) = nI 1 from rfl, pk_sub (by omega)]
  rw [e, show (0 : Int32) = nI 0 from rfl, fX5_in_t rfl (by omega) (by omega) (by omega), Option.bind_some]
  rfl
theorem m_isLayer_f {st : Nat → Nat} {u : KM} (h : RM st u) (hn : st 0 ≤ 16) {x : Int32} (hx : ¬ ∃ k, k < st 0 ∧ x = nI k) : fX5_isLayer u x = some 0 := by
  unfold fX5_isLayer
  rw [if_pos k_i0, k_c0, h 0 (by omega)]
  have e : fX5_in x 0 (nI (st 0) - 1) = some 0 := by
    unfold fX5_in
    rcases k_of x with h1 | ⟨n, h1, rfl⟩
    · rw [if_pos h1]
    · rw [if_neg (nI_pos h1), if_pos]
      have h2 : ¬ n < st 0 := fun z => hx ⟨n, z, rfl⟩
      rw [Int32.lt_iff_toInt_lt, show (1 : Int32) = nI 1 from rfl, pk_sub_toInt (by omega) (by omega), nI_toInt h1]
      omega
  rw [e, Option.bind_some]
  rfl
theorem m_top {st : Nat → Nat} {u : KM} (h : RM st u) {x : Int32} {n : Nat} (hx : x = nI n) (hn : n ≤ 16) : fX5_top u x = some (nI (topN st n)) := by
  subst hx
  unfold fX5_top
  refine kLoop_to (fun j => (nI (topN st j), nI j)) n rfl (fun j hj nx => ?_) (fun nx => ?_) (by rw [kFu_eq]; omega)
  · show fX5_top_c4 u (nI n) (nI (topN st j)) (nI j) nx = nx (nI (topN st (j + 1)), nI (j + 1))
    unfold fX5_top_c4
    rw [if_neg (by rw [k_le (by omega) (by omega)]; omega), m_of5 h (by omega), Option.bind_some, nI_add, nI_1]
    rfl
  · show fX5_top_c4 u (nI n) (nI (topN st n)) (nI n) nx = _
    unfold fX5_top_c4
    rw [if_pos (by rw [k_le (by omega) (by omega)]; omega)]
theorem m_bottom {st : Nat → Nat} {u : KM} (h : RM st u) (hn : st 0 ≤ 16) : fX5_bottom u = some (nI (topN st (st 0))) := by
  unfold fX5_bottom
  rw [if_pos k_i0, k_c0, h 0 (by omega), m_top h rfl hn, Option.bind_some]
theorem m_c135 (u : KM) {v : Nat} (hv : v < 2 ^ 31) : fX5_thinningOf_c135 u (lN v) = some (nI (if v < 10 then 10 else v)) := by
  unfold fX5_thinningOf_c135
  rw [show (10 : Int64) = lN 10 from rfl]
  by_cases h : v < 10
  · rw [if_neg (by rw [pk_lLE (by omega) (by omega)]; omega), if_pos h]
    rfl
  · rw [if_pos (by rw [pk_lLE (by omega) (by omega)]; omega), if_neg h, lN_i]
theorem m_thinningOf {st : Nat → Nat} {u : KM} (h : RM st u) (hI : Inv st) {x : Int32} {n : Nat} (hx : x = nI n) (hn : n < st 0) : fX5_thinningOf u x = some (nI (thinN st (st 2) (st 3) n)) := by
  subst hx
  have h16 := hI.1
  have hB := hI.2.1
  have hf := hI.2.2.1
  have hk := hI.2.2.2.1
  have hy := yN_eq hI hn
  have hh := hN_le (st := st) hk
  have htop := topN_in hI hn
  have hq := thQ_le hI (f := st 2) hk hn
  have hth := (hI.2.2.2.2.2.1 n hn).1
  unfold fX5_thinningOf
  simp only [k_i1, k_i2, k_i3, k_c1, k_c2, k_c3, ↓reduceIte, h 1 (by omega), h 2 (by omega), h 3 (by omega)]
  by_cases f2 : st 2 = 2
  · rw [if_neg (by rw [f2]; exact fun z => z rfl), m_of8 h (by omega), Option.bind_some]
    unfold thinN
    rw [if_pos f2]
  · have e2 : ¬ nI (st 2) = 2 := by
      rw [show (2 : Int32) = nI 2 from rfl, k_eq (by omega) (by omega)]
      exact f2
    rw [if_pos e2, m_top h rfl (by omega), Option.bind_some, m_of5 h (by omega), Option.bind_some]
    have eB : (nI (st 1)).toInt64 = lN (st 1) := nI_l (by omega)
    have ey : ((nI (st 1)).toInt64 - (nI (topN st n)).toInt64) - (nI (st (8 * n + 5)) / (2 : Int32)).toInt64 = lN (yN st n) := by
      rw [show (2 : Int32) = nI 2 from rfl, k_div (by omega) (by omega) (by omega), nI_l (by omega), nI_l (by omega), nI_l (by omega), lN_sub (by omega), lN_sub (by omega)]
      congr 1
      omega
    have eh : ((nI (st 1)).toInt64 * (nI (st 3)).toInt64) / (1000 : Int64) = lN (hN st (st 3)) := by
      have : st 1 * st 3 ≤ 200000 * 900 := Nat.mul_le_mul hB.2 hk
      rw [nI_l (by omega), nI_l (by omega), lN_mul, show (1000 : Int64) = lN 1000 from rfl, lN_div (by omega) (by omega) (by omega)]
      rfl
    simp only [Option.bind_some]
    rw [ey, eh, eB]
    have hres : ∀ v : Nat, thQ st (st 2) (st 3) n = v → fX5_thinningOf_c135 u (lN v) = some (nI (thinN st (st 2) (st 3) n)) := by
      intro v hv
      rw [m_c135 u (by omega)]
      unfold thinN
      rw [if_neg f2, hv]
    by_cases f0 : st 2 = 0
    · rw [if_neg (by rw [f0]; exact fun z => z rfl), if_pos (by rw [show (0 : Int64) = lN 0 from rfl, pk_lEQ (by omega) (by omega)]; omega)]
      rw [show (1000 : Int64) = lN 1000 from rfl, lN_mul, lN_div (by omega) (by omega) (by omega)]
      exact hres _ (by unfold thQ; rw [if_pos f0])
    · have e0 : ¬ nI (st 2) = 0 := by
        rw [show (0 : Int32) = nI 0 from rfl, k_eq (by omega) (by omega)]
        exact f0
      rw [if_pos e0]
      have e2B : (2 : Int64) * lN (st 1) - lN (hN st (st 3)) = lN (2 * st 1 - hN st (st 3)) := by
        rw [show (2 : Int64) = lN 2 from rfl, lN_mul, lN_sub (by omega)]
      rw [e2B]
      by_cases hc : hN st (st 3) ≤ yN st n
      · rw [if_neg (by rw [pk_lLT (by omega) (by omega)]; omega), if_pos (by rw [show (0 : Int64) = lN 0 from rfl, pk_lEQ (by omega) (by omega)]; omega)]
        rw [show (1000 : Int64) = lN 1000 from rfl, show (2 : Int64) = lN 2 from rfl, lN_mul, lN_sub (by omega), lN_mul, lN_div (by omega) (by omega) (by omega)]
        exact hres _ (by unfold thQ; rw [if_neg f0, if_pos hc])
      · have q1 : hN st (st 3) * (2 * st 1 - hN st (st 3)) ≤ 200000 * 400000 := Nat.mul_le_mul (by omega) (by omega)
        have q2 : 0 < hN st (st 3) * (2 * st 1 - hN st (st 3)) := Nat.mul_pos (by omega) (by omega)
        have q3 : 1000 * yN st n * yN st n ≤ 1000 * 200000 * 200000 := Nat.mul_le_mul (Nat.mul_le_mul_left _ (by omega)) (by omega)
        rw [if_pos (by rw [pk_lLT (by omega) (by omega)]; omega), lN_mul, if_pos (by rw [show (0 : Int64) = lN 0 from rfl, pk_lEQ (by omega) (by omega)]; omega)]
        rw [show (1000 : Int64) = lN 1000 from rfl, lN_mul, lN_mul, lN_div (by omega) (by omega) (by omega)]
        exact hres _ (by unfold thQ; rw [if_neg f0, if_neg hc])
theorem m_yearsBy {a b c d : Nat} (ha : 10000000 * a < 2 ^ 63) (h0 : 0 < b * c * d) (h1 : b * c * d < 2 ^ 63) : fX5_yearsBy (lN a) (lN b) (lN c) (lN d) = some (nI (10000000 * a / (b * c * d))) := by
  unfold fX5_yearsBy
  rw [lN_mul, lN_mul, if_pos (by rw [show (0 : Int64) = lN 0 from rfl, pk_lEQ h1 (by omega)]; omega), show (10000000 : Int64) = lN 10000000 from rfl, lN_mul, lN_div ha h0 h1, lN_i]
theorem m_yearsOf {st : Nat → Nat} {u : KM} (h : RM st u) (hI : Inv st) {x : Int32} {n : Nat} (hx : x = nI n) (hn : n < st 0) : fX5_yearsOf u x = some (nI (yrN st (st 2) (st 3) n)) := by
  subst hx
  have h16 := hI.1
  obtain ⟨h1, h2, h3, -⟩ := hI.2.2.2.2.2.1 n hn
  have h4 := thinN_b hI (f := st 2) hI.2.2.2.1 hn
  have h5 := k_prod h2 h3 h4
  unfold fX5_yearsOf
  rw [m_of5 h (by omega), Option.bind_some, m_of6 h (by omega), Option.bind_some, m_of7 h (by omega), Option.bind_some, m_thinningOf h hI rfl hn, Option.bind_some]
  rw [nI_l (by omega), nI_l (by omega), nI_l (by omega), nI_l (by omega), m_yearsBy (by omega) (by omega) (by omega), Option.bind_some]
  rfl
theorem m_ageAtTop {st : Nat → Nat} {u : KM} (h : RM st u) (hI : Inv st) {x : Int32} {n : Nat} (hx : x = nI n) (hn : n ≤ st 0) : fX5_ageAtTop u x = some (nI (ageN st (st 2) (st 3) n)) := by
  subst hx
  have h16 := hI.1
  unfold fX5_ageAtTop
  refine kLoop_to (fun j => (nI (ageN st (st 2) (st 3) j), nI j)) n rfl (fun j hj nx => ?_) (fun nx => ?_) (by rw [kFu_eq]; omega)
  · show fX5_ageAtTop_c4 u (nI n) (nI (ageN st (st 2) (st 3) j)) (nI j) nx = nx (nI (ageN st (st 2) (st 3) (j + 1)), nI (j + 1))
    unfold fX5_ageAtTop_c4
    rw [if_neg (by rw [k_le (by omega) (by omega)]; omega), m_yearsOf h hI rfl (by omega), Option.bind_some, nI_add, nI_1]
    rfl
  · show fX5_ageAtTop_c4 u (nI n) (nI (ageN st (st 2) (st 3) n)) (nI n) nx = _
    unfold fX5_ageAtTop_c4
    rw [if_pos (by rw [k_le (by omega) (by omega)]; omega)]
/-- the layer in which a depth lies -/
def LayAt (st : Nat → Nat) (d k : Nat) : Prop := k < st 0 ∧ d ≤ topN st (k + 1) ∧ ∀ j, j < k → topN st (j + 1) < d
theorem lay_ex {st : Nat → Nat} {d : Nat} (h0 : 0 < st 0) (hd : d ≤ topN st (st 0)) : ∃ k, LayAt st d k := by
  obtain ⟨k, hk, hl⟩ := pk_least (fun k => d ≤ topN st (k + 1)) ⟨st 0 - 1, by rw [Nat.sub_add_cancel h0]; exact hd⟩
  refine ⟨k, ?_, hk, fun j hj => Nat.lt_of_not_le (hl j hj)⟩
  rcases Nat.lt_or_ge k (st 0) with z | z
  · exact z
  · refine absurd ?_ (hl (st 0 - 1) (by omega))
    rw [Nat.sub_add_cancel h0]
    exact hd
theorem lay_top {st : Nat → Nat} {d k : Nat} (h : LayAt st d k) : topN st k ≤ d := by
  cases k with
  | zero => exact Nat.zero_le _
  | succ k => exact Nat.le_of_lt (h.2.2 k (Nat.lt_succ_self k))
/-- the age at a depth of the layer k -/
def agN (st : Nat → Nat) (d k : Nat) : Nat := ageN st (st 2) (st 3) k + yrN st (st 2) (st 3) k * (d - topN st k) / st (8 * k + 5)
theorem agN_le {st : Nat → Nat} (hI : Inv st) {d k : Nat} (hk : LayAt st d k) : agN st d k ≤ ageN st (st 2) (st 3) (k + 1) := by
  have h1 := (hI.2.2.2.2.2.1 k hk.1).1
  have h2 := hk.2.1
  unfold agN
  show _ ≤ ageN st (st 2) (st 3) k + yrN st (st 2) (st 3) k
  refine Nat.add_le_add_left (Nat.div_le_of_le_mul ?_) _
  rw [Nat.mul_comm (st (8 * k + 5))]
  refine Nat.mul_le_mul_left _ ?_
  have : topN st (k + 1) = topN st k + st (8 * k + 5) := rfl
  omega
