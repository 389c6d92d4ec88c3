/-! ===== PURE: ages at depths ===== -/
theorem topN_16 {st : Nat → Nat} (hI : Inv st) {n : Nat} (h : n ≤ st 0) : topN st n ≤ 200000 := by
  have h1 := topN_le (st := st) h
  have h2 := hI.2.1.2
  have h3 := hI.2.2.2.2.2.2
  omega
theorem c_ageAt {st : Nat → Nat} {c : KC} (h : RC st c) (hI : Inv st) {x : Int32} {d k : Nat} (hx : x = nI d) (hk : LayAt st d k) : fX0_ageAt c x = some (nI (agN st d k)) := by
  subst hx
  have h16 := hI.1
  have hk0 := hk.1
  have hd : d ≤ 200000 := Nat.le_trans hk.2.1 (topN_16 hI hk.1)
  have hth := (hI.2.2.2.2.2.1 k hk.1).1
  unfold fX0_ageAt
  refine kLoop_to (fun j => (nI (topN st j), nI (ageN st (st 2) (st 3) j), nI j)) k rfl (fun j hj nx => ?_) (fun nx => ?_) (by rw [kFu_eq]; omega)
  · show fX0_ageAt_c7 c (nI d) (nI (topN st j)) (nI (ageN st (st 2) (st 3) j)) (nI j) nx = nx (nI (topN st (j + 1)), nI (ageN st (st 2) (st 3) (j + 1)), nI (j + 1))
    have q1 := topN_16 hI (n := j + 1) (by omega)
    have q2 := hk.2.2 j hj
    have q3 := yrN_le hI (f := st 2) hI.2.2.2.1 (n := j) (by omega)
    have eT : nI (topN st j) + nI (st (8 * j + 5)) = nI (topN st (j + 1)) := nI_add _ _
    unfold fX0_ageAt_c7
    rw [h.1, if_neg (by rw [k_le (by omega) (by omega)]; omega), c_years h hI rfl (by omega), Option.bind_some, if_pos (k_in rfl (by omega) (by omega)), nI_clamp (by omega), (h.2.2.2.2.2 j (by omega)).1, eT, if_pos (by rw [k_lt (by omega) (by omega)]; omega), if_pos (k_in rfl (by omega) (by omega)), nI_l (by omega), lN_i, nI_add, nI_1]
    rfl
  · show fX0_ageAt_c7 c (nI d) (nI (topN st k)) (nI (ageN st (st 2) (st 3) k)) (nI k) nx = _
    have q1 := topN_16 hI (n := k + 1) hk.1
    have q2 := hk.2.1
    have q3 := yrN_le hI (f := st 2) hI.2.2.2.1 (n := k) hk.1
    have q4 := lay_top hk
    have eT : nI (topN st k) + nI (st (8 * k + 5)) = nI (topN st (k + 1)) := nI_add _ _
    have q5 : yrN st (st 2) (st 3) k * (d - topN st k) ≤ 2500000 * 200000 := Nat.mul_le_mul q3 (by omega)
    unfold fX0_ageAt_c7
    rw [h.1, if_neg (by rw [k_le (by omega) (by omega)]; omega), c_years h hI rfl (by omega), Option.bind_some, if_pos (k_in rfl (by omega) (by omega)), nI_clamp (by omega), (h.2.2.2.2.2 k (by omega)).1, eT, if_neg (by rw [k_lt (by omega) (by omega)]; omega), if_pos (k_in rfl (by omega) (by omega)), nI_l (by omega), pk_sub q4, nI_l (by omega), nI_l (by omega), lN_mul, fX4_quotient_ok (by omega) (by omega) (by omega), Option.bind_some, lN_i, nI_add]
    rfl
theorem c_gasAgeAt {st : Nat → Nat} {c : KC} (h : RC st c) (hI : Inv st) {x : Int32} {d k : Nat} (hx : x = nI d) (hk : LayAt st d k) : fX0_gasAgeAt c x = some (nI (agN st d k - delN st k)) := by
  subst hx
  have h16 := hI.1
  have hk0 := hk.1
  have hd : d ≤ 200000 := Nat.le_trans hk.2.1 (topN_16 hI hk.1)
  unfold fX0_gasAgeAt
  refine kLoop_to (fun j => (nI (topN st j), nI j)) k rfl (fun j hj nx => ?_) (fun nx => ?_) (by rw [kFu_eq]; omega)
  · show fX0_gasAgeAt_c4 c (nI d) (nI (topN st j)) (nI j) nx = nx (nI (topN st (j + 1)), nI (j + 1))
    have q1 := topN_16 hI (n := j + 1) (by omega)
    have q2 := hk.2.2 j hj
    have eT : nI (topN st j) + nI (st (8 * j + 5)) = nI (topN st (j + 1)) := nI_add _ _
    unfold fX0_gasAgeAt_c4
    rw [h.1, if_neg (by rw [k_le (by omega) (by omega)]; omega), if_pos (k_in rfl (by omega) (by omega)), nI_clamp (by omega), (h.2.2.2.2.2 j (by omega)).1, eT, if_pos (by rw [k_lt (by omega) (by omega)]; omega), nI_1]
  · show fX0_gasAgeAt_c4 c (nI d) (nI (topN st k)) (nI k) nx = _
    have q1 := topN_16 hI (n := k + 1) hk.1
    have q2 := hk.2.1
    have h1 := agN_le hI hk
    have h2 := ageN_le hI (f := st 2) hI.2.2.2.1 (k + 1) hk.1
    have h3 := delN_le hI hk.1
    have eT : nI (topN st k) + nI (st (8 * k + 5)) = nI (topN st (k + 1)) := nI_add _ _
    unfold fX0_gasAgeAt_c4
    rw [h.1, if_neg (by rw [k_le (by omega) (by omega)]; omega), if_pos (k_in rfl (by omega) (by omega)), nI_clamp (by omega), (h.2.2.2.2.2 k (by omega)).1, eT, if_neg (by rw [k_lt (by omega) (by omega)]; omega), c_ageAt h hI rfl hk, Option.bind_some, c_delayOf h hI rfl hk.1, Option.bind_some]
    by_cases hc : delN st k < agN st d k
    · rw [pk_sub (by omega), if_pos (by rw [show (0 : Int32) = nI 0 from rfl, k_lt (by omega) (by omega)]; omega)]
    · rw [if_neg, show agN st d k - delN st k = 0 by omega]
      · rfl
      · rw [Int32.lt_iff_toInt_lt, pk_sub_toInt (by omega) (by omega), show (0 : Int32).toInt = 0 from by decide]
        omega
/-! the seal -/
def sealN (st : Nat → Nat) : Nat → Int32
  | 0 => 7
  | j + 1 => (31 : Int32) * sealN st j + nI (ageN st (st 2) (st 3) (j + 1))
