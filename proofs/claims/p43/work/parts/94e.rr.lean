/-! ===== PURE: what ties the two states ===== -/
theorem c_residualOf {st : Nat → Nat} {c : KC} (h : RC st c) (hI : Inv st) {x : Int32} {k : Nat} (hx : x = nI k) (hk : k < st 0) (ha : st (8 * k + 9) = 1) : fX0_residualOf c x = some (nI (ageN st (st 2) (st 3) (k + 1)) - nI (st (8 * k + 10))) := by
  subst hx
  have h16 := hI.1
  unfold fX0_residualOf
  refine kLoop_to (fun j => (nI (ageN st (st 2) (st 3) j), nI j)) (k + 1) rfl (fun j hj nx => ?_) (fun nx => ?_) (by rw [kFu_eq]; omega)
  · show fX0_residualOf_c4 c (nI k) (nI (ageN st (st 2) (st 3) j)) (nI j) nx = nx (nI (ageN st (st 2) (st 3) (j + 1)), nI (j + 1))
    unfold fX0_residualOf_c4
    rw [if_neg (by rw [k_lt (by omega) (by omega)]; omega), h.1, if_neg (by rw [k_le (by omega) (by omega)]; omega), c_years h hI rfl (by omega), Option.bind_some, nI_add, nI_1]
    rfl
  · show fX0_residualOf_c4 c (nI k) (nI (ageN st (st 2) (st 3) (k + 1))) (nI (k + 1)) nx = _
    unfold fX0_residualOf_c4
    rw [if_pos (by rw [k_lt (by omega) (by omega)]; omega), if_pos (k_in rfl (by omega) (by omega)), nI_clamp (by omega), (h.2.2.2.2.2 k hk).2.2.2.2.1, if_pos ha]
theorem m_residualOf {st : Nat → Nat} {u : KM} (h : RM st u) (hI : Inv st) {x : Int32} {k : Nat} (hx : x = nI k) (hk : k < st 0) : fX5_residualOf u x = some (nI (ageN st (st 2) (st 3) (k + 1)) - nI (st (8 * k + 10))) := by
  subst hx
  have h16 := hI.1
  unfold fX5_residualOf
  rw [m_ageAtTop h hI (n := k + 1) (nI_1 k) (by omega), Option.bind_some, m_of10 h (by omega), Option.bind_some]
theorem c_hasCount {st : Nat → Nat} {c : KC} (h : RC st c) (hI : Inv st) {x : Int32} {k : Nat} (hx : x = nI k) (hk : k < st 0) : fX0_hasCount c x = some (if st (8 * k + 12) = 0 then 0 else 1) := by
  have h16 := hI.1
  have hl := (hI.2.2.2.2.2.1 k hk).2.2.2.2
  unfold fX0_hasCount
  rw [c_has_t h h16 hx hk, Option.bind_some, if_neg (by decide), hx, if_pos (k_in rfl (by omega) (by omega)), nI_clamp (by omega), (h.2.2.2.2.2 k hk).2.2.2.2.2.2]
  by_cases h1 : st (8 * k + 12) = 0
  · rw [if_pos h1, h1, if_pos nI_0]
  · rw [if_neg h1, if_neg]
    rw [show (0 : Int32) = nI 0 from rfl, k_eq (by omega) (by omega)]
    exact h1
theorem c_countErrorOf {st : Nat → Nat} {c : KC} (h : RC st c) (hI : Inv st) {x : Int32} {k : Nat} (hx : x = nI k) (hk : k < st 0) : fX0_countErrorOf c x = some (nI (yrN st (st 2) (st 3) k) - nI (st (8 * k + 12))) := by
  have h16 := hI.1
  unfold fX0_countErrorOf
  rw [c_years h hI hx hk, Option.bind_some, hx, if_pos (k_in rfl (by omega) (by omega)), nI_clamp (by omega), (h.2.2.2.2.2 k hk).2.2.2.2.2.2]
/-! how many fit -/
def fitN (st : Nat → Nat) : Nat → Nat
  | 0 => 0
  | j + 1 => fitN st j + if st (8 * j + 9) = 1 ∧ adN (ageN st (st 2) (st 3) (j + 1)) (st (8 * j + 10)) ≤ st (8 * j + 11) then 1 else 0
theorem adN_le {a b c : Nat} (ha : a ≤ c) (hb : b ≤ c) : adN a b ≤ c := by
  unfold adN
  omega
theorem m_fits {st : Nat → Nat} {u : KM} (h : RM st u) (hI : Inv st) : fX5_fits u = some (nI (fitN st (st 0))) := by
  have h16 := hI.1
  unfold fX5_fits
  refine kLoop_to (fun j => (nI (fitN st j), nI j)) (st 0) rfl (fun j hj nx => ?_) (fun nx => ?_) (by rw [kFu_eq]; omega)
  · show fX5_fits_c4 u (nI (fitN st j)) (nI j) nx = nx (nI (fitN st j + _), nI (j + 1))
    have hb := (hI.2.2.2.2.2.1 j hj).2.2.2.2
    have ha := ageN_le hI (f := st 2) hI.2.2.2.1 (j + 1) hj
    unfold fX5_fits_c4
    rw [if_pos k_i0, k_c0, h 0 (by omega), if_neg (by rw [k_le (by omega) (by omega)]; omega), m_of9 h (by omega), Option.bind_some]
    by_cases h1 : st (8 * j + 9) = 1
    · rw [h1, if_neg (fun z => z rfl), m_residualOf h hI rfl hj, Option.bind_some, k_sub64 (by omega) (by omega), m_size (by omega) (by omega), Option.bind_some, m_of11 h (by omega), Option.bind_some, nI_l (by omega), nI_1]
      have hd : adN (ageN st (st 2) (st 3) (j + 1)) (st (8 * j + 10)) ≤ 100000000 := adN_le (by omega) (by omega)
      by_cases h2 : adN (ageN st (st 2) (st 3) (j + 1)) (st (8 * j + 10)) ≤ st (8 * j + 11)
      · rw [if_neg (by rw [pk_lLT (by omega) (by omega)]; omega), if_pos ⟨rfl, h2⟩, nI_1]
      · rw [if_pos (by rw [pk_lLT (by omega) (by omega)]; omega), if_neg (fun z => h2 z.2), Int32.add_zero]
        rfl
    · rw [if_pos (by rw [show (1 : Int32) = nI 1 from rfl, k_eq (by omega) (by omega)]; exact h1), if_neg (fun z => h1 z.1), nI_1, Int32.add_zero]
      rfl
  · show fX5_fits_c4 u (nI (fitN st (st 0))) (nI (st 0)) nx = _
    unfold fX5_fits_c4
    rw [if_pos k_i0, k_c0, h 0 (by omega), if_pos (by rw [k_le (by omega) (by omega)]; omega)]
theorem c_fits {st : Nat → Nat} {c : KC} (h : RC st c) (hI : Inv st) : fX0_fittingBeds c = some (nI (fitN st (st 0))) := by
  have h16 := hI.1
  unfold fX0_fittingBeds
  refine kLoop_to (fun j => (nI (ageN st (st 2) (st 3) j), nI (fitN st j), nI j)) (st 0) rfl (fun j hj nx => ?_) (fun nx => ?_) (by rw [kFu_eq]; omega)
  · show fX0_fittingBeds_c6 c (nI (ageN st (st 2) (st 3) j)) (nI (fitN st j)) (nI j) nx = nx (nI (ageN st (st 2) (st 3) (j + 1)), nI (fitN st j + _), nI (j + 1))
    have hb := (hI.2.2.2.2.2.1 j hj).2.2.2.2
    have ha := ageN_le hI (f := st 2) hI.2.2.2.1 (j + 1) hj
    have hl := h.2.2.2.2.2 j hj
    have eA : nI (ageN st (st 2) (st 3) j) + nI (yrN st (st 2) (st 3) j) = nI (ageN st (st 2) (st 3) (j + 1)) := nI_add _ _
    unfold fX0_fittingBeds_c6
    rw [h.1, if_neg (by rw [k_le (by omega) (by omega)]; omega), c_years h hI rfl hj, Option.bind_some, c_hasAsh h hI rfl hj, Option.bind_some, eA, nI_1]
    by_cases h1 : st (8 * j + 9) = 1
    · have hd : adN (ageN st (st 2) (st 3) (j + 1)) (st (8 * j + 10)) ≤ 100000000 := adN_le (by omega) (by omega)
      rw [h1, if_neg (by decide), if_pos (k_in rfl (by omega) (by omega)), if_pos (k_in rfl (by omega) (by omega)), nI_clamp (by omega), hl.2.2.2.2.1, if_pos h1, hl.2.2.2.2.2.1 h1, k_absI (by omega) (by omega)]
      by_cases h2 : adN (ageN st (st 2) (st 3) (j + 1)) (st (8 * j + 10)) ≤ st (8 * j + 11)
      · rw [if_neg (by rw [k_lt (by omega) (by omega)]; omega), if_pos ⟨rfl, h2⟩, nI_1]
      · rw [if_pos (by rw [k_lt (by omega) (by omega)]; omega), if_neg (fun z => h2 z.2)]
        rfl
    · rw [if_pos (by rw [show st (8 * j + 9) = 0 by omega]; rfl), if_neg (fun z => h1 z.1)]
      rfl
  · show fX0_fittingBeds_c6 c (nI (ageN st (st 2) (st 3) (st 0))) (nI (fitN st (st 0))) (nI (st 0)) nx = _
    unfold fX0_fittingBeds_c6
    rw [h.1, if_pos (by rw [k_le (by omega) (by omega)]; omega)]
