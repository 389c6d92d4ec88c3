/-! ===== PURE: what ties the two states ===== -/
def RRs (st : Nat → Nat) (pst : Nat → Nat → Nat) (n q t : Nat) (X : KX) (M : KM) (C : KC) (H : KH) (T : KT) (S : KS) : Prop := RM st M ∧ RC st C ∧ Inv st ∧ M.2.2.1 = 0 ∧ X.1 = M.1 ∧ X.2 = M.2.2.2.2.1 ∧ (n ≤ 8 ∧ q < 9 ∧ M.2.1 = nI n ∧ H = (nI q, nI n) ∧ RP n pst M.2.2.2.2.2.2.2.1 ∧ ∀ r, r < n → RC (pst r) (S ((q + r) % 9)) ∧ Inv (pst r)) ∧ (t ≤ 80 ∧ T.1 = nI t ∧ M.2.2.2.1 = nI t ∧ ∀ i, i < t → ∃ ch : Nat, 32 ≤ ch ∧ ch ≤ 126 ∧ T.2.2.1 i = nI ch ∧ M.2.2.2.2.2.2.2.2.2.1 i = nI ch)
def RR (X : KX) (M : KM) (C : KC) (F : KF) (H : KH) (T : KT) (S : KS) : Prop := ∃ (st : Nat → Nat) (pst : Nat → Nat → Nat) (n q t : Nat), RRs st pst n q t X M C H T S
theorem RR_read {X : KX} {M : KM} {C : KC} {F : KF} {H : KH} {T : KT} {S : KS} {f5 : Option Int32} {f4 : Option Int32} (hR : RR X M C F H T S) (h : ∀ st, RM st M → RC st C → Inv st → ∃ r, f4 = some r ∧ f5 = some r) : ∃ r, f4 = some r ∧ f5 = some r ∧ RR X M C F H T S := by
  obtain ⟨st, pst, n, q, t, hr⟩ := id hR
  obtain ⟨r, h1, h2⟩ := h st hr.1 hr.2.1 hr.2.2.1
  exact ⟨r, h1, h2, hR⟩
theorem hr_thickness : hop_thickness RR := by
  intro X M C F H T S hR a1
  refine RR_read hR (fun st hM hC hI => ?_)
  have h16 := hI.1
  by_cases hx : ∃ k, k < st 0 ∧ a1 = nI k
  · obtain ⟨k, hk, rfl⟩ := hx
    have hl := hC.2.2.2.2.2 k hk
    refine ⟨nI (st (8 * k + 5)), ?_, ?_⟩
    · unfold fX4_thickness
      rw [c_has_t hC h16 rfl hk, Option.bind_some, if_neg (by decide), if_pos (k_in rfl (by omega) (by omega)), nI_clamp (by omega), hl.1]
    · unfold fX5_thickness fX5_told
      rw [m_isLayer_t hM h16 rfl hk, Option.bind_some, if_neg (by decide), m_of5 hM (by omega), Option.bind_some, Option.bind_some]
  · refine ⟨-1000000001, ?_, ?_⟩
    · unfold fX4_thickness
      rw [c_has_f hC h16 hx, Option.bind_some, if_pos rfl]
    · unfold fX5_thickness fX5_told
      rw [m_isLayer_f hM h16 hx, Option.bind_some, if_pos rfl, Option.bind_some]
theorem hr_accumulation : hop_accumulation RR := by
  intro X M C F H T S hR a1
  refine RR_read hR (fun st hM hC hI => ?_)
  have h16 := hI.1
  by_cases hx : ∃ k, k < st 0 ∧ a1 = nI k
  · obtain ⟨k, hk, rfl⟩ := hx
    have hl := hC.2.2.2.2.2 k hk
    refine ⟨nI (st (8 * k + 6)), ?_, ?_⟩
    · unfold fX4_accumulation
      rw [c_has_t hC h16 rfl hk, Option.bind_some, if_neg (by decide), if_pos (k_in rfl (by omega) (by omega)), nI_clamp (by omega), hl.2.1]
    · unfold fX5_accumulation fX5_told
      rw [m_isLayer_t hM h16 rfl hk, Option.bind_some, if_neg (by decide), m_of6 hM (by omega), Option.bind_some, Option.bind_some]
  · refine ⟨-1000000001, ?_, ?_⟩
    · unfold fX4_accumulation
      rw [c_has_f hC h16 hx, Option.bind_some, if_pos rfl]
    · unfold fX5_accumulation fX5_told
      rw [m_isLayer_f hM h16 hx, Option.bind_some, if_pos rfl, Option.bind_some]
theorem hr_correction : hop_correction RR := by
  intro X M C F H T S hR a1
  refine RR_read hR (fun st hM hC hI => ?_)
  have h16 := hI.1
  by_cases hx : ∃ k, k < st 0 ∧ a1 = nI k
  · obtain ⟨k, hk, rfl⟩ := hx
    have hl := hC.2.2.2.2.2 k hk
    refine ⟨nI (st (8 * k + 7)), ?_, ?_⟩
    · unfold fX4_correction
      rw [c_has_t hC h16 rfl hk, Option.bind_some, if_neg (by decide), if_pos (k_in rfl (by omega) (by omega)), nI_clamp (by omega), hl.2.2.1]
    · unfold fX5_correction fX5_told
      rw [m_isLayer_t hM h16 rfl hk, Option.bind_some, if_neg (by decide), m_of7 hM (by omega), Option.bind_some, Option.bind_some]
  · refine ⟨-1000000001, ?_, ?_⟩
    · unfold fX4_correction
      rw [c_has_f hC h16 hx, Option.bind_some, if_pos rfl]
    · unfold fX5_correction fX5_told
      rw [m_isLayer_f hM h16 hx, Option.bind_some, if_pos rfl, Option.bind_some]
theorem hr_thinning : hop_thinning RR := by
  intro X M C F H T S hR a1
  refine RR_read hR (fun st hM hC hI => ?_)
  have h16 := hI.1
  by_cases hx : ∃ k, k < st 0 ∧ a1 = nI k
  · obtain ⟨k, hk, rfl⟩ := hx
    have hl := hC.2.2.2.2.2 k hk
    refine ⟨nI (thinN st (st 2) (st 3) k), ?_, ?_⟩
    · unfold fX4_thinning
      rw [c_has_t hC h16 rfl hk, Option.bind_some, if_neg (by decide), c_thinningOf hC hI rfl hk hC.2.2.1 hI.2.2.1 hC.2.2.2.1 hI.2.2.2.1, Option.bind_some]
    · unfold fX5_thinning
      rw [m_isLayer_t hM h16 rfl hk, Option.bind_some, if_neg (by decide), m_thinningOf hM hI rfl hk, Option.bind_some]
  · refine ⟨-1000000001, ?_, ?_⟩
    · unfold fX4_thinning
      rw [c_has_f hC h16 hx, Option.bind_some, if_pos rfl]
    · unfold fX5_thinning
      rw [m_isLayer_f hM h16 hx, Option.bind_some, if_pos rfl]
theorem hr_years : hop_years RR := by
  intro X M C F H T S hR a1
  refine RR_read hR (fun st hM hC hI => ?_)
  have h16 := hI.1
  by_cases hx : ∃ k, k < st 0 ∧ a1 = nI k
  · obtain ⟨k, hk, rfl⟩ := hx
    have hl := hC.2.2.2.2.2 k hk
    refine ⟨nI (yrN st (st 2) (st 3) k), ?_, ?_⟩
    · unfold fX4_years
      rw [c_has_t hC h16 rfl hk, Option.bind_some, if_neg (by decide), c_years hC hI rfl hk, Option.bind_some]
    · unfold fX5_years
      rw [m_isLayer_t hM h16 rfl hk, Option.bind_some, if_neg (by decide), m_yearsOf hM hI rfl hk, Option.bind_some]
  · refine ⟨-1000000001, ?_, ?_⟩
    · unfold fX4_years
      rw [c_has_f hC h16 hx, Option.bind_some, if_pos rfl]
    · unfold fX5_years
      rw [m_isLayer_f hM h16 hx, Option.bind_some, if_pos rfl]
theorem hr_delay : hop_delay RR := by
  intro X M C F H T S hR a1
  refine RR_read hR (fun st hM hC hI => ?_)
  have h16 := hI.1
  by_cases hx : ∃ k, k < st 0 ∧ a1 = nI k
  · obtain ⟨k, hk, rfl⟩ := hx
    have hl := hC.2.2.2.2.2 k hk
    refine ⟨nI (delN st k), ?_, ?_⟩
    · unfold fX4_delay
      rw [c_has_t hC h16 rfl hk, Option.bind_some, if_neg (by decide), c_delayOf hC hI rfl hk, Option.bind_some]
    · unfold fX5_delay
      rw [m_isLayer_t hM h16 rfl hk, Option.bind_some, if_neg (by decide), m_delayOf hM hI rfl hk, Option.bind_some]
  · refine ⟨-1000000001, ?_, ?_⟩
    · unfold fX4_delay
      rw [c_has_f hC h16 hx, Option.bind_some, if_pos rfl]
    · unfold fX5_delay
      rw [m_isLayer_f hM h16 hx, Option.bind_some, if_pos rfl]
theorem hr_layers : hop_layers RR := by
  intro X M C F H T S hR
  refine RR_read hR (fun st hM hC hI => ⟨nI (st 0), ?_, ?_⟩)
  · unfold fX4_layers
    rw [hC.1]
  · unfold fX5_layers
    rw [if_pos k_i0, k_c0, hM 0 (by omega)]
theorem hr_depth : hop_depth RR := by
  intro X M C F H T S hR
  refine RR_read hR (fun st hM hC hI => ⟨nI (topN st (st 0)), ?_, ?_⟩)
  · unfold fX4_depth
    rw [c_bottom hC hI.1, Option.bind_some]
  · unfold fX5_depth
    rw [m_bottom hM hI.1, Option.bind_some]
theorem hr_acts : hop_acts RR := by
  intro X M C F H T S hR
  obtain ⟨st, pst, n, q, t, hr⟩ := id hR
  refine ⟨M.1, ?_, rfl, hR⟩
  unfold fX4_acts
  rw [hr.2.2.2.2.1]
theorem hr_failure : hop_failure RR := by
  intro X M C F H T S hR
  obtain ⟨st, pst, n, q, t, hr⟩ := id hR
  refine ⟨M.2.2.2.2.1, ?_, rfl, hR⟩
  unfold fX4_failure
  rw [hr.2.2.2.2.2.1]
theorem c_residualOf {st : Nat → Nat} {c : KC} (h : RC st c) (hI : Inv st) {x : Int32} {k : Nat} (hx : x = nI k) (hk : k < st 0) (ha : st (8 * k + 9) = 1) : fX0_residualOf c x = some (nI (ageN st (st 2) (st 3) (k + 1)) - nI (st (8 * k + 10))) := by
  subst hx
  have h16 := hI.1
  unfold fX0_residualOf
  refine kLoop_to (fun j => (nI (ageN st (st 2) (st 3) j), nI j)) (k + 1) rfl (fun j hj nx => ?_) (fun nx => ?_) (by rw [kFu_eq]; omega)
  · show fX0_residualOf_c4 c (nI k) (nI (ageN st (st 2) (st 3) j)) (nI j) nx = nx (nI (ageN st (st 2) (st 3) (j + 1)), nI (j + 1))
    unfold fX0_residualOf_c4
    rw [if_neg (by rw [k_lt (by omega) (by omega)]; omega), h.1, if_neg (by rw [k_le (by omega) (by omega)]; omega), c_years h hI rfl (by omega), Option.bind_some, nI_add, nI_1]
    rfl
  · show fX0_residualOf_c4 c (nI k) (nI (ageN st (st 2) (st 3) (k + 1))) (nI (k + 1)) nx = _
    unfold fX0_residualOf_c4
    rw [if_pos (by rw [k_lt (by omega) (by omega)]; omega), if_pos (k_in rfl (by omega) (by omega)), nI_clamp (by omega), (h.2.2.2.2.2 k hk).2.2.2.2.1, if_pos ha]
theorem m_residualOf {st : Nat → Nat} {u : KM} (h : RM st u) (hI : Inv st) {x : Int32} {k : Nat} (hx : x = nI k) (hk : k < st 0) : fX5_residualOf u x = some (nI (ageN st (st 2) (st 3) (k + 1)) - nI (st (8 * k + 10))) := by
  subst hx
  have h16 := hI.1
  unfold fX5_residualOf
  rw [m_ageAtTop h hI (n := k + 1) (nI_1 k) (by omega), Option.bind_some, m_of10 h (by omega), Option.bind_some]
theorem hr_residual : hop_residual RR := by
  intro X M C F H T S hR a1
  refine RR_read hR (fun st hM hC hI => ?_)
  have h16 := hI.1
  by_cases hx : ∃ k, k < st 0 ∧ a1 = nI k
  · obtain ⟨k, hk, rfl⟩ := hx
    have hb := (hI.2.2.2.2.2.1 k hk).2.2.2.2.1
    by_cases ha : st (8 * k + 9) = 1
    · refine ⟨nI (ageN st (st 2) (st 3) (k + 1)) - nI (st (8 * k + 10)), ?_, ?_⟩
      · unfold fX4_residual
        rw [c_has_t hC h16 rfl hk, Option.bind_some, if_pos (by decide), c_hasAsh hC hI rfl hk, Option.bind_some, ha, if_neg (by decide), c_residualOf hC hI rfl hk ha, Option.bind_some]
      · unfold fX5_residual
        rw [m_isLayer_t hM h16 rfl hk, Option.bind_some, if_pos (by decide), m_of9 hM (by omega), Option.bind_some, ha, if_neg (fun z => z rfl), m_residualOf hM hI rfl hk, Option.bind_some]
    · have h0 : st (8 * k + 9) = 0 := by omega
      refine ⟨-1000000005, ?_, ?_⟩
      · unfold fX4_residual
        rw [c_has_t hC h16 rfl hk, Option.bind_some, if_pos (by decide), c_hasAsh hC hI rfl hk, Option.bind_some, h0, if_pos nI_0]
      · unfold fX5_residual
        rw [m_isLayer_t hM h16 rfl hk, Option.bind_some, if_pos (by decide), m_of9 hM (by omega), Option.bind_some, h0, if_pos (by decide)]
  · refine ⟨-1000000001, ?_, ?_⟩
    · unfold fX4_residual
      rw [c_has_f hC h16 hx, Option.bind_some, if_neg (fun z => z rfl)]
    · unfold fX5_residual
      rw [m_isLayer_f hM h16 hx, Option.bind_some, if_neg (fun z => z rfl)]
theorem c_hasCount {st : Nat → Nat} {c : KC} (h : RC st c) (hI : Inv st) {x : Int32} {k : Nat} (hx : x = nI k) (hk : k < st 0) : fX0_hasCount c x = some (if st (8 * k + 12) = 0 then 0 else 1) := by
  have h16 := hI.1
  have hl := (hI.2.2.2.2.2.1 k hk).2.2.2.2
  unfold fX0_hasCount
  rw [c_has_t h h16 hx hk, Option.bind_some, if_neg (by decide), hx, if_pos (k_in rfl (by omega) (by omega)), nI_clamp (by omega), (h.2.2.2.2.2 k hk).2.2.2.2.2.2]
  by_cases h1 : st (8 * k + 12) = 0
  · rw [if_pos h1, h1, if_pos nI_0]
  · rw [if_neg h1, if_neg]
    rw [show (0 : Int32) = nI 0 from rfl, k_eq (by omega) (by omega)]
    exact h1
theorem c_countErrorOf {st : Nat → Nat} {c : KC} (h : RC st c) (hI : Inv st) {x : Int32} {k : Nat} (hx : x = nI k) (hk : k < st 0) : fX0_countErrorOf c x = some (nI (yrN st (st 2) (st 3) k) - nI (st (8 * k + 12))) := by
  have h16 := hI.1
  unfold fX0_countErrorOf
  rw [c_years h hI hx hk, Option.bind_some, hx, if_pos (k_in rfl (by omega) (by omega)), nI_clamp (by omega), (h.2.2.2.2.2 k hk).2.2.2.2.2.2]
theorem hr_countError : hop_countError RR := by
  intro X M C F H T S hR a1
  refine RR_read hR (fun st hM hC hI => ?_)
  have h16 := hI.1
  by_cases hx : ∃ k, k < st 0 ∧ a1 = nI k
  · obtain ⟨k, hk, rfl⟩ := hx
    have hb := (hI.2.2.2.2.2.1 k hk).2.2.2.2.2.2.2
    by_cases ha : st (8 * k + 12) = 0
    · refine ⟨-1000000005, ?_, ?_⟩
      · unfold fX4_countError
        rw [c_has_t hC h16 rfl hk, Option.bind_some, if_pos (by decide), c_hasCount hC hI rfl hk, if_pos ha, Option.bind_some, if_pos rfl]
      · unfold fX5_countError
        rw [m_isLayer_t hM h16 rfl hk, Option.bind_some, if_pos (by decide), m_of12 hM (by omega), Option.bind_some, ha, if_pos (by decide)]
    · refine ⟨nI (yrN st (st 2) (st 3) k) - nI (st (8 * k + 12)), ?_, ?_⟩
      · unfold fX4_countError
        rw [c_has_t hC h16 rfl hk, Option.bind_some, if_pos (by decide), c_hasCount hC hI rfl hk, if_neg ha, Option.bind_some, if_neg (by decide), c_countErrorOf hC hI rfl hk, Option.bind_some]
      · unfold fX5_countError
        rw [m_isLayer_t hM h16 rfl hk, Option.bind_some, if_pos (by decide), m_of12 hM (by omega), Option.bind_some, if_neg (nI_nle (by omega) (by omega)), m_yearsOf hM hI rfl hk, Option.bind_some, Option.bind_some]
  · refine ⟨-1000000001, ?_, ?_⟩
    · unfold fX4_countError
      rw [c_has_f hC h16 hx, Option.bind_some, if_neg (fun z => z rfl)]
    · unfold fX5_countError
      rw [m_isLayer_f hM h16 hx, Option.bind_some, if_neg (fun z => z rfl)]
/-! how many fit -/
def fitN (st : Nat → Nat) : Nat → Nat
  | 0 => 0
  | j + 1 => fitN st j + if st (8 * j + 9) = 1 ∧ adN (ageN st (st 2) (st 3) (j + 1)) (st (8 * j + 10)) ≤ st (8 * j + 11) then 1 else 0
theorem adN_le {a b c : Nat} (ha : a ≤ c) (hb : b ≤ c) : adN a b ≤ c := by
  unfold adN
  omega
theorem m_fits {st : Nat → Nat} {u : KM} (h : RM st u) (hI : Inv st) : fX5_fits u = some (nI (fitN st (st 0))) := by
  have h16 := hI.1
  unfold fX5_fits
  refine kLoop_to (fun j => (nI (fitN st j), nI j)) (st 0) rfl (fun j hj nx => ?_) (fun nx => ?_) (by rw [kFu_eq]; omega)
  · show fX5_fits_c4 u (nI (fitN st j)) (nI j) nx = nx (nI (fitN st j + _), nI (j + 1))
    have hb := (hI.2.2.2.2.2.1 j hj).2.2.2.2
    have ha := ageN_le hI (f := st 2) hI.2.2.2.1 (j + 1) hj
    unfold fX5_fits_c4
    rw [if_pos k_i0, k_c0, h 0 (by omega), if_neg (by rw [k_le (by omega) (by omega)]; omega), m_of9 h (by omega), Option.bind_some]
    by_cases h1 : st (8 * j + 9) = 1
    · rw [h1, if_neg (fun z => z rfl), m_residualOf h hI rfl hj, Option.bind_some, k_sub64 (by omega) (by omega), m_size (by omega) (by omega), Option.bind_some, m_of11 h (by omega), Option.bind_some, nI_l (by omega), nI_1]
      have hd : adN (ageN st (st 2) (st 3) (j + 1)) (st (8 * j + 10)) ≤ 100000000 := adN_le (by omega) (by omega)
      by_cases h2 : adN (ageN st (st 2) (st 3) (j + 1)) (st (8 * j + 10)) ≤ st (8 * j + 11)
      · rw [if_neg (by rw [pk_lLT (by omega) (by omega)]; omega), if_pos ⟨rfl, h2⟩, nI_1]
      · rw [if_pos (by rw [pk_lLT (by omega) (by omega)]; omega), if_neg (fun z => h2 z.2), Int32.add_zero]
        rfl
    · rw [if_pos (by rw [show (1 : Int32) = nI 1 from rfl, k_eq (by omega) (by omega)]; exact h1), if_neg (fun z => h1 z.1), nI_1, Int32.add_zero]
      rfl
  · show fX5_fits_c4 u (nI (fitN st (st 0))) (nI (st 0)) nx = _
    unfold fX5_fits_c4
    rw [if_pos k_i0, k_c0, h 0 (by omega), if_pos (by rw [k_le (by omega) (by omega)]; omega)]
theorem c_fits {st : Nat → Nat} {c : KC} (h : RC st c) (hI : Inv st) : fX0_fittingBeds c = some (nI (fitN st (st 0))) := by
  have h16 := hI.1
  unfold fX0_fittingBeds
  refine kLoop_to (fun j => (nI (ageN st (st 2) (st 3) j), nI (fitN st j), nI j)) (st 0) rfl (fun j hj nx => ?_) (fun nx => ?_) (by rw [kFu_eq]; omega)
  · show fX0_fittingBeds_c6 c (nI (ageN st (st 2) (st 3) j)) (nI (fitN st j)) (nI j) nx = nx (nI (ageN st (st 2) (st 3) (j + 1)), nI (fitN st j + _), nI (j + 1))
    have hb := (hI.2.2.2.2.2.1 j hj).2.2.2.2
    have ha := ageN_le hI (f := st 2) hI.2.2.2.1 (j + 1) hj
    have hl := h.2.2.2.2.2 j hj
    have eA : nI (ageN st (st 2) (st 3) j) + nI (yrN st (st 2) (st 3) j) = nI (ageN st (st 2) (st 3) (j + 1)) := nI_add _ _
    unfold fX0_fittingBeds_c6
    rw [h.1, if_neg (by rw [k_le (by omega) (by omega)]; omega), c_years h hI rfl hj, Option.bind_some, c_hasAsh h hI rfl hj, Option.bind_some, eA, nI_1]
    by_cases h1 : st (8 * j + 9) = 1
    · have hd : adN (ageN st (st 2) (st 3) (j + 1)) (st (8 * j + 10)) ≤ 100000000 := adN_le (by omega) (by omega)
      rw [h1, if_neg (by decide), if_pos (k_in rfl (by omega) (by omega)), if_pos (k_in rfl (by omega) (by omega)), nI_clamp (by omega), hl.2.2.2.2.1, if_pos h1, hl.2.2.2.2.2.1 h1, k_absI (by omega) (by omega)]
      by_cases h2 : adN (ageN st (st 2) (st 3) (j + 1)) (st (8 * j + 10)) ≤ st (8 * j + 11)
      · rw [if_neg (by rw [k_lt (by omega) (by omega)]; omega), if_pos ⟨rfl, h2⟩, nI_1]
      · rw [if_pos (by rw [k_lt (by omega) (by omega)]; omega), if_neg (fun z => h2 z.2)]
        rfl
    · rw [if_pos (by rw [show st (8 * j + 9) = 0 by omega]; rfl), if_neg (fun z => h1 z.1)]
      rfl
  · show fX0_fittingBeds_c6 c (nI (ageN st (st 2) (st 3) (st 0))) (nI (fitN st (st 0))) (nI (st 0)) nx = _
    unfold fX0_fittingBeds_c6
    rw [h.1, if_pos (by rw [k_le (by omega) (by omega)]; omega)]
theorem hr_fitting : hop_fitting RR := by
  intro X M C F H T S hR
  refine RR_read hR (fun st hM hC hI => ⟨nI (fitN st (st 0)), ?_, ?_⟩)
  · unfold fX4_fitting
    rw [c_fits hC hI, Option.bind_some]
  · unfold fX5_fitting
    rw [m_fits hM hI, Option.bind_some]
