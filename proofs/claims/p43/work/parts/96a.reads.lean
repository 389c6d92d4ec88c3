/-! ===== PURE: what the class's calls answer, as numbers ===== -/
theorem x_layers {st : Nat → Nat} {X : KX} {C : KC} (h : RC st C) : fX4_layers X C = some (nI (st 0)) := by
  unfold fX4_layers
  rw [h.1]
theorem x_depth {st : Nat → Nat} {X : KX} {C : KC} (h : RC st C) (hI : Inv st) : fX4_depth X C = some (nI (topN st (st 0))) := by
  unfold fX4_depth
  rw [c_bottom h hI.1, Option.bind_some]
theorem x_thick {st : Nat → Nat} {X : KX} {C : KC} (h : RC st C) (hI : Inv st) {k : Nat} (hk : k < st 0) : fX4_thickness X C (nI k) = some (nI (st (8 * k + 5))) := by
  have h16 := hI.1
  unfold fX4_thickness
  rw [c_has_t h h16 rfl hk, Option.bind_some, if_neg (by decide), if_pos (k_in rfl (by omega) (by omega)), nI_clamp (by omega), (h.2.2.2.2.2 k hk).1]
theorem x_thick0 {st : Nat → Nat} {X : KX} {C : KC} (h : RC st C) (hI : Inv st) : fX4_thickness X C (nI (st 0)) = some (-1000000001) := by
  have h16 := hI.1
  have hx : ¬ ∃ k, k < st 0 ∧ nI (st 0) = nI k := by
    rintro ⟨k, hk, e⟩
    rw [k_eq (by omega) (by omega)] at e
    omega
  unfold fX4_thickness
  rw [c_has_f h h16 hx, Option.bind_some, if_pos rfl]
theorem x_thin {st : Nat → Nat} {X : KX} {C : KC} (h : RC st C) (hI : Inv st) {k : Nat} (hk : k < st 0) : fX4_thinning X C (nI k) = some (nI (thinN st (st 2) (st 3) k)) := by
  have h16 := hI.1
  unfold fX4_thinning
  rw [c_has_t h h16 rfl hk, Option.bind_some, if_neg (by decide), c_thinningOf h hI rfl hk h.2.2.1 hI.2.2.1 h.2.2.2.1 hI.2.2.2.1, Option.bind_some]
theorem x_years {st : Nat → Nat} {X : KX} {C : KC} (h : RC st C) (hI : Inv st) {k : Nat} (hk : k < st 0) : fX4_years X C (nI k) = some (nI (yrN st (st 2) (st 3) k)) := by
  have h16 := hI.1
  unfold fX4_years
  rw [c_has_t h h16 rfl hk, Option.bind_some, if_neg (by decide), c_years h hI rfl hk, Option.bind_some]
theorem x_delay {st : Nat → Nat} {X : KX} {C : KC} (h : RC st C) (hI : Inv st) {k : Nat} (hk : k < st 0) : fX4_delay X C (nI k) = some (nI (delN st k)) := by
  have h16 := hI.1
  unfold fX4_delay
  rw [c_has_t h h16 rfl hk, Option.bind_some, if_neg (by decide), c_delayOf h hI rfl hk, Option.bind_some]
theorem x_resid1 {st : Nat → Nat} {X : KX} {C : KC} (h : RC st C) (hI : Inv st) {k : Nat} (hk : k < st 0) (ha : st (8 * k + 9) = 1) : fX4_residual X C (nI k) = some (nI (ageN st (st 2) (st 3) (k + 1)) - nI (st (8 * k + 10))) := by
  have h16 := hI.1
  unfold fX4_residual
  rw [c_has_t h h16 rfl hk, Option.bind_some, if_pos (by decide), c_hasAsh h hI rfl hk, Option.bind_some, ha, if_neg (by decide), c_residualOf h hI rfl hk ha, Option.bind_some]
theorem x_resid0 {st : Nat → Nat} {X : KX} {C : KC} (h : RC st C) (hI : Inv st) {k : Nat} (hk : k < st 0) (ha : ¬ st (8 * k + 9) = 1) : fX4_residual X C (nI k) = some (-1000000005) := by
  have h16 := hI.1
  have hb := (hI.2.2.2.2.2.1 k hk).2.2.2.2.1
  unfold fX4_residual
  rw [c_has_t h h16 rfl hk, Option.bind_some, if_pos (by decide), c_hasAsh h hI rfl hk, Option.bind_some, show st (8 * k + 9) = 0 by omega, if_pos nI_0]
theorem x_count1 {st : Nat → Nat} {X : KX} {C : KC} (h : RC st C) (hI : Inv st) {k : Nat} (hk : k < st 0) (ha : ¬ st (8 * k + 12) = 0) : fX4_countError X C (nI k) = some (nI (yrN st (st 2) (st 3) k) - nI (st (8 * k + 12))) := by
  have h16 := hI.1
  unfold fX4_countError
  rw [c_has_t h h16 rfl hk, Option.bind_some, if_pos (by decide), c_hasCount h hI rfl hk, if_neg ha, Option.bind_some, if_neg (by decide), c_countErrorOf h hI rfl hk, Option.bind_some]
theorem x_count0 {st : Nat → Nat} {X : KX} {C : KC} (h : RC st C) (hI : Inv st) {k : Nat} (hk : k < st 0) (ha : st (8 * k + 12) = 0) : fX4_countError X C (nI k) = some (-1000000005) := by
  have h16 := hI.1
  unfold fX4_countError
  rw [c_has_t h h16 rfl hk, Option.bind_some, if_pos (by decide), c_hasCount h hI rfl hk, if_pos ha, Option.bind_some, if_pos rfl]
theorem x_fitting {st : Nat → Nat} {X : KX} {C : KC} (h : RC st C) (hI : Inv st) : fX4_fitting X C = some (nI (fitN st (st 0))) := by
  unfold fX4_fitting
  rw [c_fits h hI, Option.bind_some]
theorem x_df {st : Nat → Nat} {X : KX} {C : KC} (h : RC st C) (hI : Inv st) {d k : Nat} (hk : LayAt st d k) : fX4_depthFault X C (nI d) = some 0 := by
  have h16 := hI.1
  have hb := topN_16 hI (n := st 0) (Nat.le_refl _)
  have h1 := topN_le (st := st) (n := k + 1) (m := st 0) hk.1
  have h2 := hk.2.1
  have h0 := hk.1
  unfold fX4_depthFault
  rw [if_neg (nI_pos (by omega)), c_bottom h h16, Option.bind_some, if_pos (by rw [k_le (by omega) (by omega)]; omega), h.1, if_pos (nI_ne0 (by omega) (by omega))]
theorem x_age {st : Nat → Nat} {X : KX} {C : KC} (h : RC st C) (hI : Inv st) {d k : Nat} (hk : LayAt st d k) : fX4_age X C (nI d) = some (nI (agN st d k)) := by
  unfold fX4_age
  rw [x_df h hI hk, Option.bind_some, if_neg (fun z => z rfl), c_ageAt h hI rfl hk, Option.bind_some]
theorem x_gas {st : Nat → Nat} {X : KX} {C : KC} (h : RC st C) (hI : Inv st) {d k : Nat} (hk : LayAt st d k) : fX4_gasAge X C (nI d) = some (nI (gasN st d k)) := by
  unfold fX4_gasAge
  rw [x_df h hI hk, Option.bind_some, if_neg (fun z => z rfl), c_gasAgeAt h hI rfl hk, Option.bind_some]
  rfl
theorem x_ageBad {st : Nat → Nat} {X : KX} {C : KC} (h : RC st C) (hI : Inv st) : fX4_age X C (nI (topN st (st 0) + 1)) = some (-1000000002) := by
  have h16 := hI.1
  have hb := topN_16 hI (n := st 0) (Nat.le_refl _)
  have e : fX4_depthFault X C (nI (topN st (st 0) + 1)) = some (-1000000002) := by
    unfold fX4_depthFault
    rw [if_neg (nI_pos (by omega)), c_bottom h h16, Option.bind_some, if_neg (by rw [k_le (by omega) (by omega)]; omega)]
  unfold fX4_age
  rw [e, Option.bind_some, if_pos (by decide)]
theorem x_lead {st : Nat → Nat} {X : KX} {C : KC} (h : RC st C) (hI : Inv st) {d k : Nat} (hk : LayAt st d k) : fX4_lead X C (nI d) (nI d) = some (nI (agN st d k) - nI (gasN st d k)) := by
  unfold fX4_lead
  rw [x_df h hI hk, Option.bind_some, if_neg (by decide), Option.bind_some]
  unfold fX4_lead_c18
  rw [if_neg (fun z => z rfl), c_ageAt h hI rfl hk, Option.bind_some, c_gasAgeAt h hI rfl hk, Option.bind_some]
  rfl
theorem x_seal {st : Nat → Nat} {X : KX} {C : KC} (h : RC st C) (hI : Inv st) : fX4_seal X C = some ((sealN st (st 0)).toInt16.toInt32) := by
  have h16 := hI.1
  have e : fX0_sealOfAges C = some ((sealN st (st 0)).toInt16.toInt32) := by
    unfold fX0_sealOfAges
    refine kLoop_to (fun j => (nI (ageN st (st 2) (st 3) j), sealN st j, nI j)) (st 0) rfl (fun j hj nx => ?_) (fun nx => ?_) (by rw [kFu_eq]; omega)
    · show fX0_sealOfAges_c7 C (nI (ageN st (st 2) (st 3) j)) (sealN st j) (nI j) nx = nx (nI (ageN st (st 2) (st 3) (j + 1)), sealN st (j + 1), nI (j + 1))
      unfold fX0_sealOfAges_c7
      rw [h.1, if_neg (by rw [k_le (by omega) (by omega)]; omega), c_years h hI rfl hj, Option.bind_some, nI_add, nI_1]
      rfl
    · show fX0_sealOfAges_c7 C (nI (ageN st (st 2) (st 3) (st 0))) (sealN st (st 0)) (nI (st 0)) nx = _
      unfold fX0_sealOfAges_c7
      rw [h.1, if_pos (by rw [k_le (by omega) (by omega)]; omega)]
  unfold fX4_seal
  rw [e, Option.bind_some]
theorem x_best0 {st : Nat → Nat} {X : KX} {C : KC} (h : RC st C) (hI : Inv st) (ha : ashN st (st 0) = 0) : fX4_bestFunction X C = some (-1000000005) := by
  unfold fX4_bestFunction
  rw [c_ashBeds h hI, Option.bind_some, ha, if_neg (fun z => z rfl)]
theorem x_acts {X : KX} : fX4_acts X = some X.1 := rfl
/-! ages at borders; a depth's layer -/
theorem agN_border {st : Nat → Nat} (hI : Inv st) {i : Nat} (h : i < st 0) : agN st (topN st (i + 1)) i = ageN st (st 2) (st 3) (i + 1) := by
  have hth := (hI.2.2.2.2.2.1 i h).1
  have e : topN st (i + 1) - topN st i = st (8 * i + 5) := by
    have : topN st (i + 1) = topN st i + st (8 * i + 5) := rfl
    omega
  unfold agN
  rw [e, Nat.mul_div_cancel _ (by omega)]
  rfl
theorem agN_lt {st : Nat → Nat} (hI : Inv st) {d k : Nat} (hk : LayAt st d k) : agN st d k ≤ 40000000 := by
  have h16 := hI.1
  have h0 := hk.1
  have h1 := agN_le hI hk
  have h2 := ageN_le hI (f := st 2) hI.2.2.2.1 (k + 1) hk.1
  omega
theorem ageN_lt {st : Nat → Nat} (hI : Inv st) {j : Nat} (hj : j ≤ st 0) : ageN st (st 2) (st 3) j ≤ 40000000 := by
  have h16 := hI.1
  have h2 := ageN_le hI (f := st 2) hI.2.2.2.1 j hj
  omega
theorem lay_top0 {st : Nat → Nat} (h : 0 < st 0) : LayAt st 0 0 := ⟨h, Nat.zero_le _, fun j hj => absurd hj (by omega)⟩
theorem agN_top0 (st : Nat → Nat) : agN st 0 0 = 0 := by
  unfold agN
  rw [Nat.zero_sub, Nat.mul_zero, Nat.zero_div]
  rfl
/-- the age at a layer's top -/
theorem x_ageTop {st : Nat → Nat} {X : KX} {C : KC} (h : RC st C) (hI : Inv st) (h0 : 0 < st 0) {j : Nat} (hj : j ≤ st 0) : fX4_age X C (nI (topN st j)) = some (nI (ageN st (st 2) (st 3) j)) := by
  cases j with
  | zero =>
    have e := x_age (X := X) h hI (lay_top0 h0)
    rw [agN_top0] at e
    exact e
  | succ i =>
    rw [x_age h hI (lay_border hI (i := i) (by omega)), agN_border hI (by omega)]
/-- within a layer -/
theorem lay_mid {st : Nat → Nat} {j o : Nat} (hj : j < st 0) (ho : o ≤ st (8 * j + 5)) (h : 1 ≤ o ∨ j = 0) : LayAt st (topN st j + o) j := by
  refine ⟨hj, ?_, fun i hi => ?_⟩
  · show _ ≤ topN st j + st (8 * j + 5)
    omega
  · have := topN_le (st := st) (n := i + 1) (m := j) hi
    omega
theorem agN_mid (st : Nat → Nat) (j o : Nat) : agN st (topN st j + o) j = ageN st (st 2) (st 3) j + yrN st (st 2) (st 3) j * o / st (8 * j + 5) := by
  unfold agN
  rw [Nat.add_sub_cancel_left]
theorem x_mid {st : Nat → Nat} {X : KX} {C : KC} (h : RC st C) (hI : Inv st) {j : Nat} (hj : j < st 0) : ∃ a : Nat, fX4_age X C (nI (topN st j + st (8 * j + 5) / 2)) = some (nI a) ∧ ageN st (st 2) (st 3) j ≤ a ∧ a ≤ ageN st (st 2) (st 3) (j + 1) := by
  have hth := (hI.2.2.2.2.2.1 j hj).1
  have e1 : ageN st (st 2) (st 3) (j + 1) = ageN st (st 2) (st 3) j + yrN st (st 2) (st 3) j := rfl
  by_cases c : 1 ≤ st (8 * j + 5) / 2 ∨ j = 0
  · refine ⟨_, x_age h hI (lay_mid hj (by omega) c), ?_, ?_⟩
    · rw [agN_mid]
      exact Nat.le_add_right _ _
    · have := agN_le hI (lay_mid hj (o := st (8 * j + 5) / 2) (by omega) c)
      exact this
  · have hz : st (8 * j + 5) / 2 = 0 := by omega
    rw [hz, Nat.add_zero]
    exact ⟨_, x_ageTop h hI (by omega) (by omega), Nat.le_refl _, by omega⟩
theorem lay_le {st : Nat → Nat} {d G k k' : Nat} (h : LayAt st d k') (hd : d < G) (hG : G ≤ topN st (k + 1)) : k' ≤ k := by
  rcases Nat.lt_or_ge k k' with c | c
  · have := h.2.2 k c
    omega
  · exact c
/-! ===== the least depths ===== -/
theorem x_depthOf {st : Nat → Nat} {X : KX} {C : KC} (hC : RC st C) (hI : Inv st) {a : Nat} (ha : a < 2 ^ 31) : (∃ D k, LayAt st D k ∧ a ≤ agN st D k ∧ (∀ d k', LayAt st d k' → d < D → agN st d k' < a) ∧ fX4_depthOf X C (nI a) = some (nI D)) ∨ ((∀ j, j < st 0 → ¬ a ≤ ageN st (st 2) (st 3) (j + 1)) ∧ fX4_depthOf X C (nI a) = some (-1000000005)) := by
  have h16 := hI.1
  have hge : (0 : Int32) ≤ nI a := nI_pos' ha
  have step : ∀ (j : Nat) (nx : Int32 × Int64 × Int32 → Option Int32), j < st 0 → ageN st (st 2) (st 3) (j + 1) < a → fX0_leastDepthOf_c7 C (nI a) (nI (topN st j)) (lN (ageN st (st 2) (st 3) j)) (nI j) nx = nx (nI (topN st (j + 1)), lN (ageN st (st 2) (st 3) (j + 1)), nI (j + 1)) := by
    intro j nx hj hlt
    have q2 := ageN_le hI (f := st 2) hI.2.2.2.1 (j + 1) hj
    have q3 := yrN_le hI (f := st 2) hI.2.2.2.1 (n := j) (by omega)
    have eA : lN (ageN st (st 2) (st 3) j) + lN (yrN st (st 2) (st 3) j) = lN (ageN st (st 2) (st 3) (j + 1)) := lN_add _ _
    unfold fX0_leastDepthOf_c7
    rw [hC.1, if_neg (by rw [k_le (by omega) (by omega)]; omega), c_years hC hI rfl hj, Option.bind_some, nI_l (by omega), nI_l (by omega), eA, if_pos (by rw [pk_lLT (by omega) (by omega)]; omega), if_pos (k_in rfl (by omega) (by omega)), nI_clamp (by omega), (hC.2.2.2.2.2 j hj).1, nI_add, nI_1]
    rfl
  rcases least_or (P := fun k => a ≤ ageN st (st 2) (st 3) (k + 1)) (st 0) with ⟨k, hk, hy, hl⟩ | hl
  · have q2 := ageN_le hI (f := st 2) hI.2.2.2.1 (k + 1) hk
    have q2' : ageN st (st 2) (st 3) (k + 1) = ageN st (st 2) (st 3) k + yrN st (st 2) (st 3) k := rfl
    have q3 := yrN_le hI (f := st 2) hI.2.2.2.1 (n := k) hk
    have q4 := (hI.2.2.2.2.2.1 k hk).1
    have eA : lN (ageN st (st 2) (st 3) k) + lN (yrN st (st 2) (st 3) k) = lN (ageN st (st 2) (st 3) (k + 1)) := lN_add _ _
    have ev : fX4_depthOf X C (nI a) = some (nI (topN st k + (if a ≤ ageN st (st 2) (st 3) k then 0 else ceilN (a - ageN st (st 2) (st 3) k) (st (8 * k + 5)) (yrN st (st 2) (st 3) k)))) := by
      have e : fX0_leastDepthOf C (nI a) = some (nI (topN st k + (if a ≤ ageN st (st 2) (st 3) k then 0 else ceilN (a - ageN st (st 2) (st 3) k) (st (8 * k + 5)) (yrN st (st 2) (st 3) k)))) := by
        unfold fX0_leastDepthOf
        refine kLoop_to (fun j => (nI (topN st j), lN (ageN st (st 2) (st 3) j), nI j)) k rfl (fun j hj nx => step j nx (by omega) (Nat.lt_of_not_le (hl j hj))) (fun nx => ?_) (by rw [kFu_eq]; omega)
        show fX0_leastDepthOf_c7 C (nI a) (nI (topN st k)) (lN (ageN st (st 2) (st 3) k)) (nI k) nx = _
        unfold fX0_leastDepthOf_c7
        rw [hC.1, if_neg (by rw [k_le (by omega) (by omega)]; omega), c_years hC hI rfl hk, Option.bind_some, nI_l (n := yrN st (st 2) (st 3) k) (by omega), nI_l ha, eA, if_neg (by rw [pk_lLT (by omega) (by omega)]; omega), if_pos (k_in rfl (by omega) (by omega)), nI_clamp (by omega), (hC.2.2.2.2.2 k hk).1, c_steps (by omega) (by omega) (by omega) q4.2 (by omega), Option.bind_some, nI_add]
      unfold fX4_depthOf
      rw [if_pos hge, e, Option.bind_some]
    refine Or.inl ?_
    by_cases hc : a ≤ ageN st (st 2) (st 3) k
    · have hk0 : k = 0 := by
        rcases Nat.eq_zero_or_pos k with z | z
        · exact z
        · refine absurd ?_ (hl (k - 1) (by omega))
          rw [Nat.sub_add_cancel z]
          exact hc
      subst hk0
      rw [if_pos hc] at ev
      refine ⟨0, 0, lay_top0 hk, ?_, fun d k' _ hd => absurd hd (by omega), ev⟩
      rw [agN_top0]
      exact hc
    · have hy0 : 0 < yrN st (st 2) (st 3) k := by omega
      have hci := fun o => ceil_iff (o := o) (nd := a - ageN st (st 2) (st 3) k) (th := st (8 * k + 5)) hy0 (by omega) (by omega)
      have hcp := ceil_pos (nd := a - ageN st (st 2) (st 3) k) (th := st (8 * k + 5)) hy0 (by omega) (by omega)
      have hct : ceilN (a - ageN st (st 2) (st 3) k) (st (8 * k + 5)) (yrN st (st 2) (st 3) k) ≤ st (8 * k + 5) := (hci _).mpr (by rw [Nat.mul_div_cancel _ (by omega)]; omega)
      rw [if_neg hc] at ev
      refine ⟨_, k, lay_mid hk hct (Or.inl hcp), ?_, fun d k' hd hlt => ?_, ev⟩
      · rw [agN_mid]
        have := (hci _).mp (Nat.le_refl _)
        omega
      · have hkk := lay_le hd hlt (k := k) (by show _ ≤ topN st k + st (8 * k + 5); omega)
        rcases Nat.lt_or_ge k' k with c | c
        · have h1 := agN_le hI hd
          have h2 := hl k' c
          omega
        · have ek : k' = k := by omega
          subst ek
          have h3 := lay_top hd
          refine Nat.lt_of_not_le (fun hp => ?_)
          have := (hci (d - topN st k')).mpr (by unfold agN at hp; omega)
          omega
  · refine Or.inr ⟨hl, ?_⟩
    have e : fX0_leastDepthOf C (nI a) = some (-1000000005) := by
      unfold fX0_leastDepthOf
      refine kLoop_to (fun j => (nI (topN st j), lN (ageN st (st 2) (st 3) j), nI j)) (st 0) rfl (fun j hj nx => step j nx hj (Nat.lt_of_not_le (hl j hj))) (fun nx => ?_) (by rw [kFu_eq]; omega)
      show fX0_leastDepthOf_c7 C (nI a) (nI (topN st (st 0))) (lN (ageN st (st 2) (st 3) (st 0))) (nI (st 0)) nx = _
      unfold fX0_leastDepthOf_c7
      rw [hC.1, if_pos (by rw [k_le (by omega) (by omega)]; omega)]
    unfold fX4_depthOf
    rw [if_pos hge, e, Option.bind_some]
theorem x_gasDepthOf {st : Nat → Nat} {X : KX} {C : KC} (hC : RC st C) (hI : Inv st) {a : Nat} (ha : a < 2 ^ 31) : (∃ G k, LayAt st G k ∧ a ≤ gasN st G k ∧ (∀ d k', LayAt st d k' → d < G → gasN st d k' < a) ∧ fX4_gasDepthOf X C (nI a) = some (nI G)) ∨ ((∀ j, j < st 0 → ¬ a ≤ ageN st (st 2) (st 3) (j + 1) - delN st j) ∧ fX4_gasDepthOf X C (nI a) = some (-1000000005)) := by
  have h16 := hI.1
  have hge : (0 : Int32) ≤ nI a := nI_pos' ha
  by_cases ha0 : a = 0
  · subst ha0
    by_cases h0 : st 0 = 0
    · refine Or.inr ⟨fun j hj => absurd hj (by omega), ?_⟩
      unfold fX4_gasDepthOf fX0_leastGasDepthOf
      rw [if_pos hge, if_neg (fun z => z nI_0), hC.1, h0, if_neg (fun z => z nI_0), Option.bind_some]
    · refine Or.inl ⟨0, 0, lay_top0 (by omega), Nat.zero_le _, fun d k' _ hd => absurd hd (by omega), ?_⟩
      unfold fX4_gasDepthOf fX0_leastGasDepthOf
      rw [if_pos hge, if_neg (fun z => z nI_0), hC.1, if_pos (nI_ne0 (by omega) (by omega)), Option.bind_some]
      rfl
  · have hne : ¬ nI a = 0 := nI_ne0 (by omega) ha
    have cond : ∀ j, j < st 0 → (a ≤ ageN st (st 2) (st 3) (j + 1) - delN st j ↔ a + delN st j ≤ ageN st (st 2) (st 3) j + yrN st (st 2) (st 3) j) := by
      intro j hj
      have : ageN st (st 2) (st 3) (j + 1) = ageN st (st 2) (st 3) j + yrN st (st 2) (st 3) j := rfl
      omega
    have cmp : ∀ j, j < st 0 → (((lN (yrN st (st 2) (st 3) j)) < (lN a + lN (delN st j)) - lN (ageN st (st 2) (st 3) j)) ↔ ¬ a ≤ ageN st (st 2) (st 3) (j + 1) - delN st j) := by
      intro j hj
      have q2 := ageN_le hI (f := st 2) hI.2.2.2.1 j (by omega)
      have q3 := yrN_le hI (f := st 2) hI.2.2.2.1 (n := j) hj
      have q5 := delN_le hI hj
      rw [cond j hj, lN_add, Int64.lt_iff_toInt_lt, k_subL_toInt (by omega) (by omega), pk_lT (by omega)]
      omega
    have step : ∀ (j : Nat) (nx : Int32 × Int64 × Int32 → Option Int32), j < st 0 → (¬ a ≤ ageN st (st 2) (st 3) (j + 1) - delN st j) → fX0_leastGasDepthOf_c25 C (nI a) (nI (topN st j)) (lN (ageN st (st 2) (st 3) j)) (nI j) nx = nx (nI (topN st (j + 1)), lN (ageN st (st 2) (st 3) (j + 1)), nI (j + 1)) := by
      intro j nx hj hlt
      have q3 := yrN_le hI (f := st 2) hI.2.2.2.1 (n := j) hj
      have q5 := delN_le hI hj
      unfold fX0_leastGasDepthOf_c25
      rw [hC.1, if_neg (by rw [k_le (by omega) (by omega)]; omega), c_years hC hI rfl hj, Option.bind_some, c_delayOf hC hI rfl hj, Option.bind_some, nI_l (n := yrN st (st 2) (st 3) j) (by omega), nI_l ha, nI_l (n := delN st j) (by omega), if_pos ((cmp j hj).mpr hlt), if_pos (k_in rfl (by omega) (by omega)), nI_clamp (by omega), (hC.2.2.2.2.2 j hj).1, nI_add, nI_1, lN_add]
      rfl
    rcases least_or (P := fun k => a ≤ ageN st (st 2) (st 3) (k + 1) - delN st k) (st 0) with ⟨k, hk, hy, hl⟩ | hl
    · have q2 := ageN_le hI (f := st 2) hI.2.2.2.1 k (by omega)
      have q3 := yrN_le hI (f := st 2) hI.2.2.2.1 (n := k) hk
      have q4 := (hI.2.2.2.2.2.1 k hk).1
      have q5 := delN_le hI hk
      have hy' := (cond k hk).mp hy
      obtain ⟨o, ho⟩ : ∃ o, o = (if (if a + delN st k ≤ ageN st (st 2) (st 3) k then 0 else ceilN (a + delN st k - ageN st (st 2) (st 3) k) (st (8 * k + 5)) (yrN st (st 2) (st 3) k)) ≤ 1 then 1 else (if a + delN st k ≤ ageN st (st 2) (st 3) k then 0 else ceilN (a + delN st k - ageN st (st 2) (st 3) k) (st (8 * k + 5)) (yrN st (st 2) (st 3) k))) := ⟨_, rfl⟩
      have hold : ∀ p, OldAt st true a k p ↔ a + delN st k ≤ ageN st (st 2) (st 3) k + yrN st (st 2) (st 3) k * p / st (8 * k + 5) := by
        intro p
        unfold OldAt dlN
        simp only [if_true]
        omega
      have hprop : 1 ≤ o ∧ o ≤ st (8 * k + 5) ∧ OldAt st true a k o ∧ ∀ p, 1 ≤ p → p < o → ¬ OldAt st true a k p := by
        by_cases hc : a + delN st k ≤ ageN st (st 2) (st 3) k
        · have e1 : o = 1 := by rw [ho, if_pos hc, if_pos (by omega)]
          rw [e1]
          refine ⟨Nat.le_refl 1, by omega, (hold 1).mpr (Nat.le_trans hc (Nat.le_add_right _ _)), fun p h1 h2 => absurd h2 (by omega)⟩
        · have hy0 : 0 < yrN st (st 2) (st 3) k := by omega
          have hci := fun o => ceil_iff (o := o) (nd := a + delN st k - ageN st (st 2) (st 3) k) (th := st (8 * k + 5)) hy0 (by omega) (by omega)
          have hcp := ceil_pos (nd := a + delN st k - ageN st (st 2) (st 3) k) (th := st (8 * k + 5)) hy0 (by omega) (by omega)
          have e1 : o = ceilN (a + delN st k - ageN st (st 2) (st 3) k) (st (8 * k + 5)) (yrN st (st 2) (st 3) k) := by
            rw [ho, if_neg hc]
            split <;> omega
          rw [e1]
          refine ⟨hcp, (hci _).mpr ?_, (hold _).mpr ?_, fun p h1 h2 hp => ?_⟩
          · rw [Nat.mul_div_cancel _ (by omega)]
            omega
          · have := (hci _).mp (Nat.le_refl _)
            omega
          · have h3 := (hold p).mp hp
            have := (hci p).mpr (by omega)
            omega
      have ev : fX4_gasDepthOf X C (nI a) = some (nI (topN st k + o)) := by
        have e : fX0_leastGasDepthOf C (nI a) = some (nI (topN st k + o)) := by
          unfold fX0_leastGasDepthOf
          rw [if_pos hne]
          refine kLoop_to (fun j => (nI (topN st j), lN (ageN st (st 2) (st 3) j), nI j)) k rfl (fun j hj nx => step j nx (by omega) (hl j hj)) (fun nx => ?_) (by rw [kFu_eq]; omega)
          show fX0_leastGasDepthOf_c25 C (nI a) (nI (topN st k)) (lN (ageN st (st 2) (st 3) k)) (nI k) nx = _
          unfold fX0_leastGasDepthOf_c25
          have hcl : ceilN (a + delN st k - ageN st (st 2) (st 3) k) (st (8 * k + 5)) (yrN st (st 2) (st 3) k) < 2 ^ 31 ∨ a + delN st k ≤ ageN st (st 2) (st 3) k := by
            by_cases hc : a + delN st k ≤ ageN st (st 2) (st 3) k
            · exact Or.inr hc
            · have := (ceil_iff (o := st (8 * k + 5)) (nd := a + delN st k - ageN st (st 2) (st 3) k) (th := st (8 * k + 5)) (yr := yrN st (st 2) (st 3) k) (by omega) (by omega) (by omega)).mpr (by rw [Nat.mul_div_cancel _ (by omega)]; omega)
              exact Or.inl (by omega)
          rw [hC.1, if_neg (by rw [k_le (by omega) (by omega)]; omega), c_years hC hI rfl hk, Option.bind_some, c_delayOf hC hI rfl hk, Option.bind_some, nI_l (n := yrN st (st 2) (st 3) k) (by omega), nI_l ha, nI_l (n := delN st k) (by omega), if_neg (fun z => (cmp k hk).mp z hy), if_pos (k_in rfl (by omega) (by omega)), nI_clamp (by omega), (hC.2.2.2.2.2 k hk).1, lN_add, c_steps (by omega) (by omega) (by omega) q4.2 (by omega), Option.bind_some, c_max1 (by split <;> omega), nI_add, ← ho]
        unfold fX4_gasDepthOf
        rw [if_pos hge, e, Option.bind_some]
      have agO : ∀ p, gasN st (topN st k + p) k = ageN st (st 2) (st 3) k + yrN st (st 2) (st 3) k * p / st (8 * k + 5) - delN st k := fun p => by
        unfold gasN
        rw [agN_mid]
      refine Or.inl ⟨_, k, lay_mid hk hprop.2.1 (Or.inl hprop.1), ?_, fun d k' hd hlt => ?_, ev⟩
      · rw [agO]
        have := (hold o).mp hprop.2.2.1
        omega
      · have hkk := lay_le hd hlt (k := k) (by have := hprop.2.1; show _ ≤ topN st k + st (8 * k + 5); omega)
        rcases Nat.lt_or_ge k' k with c | c
        · have h1 := agN_le hI hd
          have h2 := hl k' c
          unfold gasN
          omega
        · have ek : k' = k := by omega
          subst ek
          have h3 := lay_top hd
          obtain ⟨p, rfl⟩ := Nat.exists_eq_add_of_le h3
          rw [agO]
          by_cases hp2 : 1 ≤ p
          · have h4 := hprop.2.2.2 p hp2 (by omega)
            rw [hold] at h4
            omega
          · have hp3 : p = 0 := by omega
            subst hp3
            have hk0 : k' = 0 := by
              rcases Nat.eq_zero_or_pos k' with z | z
              · exact z
              · have := hd.2.2 (k' - 1) (by omega)
                rw [Nat.sub_add_cancel z] at this
                omega
            subst hk0
            rw [Nat.mul_zero, Nat.zero_div]
            show 0 + 0 - _ < a
            omega
    · refine Or.inr ⟨hl, ?_⟩
      have e : fX0_leastGasDepthOf C (nI a) = some (-1000000005) := by
        unfold fX0_leastGasDepthOf
        rw [if_pos hne]
        refine kLoop_to (fun j => (nI (topN st j), lN (ageN st (st 2) (st 3) j), nI j)) (st 0) rfl (fun j hj nx => step j nx hj (hl j hj)) (fun nx => ?_) (by rw [kFu_eq]; omega)
        show fX0_leastGasDepthOf_c25 C (nI a) (nI (topN st (st 0))) (lN (ageN st (st 2) (st 3) (st 0))) (nI (st 0)) nx = _
        unfold fX0_leastGasDepthOf_c25
        rw [hC.1, if_pos (by rw [k_le (by omega) (by omega)]; omega)]
      unfold fX4_gasDepthOf
      rw [if_pos hge, e, Option.bind_some]
