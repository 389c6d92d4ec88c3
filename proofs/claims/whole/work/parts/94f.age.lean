/-! ===== PURE: ages at depths ===== -/
theorem topN_16 {st : Nat → Nat} (hI : Inv st) {n : Nat} (h : n ≤ st 0) : topN st n ≤ 200000 := by
  have h1 := topN_le (st := st) h
  have h2 := hI.2.1.2
  have h3 := hI.2.2.2.2.2.2
  omega
theorem c_ageAt {st : Nat → Nat} {c : KC} (h : RC st c) (hI : Inv st) {x : Int32} {d k : Nat} (hx : x = nI d) (hk : LayAt st d k) : fX0_ageAt c x = some (nI (agN st d k)) := by
  subst hx
  have h16 := hI.1
  have hk0 := hk.1
  have hd : d ≤ 200000 := Nat.le_trans hk.2.1 (topN_16 hI hk.1)
  have hth := (hI.2.2.2.2.2.1 k hk.1).1
  unfold fX0_ageAt
  refine kLoop_to (fun j => (nI (topN st j), nI (ageN st (st 2) (st 3) j), nI j)) k rfl (fun j hj nx => ?_) (fun nx => ?_) (by rw [kFu_eq]; omega)
  · show fX0_ageAt_c7 c (nI d) (nI (topN st j)) (nI (ageN st (st 2) (st 3) j)) (nI j) nx = nx (nI (topN st (j + 1)), nI (ageN st (st 2) (st 3) (j + 1)), nI (j + 1))
    have q1 := topN_16 hI (n := j + 1) (by omega)
    have q2 := hk.2.2 j hj
    have q3 := yrN_le hI (f := st 2) hI.2.2.2.1 (n := j) (by omega)
    have eT : nI (topN st j) + nI (st (8 * j + 5)) = nI (topN st (j + 1)) := nI_add _ _
    unfold fX0_ageAt_c7
    rw [h.1, if_neg (by rw [k_le (by omega) (by omega)]; omega), c_years h hI rfl (by omega), Option.bind_some, if_pos (k_in rfl (by omega) (by omega)), nI_clamp (by omega), (h.2.2.2.2.2 j (by omega)).1, eT, if_pos (by rw [k_lt (by omega) (by omega)]; omega), if_pos (k_in rfl (by omega) (by omega)), nI_l (by omega), lN_i, nI_add, nI_1]
    rfl
  · show fX0_ageAt_c7 c (nI d) (nI (topN st k)) (nI (ageN st (st 2) (st 3) k)) (nI k) nx = _
    have q1 := topN_16 hI (n := k + 1) hk.1
    have q2 := hk.2.1
    have q3 := yrN_le hI (f := st 2) hI.2.2.2.1 (n := k) hk.1
    have q4 := lay_top hk
    have eT : nI (topN st k) + nI (st (8 * k + 5)) = nI (topN st (k + 1)) := nI_add _ _
    have q5 : yrN st (st 2) (st 3) k * (d - topN st k) ≤ 2500000 * 200000 := Nat.mul_le_mul q3 (by omega)
    unfold fX0_ageAt_c7
    rw [h.1, if_neg (by rw [k_le (by omega) (by omega)]; omega), c_years h hI rfl (by omega), Option.bind_some, if_pos (k_in rfl (by omega) (by omega)), nI_clamp (by omega), (h.2.2.2.2.2 k (by omega)).1, eT, if_neg (by rw [k_lt (by omega) (by omega)]; omega), if_pos (k_in rfl (by omega) (by omega)), nI_l (by omega), pk_sub q4, nI_l (by omega), nI_l (by omega), lN_mul, fX4_quotient_ok (by omega) (by omega) (by omega), Option.bind_some, lN_i, nI_add]
    rfl
theorem c_gasAgeAt {st : Nat → Nat} {c : KC} (h : RC st c) (hI : Inv st) {x : Int32} {d k : Nat} (hx : x = nI d) (hk : LayAt st d k) : fX0_gasAgeAt c x = some (nI (agN st d k - delN st k)) := by
  subst hx
  have h16 := hI.1
  have hk0 := hk.1
  have hd : d ≤ 200000 := Nat.le_trans hk.2.1 (topN_16 hI hk.1)
  unfold fX0_gasAgeAt
  refine kLoop_to (fun j => (nI (topN st j), nI j)) k rfl (fun j hj nx => ?_) (fun nx => ?_) (by rw [kFu_eq]; omega)
  · show fX0_gasAgeAt_c4 c (nI d) (nI (topN st j)) (nI j) nx = nx (nI (topN st (j + 1)), nI (j + 1))
    have q1 := topN_16 hI (n := j + 1) (by omega)
    have q2 := hk.2.2 j hj
    have eT : nI (topN st j) + nI (st (8 * j + 5)) = nI (topN st (j + 1)) := nI_add _ _
    unfold fX0_gasAgeAt_c4
    rw [h.1, if_neg (by rw [k_le (by omega) (by omega)]; omega), if_pos (k_in rfl (by omega) (by omega)), nI_clamp (by omega), (h.2.2.2.2.2 j (by omega)).1, eT, if_pos (by rw [k_lt (by omega) (by omega)]; omega), nI_1]
  · show fX0_gasAgeAt_c4 c (nI d) (nI (topN st k)) (nI k) nx = _
    have q1 := topN_16 hI (n := k + 1) hk.1
    have q2 := hk.2.1
    have h1 := agN_le hI hk
    have h2 := ageN_le hI (f := st 2) hI.2.2.2.1 (k + 1) hk.1
    have h3 := delN_le hI hk.1
    have eT : nI (topN st k) + nI (st (8 * k + 5)) = nI (topN st (k + 1)) := nI_add _ _
    unfold fX0_gasAgeAt_c4
    rw [h.1, if_neg (by rw [k_le (by omega) (by omega)]; omega), if_pos (k_in rfl (by omega) (by omega)), nI_clamp (by omega), (h.2.2.2.2.2 k (by omega)).1, eT, if_neg (by rw [k_lt (by omega) (by omega)]; omega), c_ageAt h hI rfl hk, Option.bind_some, c_delayOf h hI rfl hk.1, Option.bind_some]
    by_cases hc : delN st k < agN st d k
    · rw [pk_sub (by omega), if_pos (by rw [show (0 : Int32) = nI 0 from rfl, k_lt (by omega) (by omega)]; omega)]
    · rw [if_neg, show agN st d k - delN st k = 0 by omega]
      · rfl
      · rw [Int32.lt_iff_toInt_lt, pk_sub_toInt (by omega) (by omega), show (0 : Int32).toInt = 0 from by decide]
        omega
/-- a depth that is asked for: in range, or refused by both -/
theorem df_cases {st : Nat → Nat} {X : KX} {M : KM} {C : KC} (hM : RM st M) (hC : RC st C) (hI : Inv st) (x : Int32) : (∃ d k : Nat, x = nI d ∧ LayAt st d k ∧ fX4_depthFault X C x = some 0 ∧ fX5_depthRefused M x = some 0) ∨ (fX4_depthFault X C x = some (-1000000002) ∧ fX5_depthRefused M x = some (-1000000002) ∧ fX5_in x 0 (nI (topN st (st 0))) = some 0) ∨ (st 0 = 0 ∧ x = nI 0 ∧ fX4_depthFault X C x = some (-1000000003) ∧ fX5_depthRefused M x = some (-1000000003)) := by
  have h16 := hI.1
  have hb := topN_16 hI (n := st 0) (Nat.le_refl _)
  rcases k_range x (a := 0) (b := topN st (st 0)) (by omega) (by omega) with ⟨d, -, hd, rfl⟩ | ⟨h1, h2⟩
  · have e5 : fX5_in (nI d) 0 (nI (topN st (st 0))) = some 1 := fX5_in_t (a := 0) rfl (by omega) hd (by omega)
    by_cases h0 : st 0 = 0
    · have hd0 : d = 0 := by
        rw [h0] at hd
        exact Nat.le_zero.mp hd
      refine Or.inr (Or.inr ⟨h0, by rw [hd0], ?_, ?_⟩)
      · unfold fX4_depthFault
        rw [if_neg (nI_pos (by omega)), c_bottom hC h16, Option.bind_some, if_pos (by rw [k_le (by omega) (by omega)]; omega), hC.1, h0, if_neg (fun z => z nI_0)]
      · unfold fX5_depthRefused
        rw [m_bottom hM h16, Option.bind_some, e5, Option.bind_some, if_pos (by decide), if_pos k_i0, k_c0, hM 0 (by omega), h0, if_neg (fun z => z nI_0)]
    · obtain ⟨k, hk⟩ := lay_ex (st := st) (by omega) hd
      refine Or.inl ⟨d, k, rfl, hk, ?_, ?_⟩
      · unfold fX4_depthFault
        rw [if_neg (nI_pos (by omega)), c_bottom hC h16, Option.bind_some, if_pos (by rw [k_le (by omega) (by omega)]; omega), hC.1, if_pos (nI_ne0 (by omega) (by omega))]
      · unfold fX5_depthRefused
        rw [m_bottom hM h16, Option.bind_some, e5, Option.bind_some, if_pos (by decide), if_pos k_i0, k_c0, hM 0 (by omega), if_pos (nI_ne0 (by omega) (by omega))]
  · have e5 : fX5_in x 0 (nI (topN st (st 0))) = some 0 := fX5_in_f (a := 0) h1
    refine Or.inr (Or.inl ⟨?_, ?_, e5⟩)
    · unfold fX4_depthFault
      by_cases hx : x < 0
      · rw [if_pos hx]
      · rw [if_neg hx, c_bottom hC h16, Option.bind_some, if_neg]
        rcases h1 with h1 | h1
        · exact absurd h1 hx
        · rw [Int32.lt_iff_toInt_lt] at h1
          rw [Int32.le_iff_toInt_le]
          omega
    · unfold fX5_depthRefused
      rw [m_bottom hM h16, Option.bind_some, e5, Option.bind_some, if_neg (fun z => z rfl)]
theorem hr_age : hop_age RR := by
  intro X M C F H T S hR a1
  refine RR_read hR (fun st hM hC hI => ?_)
  rcases df_cases (X := X) hM hC hI a1 with ⟨d, k, rfl, hk, e4, e5⟩ | ⟨e4, e5, -⟩ | ⟨-, -, e4, e5⟩
  · refine ⟨nI (agN st d k), ?_, ?_⟩
    · unfold fX4_age
      rw [e4, Option.bind_some, if_neg (fun z => z rfl), c_ageAt hC hI rfl hk, Option.bind_some]
    · unfold fX5_age
      rw [e5, Option.bind_some, if_pos rfl, m_ageAt hM hI rfl hk, Option.bind_some]
  · refine ⟨-1000000002, ?_, ?_⟩
    · unfold fX4_age
      rw [e4, Option.bind_some, if_pos (by decide)]
    · unfold fX5_age
      rw [e5, Option.bind_some, if_neg (by decide)]
  · refine ⟨-1000000003, ?_, ?_⟩
    · unfold fX4_age
      rw [e4, Option.bind_some, if_pos (by decide)]
    · unfold fX5_age
      rw [e5, Option.bind_some, if_neg (by decide)]
theorem hr_gasAge : hop_gasAge RR := by
  intro X M C F H T S hR a1
  refine RR_read hR (fun st hM hC hI => ?_)
  rcases df_cases (X := X) hM hC hI a1 with ⟨d, k, rfl, hk, e4, e5⟩ | ⟨e4, e5, -⟩ | ⟨-, -, e4, e5⟩
  · refine ⟨nI (agN st d k - delN st k), ?_, ?_⟩
    · unfold fX4_gasAge
      rw [e4, Option.bind_some, if_neg (fun z => z rfl), c_gasAgeAt hC hI rfl hk, Option.bind_some]
    · unfold fX5_gasAge
      rw [e5, Option.bind_some, if_pos rfl, m_gasAgeAt hM hI rfl hk, Option.bind_some]
  · refine ⟨-1000000002, ?_, ?_⟩
    · unfold fX4_gasAge
      rw [e4, Option.bind_some, if_pos (by decide)]
    · unfold fX5_gasAge
      rw [e5, Option.bind_some, if_neg (by decide)]
  · refine ⟨-1000000003, ?_, ?_⟩
    · unfold fX4_gasAge
      rw [e4, Option.bind_some, if_pos (by decide)]
    · unfold fX5_gasAge
      rw [e5, Option.bind_some, if_neg (by decide)]
theorem c_lead_no {X : KX} {C : KC} {x y r : Int32} (h : ¬ r = 0) : fX4_lead_c18 X C x y r = some r := by
  unfold fX4_lead_c18
  rw [if_pos h]
theorem m_lead_no {M : KM} {x y r : Int32} (h : ¬ r = 0) : fX5_lead_c22 M x y r = some r := by
  unfold fX5_lead_c22
  rw [if_neg h]
theorem hr_lead : hop_lead RR := by
  intro X M C F H T S hR a1 a2
  refine RR_read hR (fun st hM hC hI => ?_)
  have h16 := hI.1
  have hb := topN_16 hI (n := st 0) (Nat.le_refl _)
  have un4 : ∀ r, fX4_depthFault X C a1 = some r → ¬ r = -1000000002 → fX4_lead X C a1 a2 = (fX4_depthFault X C a2).bind fun r14 => fX4_lead_c18 X C a1 a2 r14 := by
    intro r h1 h2
    unfold fX4_lead
    rw [h1, Option.bind_some, if_neg h2]
  have un5 : ∀ r, fX5_in a2 0 (nI (topN st (st 0))) = some r → fX5_lead M a1 a2 = if ¬ r = 0 then (fX5_depthRefused M a1).bind fun r19 => fX5_lead_c22 M a1 a2 r19 else fX5_lead_c22 M a1 a2 (-1000000002) := by
    intro r h1
    unfold fX5_lead
    rw [m_bottom hM h16, Option.bind_some, h1, Option.bind_some]
  have in2 : ∀ d k, a2 = nI d → LayAt st d k → fX5_in a2 0 (nI (topN st (st 0))) = some 1 := by
    intro d k hd hk
    exact fX5_in_t (a := 0) hd (by omega) (Nat.le_trans hk.2.1 (topN_le hk.1)) (by omega)
  have bad : fX4_lead X C a1 a2 = some (-1000000002) → fX5_lead M a1 a2 = some (-1000000002) → ∃ r, fX4_lead X C a1 a2 = some r ∧ fX5_lead M a1 a2 = some r := fun h1 h2 => ⟨_, h1, h2⟩
  rcases df_cases (X := X) hM hC hI a2 with ⟨d2, k2, e2, hk2, e42, e52⟩ | ⟨e42, e52, i52⟩ | ⟨z2, e2, e42, e52⟩
  · have i52 := in2 d2 k2 e2 hk2
    rcases df_cases (X := X) hM hC hI a1 with ⟨d, k, e1, hk, e4, e5⟩ | ⟨e4, e5, -⟩ | ⟨z1, -, e4, e5⟩
    · refine ⟨nI (agN st d k) - nI (agN st d2 k2 - delN st k2), ?_, ?_⟩
      · rw [un4 0 e4 (by decide), e42, Option.bind_some]
        unfold fX4_lead_c18
        rw [if_neg (fun z => z rfl), c_ageAt hC hI e1 hk, Option.bind_some, c_gasAgeAt hC hI e2 hk2, Option.bind_some]
      · rw [un5 1 i52, if_pos (by decide), e5, Option.bind_some]
        unfold fX5_lead_c22
        rw [if_pos rfl, m_ageAt hM hI e1 hk, Option.bind_some, m_gasAgeAt hM hI e2 hk2, Option.bind_some]
    · refine bad ?_ ?_
      · unfold fX4_lead
        rw [e4, Option.bind_some, if_pos rfl, c_lead_no (by decide)]
      · rw [un5 1 i52, if_pos (by decide), e5, Option.bind_some, m_lead_no (by decide)]
    · exact absurd hk2.1 (by omega)
  · refine bad ?_ ?_
    · rcases df_cases (X := X) hM hC hI a1 with ⟨d, k, e1, hk, e4, e5⟩ | ⟨e4, e5, -⟩ | ⟨z1, -, e4, e5⟩
      · rw [un4 0 e4 (by decide), e42, Option.bind_some, c_lead_no (by decide)]
      · unfold fX4_lead
        rw [e4, Option.bind_some, if_pos rfl, c_lead_no (by decide)]
      · rw [un4 _ e4 (by decide), e42, Option.bind_some, c_lead_no (by decide)]
    · rw [un5 0 i52, if_neg (fun z => z rfl), m_lead_no (by decide)]
  · have i52 : fX5_in a2 0 (nI (topN st (st 0))) = some 1 := fX5_in_t (a := 0) (n := 0) e2 (by omega) (by omega) (by omega)
    rcases df_cases (X := X) hM hC hI a1 with ⟨d, k, e1, hk, e4, e5⟩ | ⟨e4, e5, -⟩ | ⟨z1, -, e4, e5⟩
    · exact absurd hk.1 (by omega)
    · refine bad ?_ ?_
      · unfold fX4_lead
        rw [e4, Option.bind_some, if_pos rfl, c_lead_no (by decide)]
      · rw [un5 1 i52, if_pos (by decide), e5, Option.bind_some, m_lead_no (by decide)]
    · refine ⟨-1000000003, ?_, ?_⟩
      · rw [un4 _ e4 (by decide), e42, Option.bind_some, c_lead_no (by decide)]
      · rw [un5 1 i52, if_pos (by decide), e5, Option.bind_some, m_lead_no (by decide)]
/-! the seal -/
theorem k_low (x : Int32) : x.toInt16.toInt32 = if (x &&& (65535 : Int32)) ≤ (32767 : Int32) then (x &&& (65535 : Int32)) else (x &&& (65535 : Int32)) - (65536 : Int32) := by
  have e : x &&& (65535 : Int32) = nI (x.toBitVec.toNat % 65536) := pk_and x 16 (by decide)
  have hm : x.toBitVec.toNat % 65536 < 65536 := Nat.mod_lt _ (by decide)
  have hx : x.toInt = if 2 * x.toBitVec.toNat < 4294967296 then (x.toBitVec.toNat : Int) else (x.toBitVec.toNat : Int) - 4294967296 := by
    rw [← Int32.toInt_toBitVec, BitVec.toInt_eq_toNat_cond]
    rfl
  have hv : x.toInt % 65536 = ((x.toBitVec.toNat % 65536 : Nat) : Int) := by
    rw [hx]
    split <;> omega
  rw [e]
  apply Int32.toInt_inj.mp
  rw [Int16.toInt_toInt32, Int32.toInt_toInt16, show (32767 : Int32) = nI 32767 from rfl, show (65536 : Int32) = nI 65536 from rfl]
  generalize x.toInt = v at *
  generalize x.toBitVec.toNat % 65536 = n at *
  by_cases h : n ≤ 32767
  · rw [if_pos (by rw [k_le (by omega) (by omega)]; omega), nI_toInt (by omega), Int.bmod_def]
    split <;> omega
  · rw [if_neg (by rw [k_le (by omega) (by omega)]; omega), pk_sub_toInt (by omega) (by omega), Int.bmod_def]
    split <;> omega
def sealN (st : Nat → Nat) : Nat → Int32
  | 0 => 7
  | j + 1 => (31 : Int32) * sealN st j + nI (ageN st (st 2) (st 3) (j + 1))
theorem hr_seal : hop_seal RR := by
  intro X M C F H T S hR
  refine RR_read hR (fun st hM hC hI => ⟨(sealN st (st 0)).toInt16.toInt32, ?_, ?_⟩)
  · have h16 := hI.1
    have e : fX0_sealOfAges C = some ((sealN st (st 0)).toInt16.toInt32) := by
     unfold fX0_sealOfAges
     refine kLoop_to (fun j => (nI (ageN st (st 2) (st 3) j), sealN st j, nI j)) (st 0) rfl (fun j hj nx => ?_) (fun nx => ?_) (by rw [kFu_eq]; omega)
     · show fX0_sealOfAges_c7 C (nI (ageN st (st 2) (st 3) j)) (sealN st j) (nI j) nx = nx (nI (ageN st (st 2) (st 3) (j + 1)), sealN st (j + 1), nI (j + 1))
       unfold fX0_sealOfAges_c7
       rw [hC.1, if_neg (by rw [k_le (by omega) (by omega)]; omega), c_years hC hI rfl hj, Option.bind_some, nI_add, nI_1]
       rfl
     · show fX0_sealOfAges_c7 C (nI (ageN st (st 2) (st 3) (st 0))) (sealN st (st 0)) (nI (st 0)) nx = _
       unfold fX0_sealOfAges_c7
       rw [hC.1, if_pos (by rw [k_le (by omega) (by omega)]; omega)]
    unfold fX4_seal
    rw [e, Option.bind_some]
  · have h16 := hI.1
    unfold fX5_seal
    refine kLoop_to (fun j => (sealN st j, nI j)) (st 0) rfl (fun j hj nx => ?_) (fun nx => ?_) (by rw [kFu_eq]; omega)
    · show fX5_seal_c5 M (sealN st j) (nI j) nx = nx (sealN st (j + 1), nI (j + 1))
      unfold fX5_seal_c5
      rw [if_pos k_i0, k_c0, hM 0 (by omega), if_neg (by rw [k_le (by omega) (by omega)]; omega), m_ageAtTop hM hI (n := j + 1) (nI_1 j) (by omega), Option.bind_some, nI_1]
      rfl
    · show fX5_seal_c5 M (sealN st (st 0)) (nI (st 0)) nx = _
      unfold fX5_seal_c5
      rw [if_pos k_i0, k_c0, hM 0 (by omega), if_pos (by rw [k_le (by omega) (by omega)]; omega), k_low]
      split <;> rfl
