/-! ===== PURE: a layer more, a layer less, a layer divided ===== -/
theorem topN_congr {st st' : Nat → Nat} : ∀ n, (∀ k, k < n → st' (8 * k + 5) = st (8 * k + 5)) → topN st' n = topN st n
  | 0, _ => rfl
  | n + 1, h => by
    unfold topN
    rw [topN_congr n (fun k hk => h k (by omega)), h n (by omega)]
theorem rm_congr {st st' : Nat → Nat} {u : KM} (h : RM st u) (he : ∀ i, i < 133 → st' i = st i) : RM st' u := by
  intro i hi
  rw [he i hi]
  exact h i hi
theorem act_removeLowest : Act (fun C => fX0_dropLowest C) (fun M => fX5_removeLowest M) := by
  intro st C M hM hC hI
  have h16 := hI.1
  by_cases h0 : st 0 = 0
  · refine Or.inl ⟨-1000000003, err3, ?_, ?_⟩
    · show fX0_dropLowest C = _
      unfold fX0_dropLowest
      rw [hC.1, h0, if_neg (fun z => z rfl)]
    · show fX5_removeLowest M = _
      unfold fX5_removeLowest
      rw [if_pos k_i0, k_c0, hM 0 (by omega), h0, if_neg (fun z => z rfl)]
  · obtain ⟨n, hn⟩ : ∃ n, st 0 = n + 1 := ⟨st 0 - 1, by omega⟩
    have hT : ∀ m, topN (upN st 0 n) m = topN st m := topN_same (fun k => up_n (by omega))
    refine Or.inr ⟨nI n, upN st 0 n, (nI n, C.2), good_n (by omega), ?_, ⟨by rw [up_s], hC.2.1, hC.2.2.1, hC.2.2.2.1, hC.2.2.2.2.1, fun k hk => ?_⟩, ?_, fun u1 g1 g2 => ?_⟩
    · unfold Inv
      rw [up_s, hT, up_n (i := 1) (by omega), up_n (i := 2) (by omega), up_n (i := 3) (by omega), up_n (i := 4) (by omega)]
      refine ⟨by omega, hI.2.1, hI.2.2.1, hI.2.2.2.1, hI.2.2.2.2.1, fun k hk => ?_, Nat.le_trans (topN_le (by omega)) hI.2.2.2.2.2.2⟩
      unfold LayOk
      rw [up_n (i := 8 * k + 5) (by omega), up_n (i := 8 * k + 6) (by omega), up_n (i := 8 * k + 7) (by omega), up_n (i := 8 * k + 8) (by omega), up_n (i := 8 * k + 9) (by omega), up_n (i := 8 * k + 10) (by omega), up_n (i := 8 * k + 11) (by omega), up_n (i := 8 * k + 12) (by omega)]
      exact hI.2.2.2.2.2.1 k (by omega)
    · rw [up_s] at hk
      rw [up_n (i := 8 * k + 5) (by omega), up_n (i := 8 * k + 6) (by omega), up_n (i := 8 * k + 7) (by omega), up_n (i := 8 * k + 8) (by omega), up_n (i := 8 * k + 9) (by omega), up_n (i := 8 * k + 10) (by omega), up_n (i := 8 * k + 11) (by omega), up_n (i := 8 * k + 12) (by omega)]
      exact hC.2.2.2.2.2 k (by omega)
    · show fX0_dropLowest C = _
      unfold fX0_dropLowest
      rw [hC.1, hn, if_pos (nI_ne0 (by omega) (by omega)), nI_pred]
    · have g3 : RM (upN st 0 n) (mSet u1 (upd u1.2.2.2.2.2.2.1 0 (nI n))) := rm_upd g2
      refine ⟨_, _, ?_, g3⟩
      show fX5_removeLowest M = _
      unfold fX5_removeLowest
      rw [if_pos k_i0, k_c0, hM 0 (by omega), hn, if_pos (nI_ne0 (by omega) (by omega)), g1, Option.bind_some, if_pos k_i0, if_pos k_i0, if_pos k_i0, g2 0 (by omega), hn, nI_pred, pk_us]
      rfl
/-! a layer more -/
def adS (st : Nat → Nat) (a b : Nat) : Nat → Nat := fun i => if i = 0 then st 0 + 1 else if i = 8 * st 0 + 5 then a else if i = 8 * st 0 + 6 then b else if i = 8 * st 0 + 7 then 1000 else if i = 8 * st 0 + 8 then 1000 else if 8 * st 0 + 9 ≤ i ∧ i < 8 * st 0 + 13 then 0 else st i
theorem adS_o {st : Nat → Nat} {a b i : Nat} (h0 : i ≠ 0) (h : i < 8 * st 0 + 5) : adS st a b i = st i := by
  unfold adS
  rw [if_neg h0, if_neg (by omega), if_neg (by omega), if_neg (by omega), if_neg (by omega), if_neg (by omega)]
theorem adS_0 {st : Nat → Nat} {a b : Nat} : adS st a b 0 = st 0 + 1 := rfl
theorem adS_5 {st : Nat → Nat} {a b : Nat} : adS st a b (8 * st 0 + 5) = a := by
  unfold adS
  rw [if_neg (by omega), if_pos rfl]
theorem adS_6 {st : Nat → Nat} {a b : Nat} : adS st a b (8 * st 0 + 6) = b := by
  unfold adS
  rw [if_neg (by omega), if_neg (by omega), if_pos rfl]
theorem adS_7 {st : Nat → Nat} {a b : Nat} : adS st a b (8 * st 0 + 7) = 1000 := by
  unfold adS
  rw [if_neg (by omega), if_neg (by omega), if_neg (by omega), if_pos rfl]
theorem adS_8 {st : Nat → Nat} {a b : Nat} : adS st a b (8 * st 0 + 8) = 1000 := by
  unfold adS
  rw [if_neg (by omega), if_neg (by omega), if_neg (by omega), if_neg (by omega), if_pos rfl]
theorem adS_z {st : Nat → Nat} {a b i : Nat} (h1 : 8 * st 0 + 9 ≤ i) (h2 : i < 8 * st 0 + 13) : adS st a b i = 0 := by
  unfold adS
  rw [if_neg (by omega), if_neg (by omega), if_neg (by omega), if_neg (by omega), if_neg (by omega), if_pos ⟨h1, h2⟩]
theorem adS_inv {st : Nat → Nat} (hI : Inv st) {a b : Nat} (h0 : st 0 < 16) (h1 : 1 ≤ a) (h2 : a ≤ 5000) (h3 : 10 ≤ b) (h4 : b ≤ 2000) (hv : topN st (st 0) + a ≤ st 1) : Inv (adS st a b) := by
  have hT : topN (adS st a b) (st 0) = topN st (st 0) := topN_congr _ (fun k hk => adS_o (by omega) (by omega))
  refine ⟨?_, ?_, ?_, ?_, ?_, fun k hk => ?_, ?_⟩
  · rw [adS_0]
    omega
  · rw [adS_o (by omega) (by omega)]
    exact hI.2.1
  · rw [adS_o (by omega) (by omega)]
    exact hI.2.2.1
  · rw [adS_o (by omega) (by omega)]
    exact hI.2.2.2.1
  · rw [adS_o (by omega) (by omega)]
    exact hI.2.2.2.2.1
  · rw [adS_0] at hk
    unfold LayOk
    by_cases ek : k = st 0
    · rw [ek, adS_5, adS_6, adS_7, adS_8, adS_z (i := 8 * st 0 + 9) (by omega) (by omega), adS_z (i := 8 * st 0 + 10) (by omega) (by omega), adS_z (i := 8 * st 0 + 11) (by omega) (by omega), adS_z (i := 8 * st 0 + 12) (by omega) (by omega)]
      omega
    · rw [adS_o (i := 8 * k + 5) (by omega) (by omega), adS_o (i := 8 * k + 6) (by omega) (by omega), adS_o (i := 8 * k + 7) (by omega) (by omega), adS_o (i := 8 * k + 8) (by omega) (by omega), adS_o (i := 8 * k + 9) (by omega) (by omega), adS_o (i := 8 * k + 10) (by omega) (by omega), adS_o (i := 8 * k + 11) (by omega) (by omega), adS_o (i := 8 * k + 12) (by omega) (by omega)]
      exact hI.2.2.2.2.2.1 k (by omega)
  · rw [adS_0, adS_o (i := 1) (by omega) (by omega)]
    show topN (adS st a b) (st 0) + adS st a b (8 * st 0 + 5) ≤ _
    rw [hT, adS_5]
    exact hv
theorem adS_rc {st : Nat → Nat} {C : KC} (hC : RC st C) {a b : Nat} : RC (adS st a b) (nI (st 0 + 1), C.2.1, C.2.2.1, C.2.2.2.1, C.2.2.2.2.1, upd C.2.2.2.2.2.1 (st 0) (nI a), upd C.2.2.2.2.2.2.1 (st 0) (nI b), upd C.2.2.2.2.2.2.2.1 (st 0) (1000 : Int32), upd C.2.2.2.2.2.2.2.2.1 (st 0) (1000 : Int32), upd C.2.2.2.2.2.2.2.2.2.1 (st 0) (-1 : Int32), upd C.2.2.2.2.2.2.2.2.2.2.1 (st 0) (0 : Int32), upd C.2.2.2.2.2.2.2.2.2.2.2 (st 0) (0 : Int32)) := by
  refine ⟨?_, ?_, ?_, ?_, ?_, fun k hk => ?_⟩
  · rw [adS_0]
  · rw [adS_o (by omega) (by omega)]
    exact hC.2.1
  · rw [adS_o (by omega) (by omega)]
    exact hC.2.2.1
  · rw [adS_o (by omega) (by omega)]
    exact hC.2.2.2.1
  · rw [adS_o (by omega) (by omega)]
    exact hC.2.2.2.2.1
  · rw [adS_0] at hk
    by_cases ek : k = st 0
    · rw [ek, adS_5, adS_6, adS_7, adS_8, adS_z (i := 8 * st 0 + 9) (by omega) (by omega), adS_z (i := 8 * st 0 + 12) (by omega) (by omega), if_neg (by omega)]
      exact ⟨pk_us, pk_us, pk_us, pk_us, pk_us, fun z => absurd z (by omega), pk_us⟩
    · rw [adS_o (i := 8 * k + 5) (by omega) (by omega), adS_o (i := 8 * k + 6) (by omega) (by omega), adS_o (i := 8 * k + 7) (by omega) (by omega), adS_o (i := 8 * k + 8) (by omega) (by omega), adS_o (i := 8 * k + 9) (by omega) (by omega), adS_o (i := 8 * k + 10) (by omega) (by omega), adS_o (i := 8 * k + 11) (by omega) (by omega), adS_o (i := 8 * k + 12) (by omega) (by omega)]
      obtain ⟨l1, l2, l3, l4, l5, l6, l7⟩ := hC.2.2.2.2.2 k (by omega)
      exact ⟨(pk_un ek).trans l1, (pk_un ek).trans l2, (pk_un ek).trans l3, (pk_un ek).trans l4, (pk_un ek).trans l5, fun z => (pk_un ek).trans (l6 z), (pk_un ek).trans l7⟩
def zN (st : Nat → Nat) (a : Nat) : Nat → (Nat → Nat)
  | 0 => st
  | j + 1 => upN (zN st a j) (a + j) 0
def zU (u : KM) (a : Nat) : Nat → KM
  | 0 => u
  | j + 1 => mSet (zU u a j) (upd (zU u a j).2.2.2.2.2.2.1 (a + j) (nI 0))
theorem z_rm {st : Nat → Nat} {u : KM} (h : RM st u) (a : Nat) : ∀ j, RM (zN st a j) (zU u a j)
  | 0 => h
  | j + 1 => rm_upd (z_rm h a j)
theorem z_ex (u : KM) (a : Nat) : ∀ j, ∃ w, zU u a j = mSet u w
  | 0 => ⟨u.2.2.2.2.2.2.1, rfl⟩
  | j + 1 => by
    obtain ⟨w, hw⟩ := z_ex u a j
    refine ⟨upd (zU u a j).2.2.2.2.2.2.1 (a + j) (nI 0), ?_⟩
    show mSet (zU u a j) _ = _
    rw [hw]
    rfl
theorem zN_eq (st : Nat → Nat) (a : Nat) : ∀ j i, zN st a j i = if a ≤ i ∧ i < a + j then 0 else st i
  | 0, i => by
    rw [if_neg (by omega)]
    rfl
  | j + 1, i => by
    show upN (zN st a j) (a + j) 0 i = _
    by_cases h : i = a + j
    · rw [h, up_s, if_pos (by omega)]
    · rw [up_n h, zN_eq st a j i]
      by_cases h2 : a ≤ i ∧ i < a + j
      · rw [if_pos h2, if_pos (by omega)]
      · rw [if_neg h2, if_neg (by omega)]
theorem m_addLayer {st : Nat → Nat} {M u1 : KM} (hM : RM st M) (hI : Inv st) {a b : Nat} (h0 : st 0 < 16) (h1 : 1 ≤ a) (h2 : a ≤ 5000) (h3 : 10 ≤ b) (h4 : b ≤ 2000) (hv : topN st (st 0) + a ≤ st 1) (g1 : fX5_record M = some u1) (g2 : RM st u1) : ∃ w th, fX5_addLayer M (nI a) (nI b) = some (nI (st 0), mSet2 u1 w th) ∧ RM (adS st a b) (mSet2 u1 w th) := by
  have hb1 := hI.2.1
  have e1 : fX5_in (nI a) 1 5000 = some 1 := fX5_in_t (a := 1) (b := 5000) rfl h1 h2 (by omega)
  have e2 : fX5_in (nI b) 10 2000 = some 1 := fX5_in_t (a := 10) (b := 2000) rfl h3 h4 (by omega)
  have i5 : ((8 : Int32) * nI (st 0)) + (5 : Int32) = nI (8 * st 0 + 5) := m_ix (st 0) 5
  have i6 : ((8 : Int32) * nI (st 0)) + (6 : Int32) = nI (8 * st 0 + 6) := m_ix (st 0) 6
  have i7 : ((8 : Int32) * nI (st 0)) + (7 : Int32) = nI (8 * st 0 + 7) := m_ix (st 0) 7
  have i8 : ((8 : Int32) * nI (st 0)) + (8 : Int32) = nI (8 * st 0 + 8) := m_ix (st 0) 8
  have q1 := rm_upd g2 (a := 8 * st 0 + 5) (v := a)
  have q2 := rm_upd q1 (a := 8 * st 0 + 6) (v := b)
  have q3 := rm_upd q2 (a := 8 * st 0 + 7) (v := 1000)
  have q4 := rm_upd q3 (a := 8 * st 0 + 8) (v := 1000)
  generalize hU : mSet _ _ = U at q4
  have q5 := z_rm q4 (8 * st 0 + 9) 4
  have q6 := rm_upd q5 (a := 0) (v := st 0 + 1)
  obtain ⟨w, hw⟩ := z_ex U (8 * st 0 + 9) 4
  have hU1 : ∃ w1, U = mSet u1 w1 := ⟨_, hU.symm⟩
  obtain ⟨w1, hU1⟩ := hU1
  refine ⟨upd w 0 (nI (st 0 + 1)), u1.2.2.2.2.2.2.2.2.1, ?_, ?_⟩
  · unfold fX5_addLayer
    rw [e1, Option.bind_some, if_neg (by decide), e2, Option.bind_some, if_pos (by decide), m_bottom hM hI.1, Option.bind_some, if_pos k_i1, k_c1, hM 1 (by omega), nI_add, if_pos ((k_le (by omega) (by omega)).mpr hv), if_pos k_i0, k_c0, hM 0 (by omega), if_pos (by rw [show (16 : Int32) = nI 16 from rfl, k_eq (by omega) (by omega)]; omega), g1, Option.bind_some, if_pos k_i0, g2 0 (by omega), Option.bind_some, i5, i6, i7, i8, if_pos (k_in rfl (by omega) (by omega)), if_pos (k_in rfl (by omega) (by omega)), if_pos (k_in rfl (by omega) (by omega)), if_pos (k_in rfl (by omega) (by omega)), nI_clamp (by omega), nI_clamp (by omega), nI_clamp (by omega), nI_clamp (by omega)]
    refine kLoop_to (fun j => (zU U (8 * st 0 + 9) j, nI (9 + j))) 4 ?_ (fun j hj nx => ?_) (fun nx => ?_) (by rw [kFu_eq]; omega)
    · show _ = (U, _)
      rw [← hU]
      rfl
    · show fX5_addLayer_c119 (zU U (8 * st 0 + 9) j) ((8 : Int32) * nI (st 0)) (nI (9 + j)) nx = nx (mSet (zU U (8 * st 0 + 9) j) (upd (zU U (8 * st 0 + 9) j).2.2.2.2.2.2.1 (8 * st 0 + 9 + j) (nI 0)), nI (9 + j + 1))
      have ix : ((8 : Int32) * nI (st 0)) + nI (9 + j) = nI (8 * st 0 + 9 + j) := (m_ix (st 0) (9 + j)).trans (by rw [Nat.add_assoc])
      unfold fX5_addLayer_c119
      rw [if_neg (by rw [show (12 : Int32) = nI 12 from rfl, k_lt (by omega) (by omega)]; omega), ix, if_pos (k_in rfl (by omega) (by omega)), nI_clamp (by omega), nI_1]
      rfl
    · show fX5_addLayer_c119 (zU U (8 * st 0 + 9) 4) ((8 : Int32) * nI (st 0)) (nI (9 + 4)) nx = _
      have z0 : (zU U (8 * st 0 + 9) 4).2.2.2.2.2.2.1 0 = nI (st 0) := by
        rw [q5 0 (by omega), zN_eq, if_neg (by omega), up_n (by omega), up_n (by omega), up_n (by omega), up_n (by omega)]
      unfold fX5_addLayer_c119
      rw [if_pos (by decide), if_pos k_i0, if_pos k_i0, if_pos k_i0, k_c0, z0, pk_us, nI_1, nI_pred, hw, hU1]
      rfl
  · rw [hw, hU1] at q6
    refine rm_congr q6 (fun i hi => ?_)
    unfold adS
    by_cases c0 : i = 0
    · rw [if_pos c0, c0, up_s]
    · rw [if_neg c0, up_n c0, zN_eq]
      by_cases c1 : 8 * st 0 + 9 ≤ i ∧ i < 8 * st 0 + 13
      · rw [if_neg (by omega), if_neg (by omega), if_neg (by omega), if_neg (by omega), if_pos c1, if_pos (by omega)]
      · rw [if_neg c1, if_neg (by omega : ¬ (8 * st 0 + 9 ≤ i ∧ i < 8 * st 0 + 9 + 4))]
        by_cases c8 : i = 8 * st 0 + 8
        · rw [if_neg (by omega), if_neg (by omega), if_neg (by omega), if_pos c8, c8, up_s]
        · rw [up_n c8, if_neg c8]
          by_cases c7 : i = 8 * st 0 + 7
          · rw [if_neg (by omega), if_neg (by omega), if_pos c7, c7, up_s]
          · rw [up_n c7, if_neg c7]
            by_cases c6 : i = 8 * st 0 + 6
            · rw [if_neg (by omega), if_pos c6, c6, up_s]
            · rw [up_n c6, if_neg c6]
              by_cases c5 : i = 8 * st 0 + 5
              · rw [if_pos c5, c5, up_s]
              · rw [up_n c5, if_neg c5]
theorem act_addLayer (a1 a2 : Int32) : Act (fun C => fX0_append C a1 a2) (fun M => fX5_addLayer M a1 a2) := by
  intro st C M hM hC hI
  have h16 := hI.1
  have hb1 := hI.2.1
  have hb2 := hI.2.2.2.2.2.2
  rcases k_range a1 (a := 1) (b := 5000) (by omega) (by omega) with ⟨a, h1, h2, rfl⟩ | ⟨h1, -⟩
  · have e1 : fX5_in (nI a) 1 5000 = some 1 := fX5_in_t (a := 1) (b := 5000) rfl h1 h2 (by omega)
    have d1 : fX4_isBetween (nI a) 1 5000 = some 1 := fX4_isBetween_t (a := 1) (b := 5000) rfl h1 h2 (by omega)
    rcases k_range a2 (a := 10) (b := 2000) (by omega) (by omega) with ⟨b, h3, h4, rfl⟩ | ⟨h3, -⟩
    · have e2 : fX5_in (nI b) 10 2000 = some 1 := fX5_in_t (a := 10) (b := 2000) rfl h3 h4 (by omega)
      have d2 : fX4_isBetween (nI b) 10 2000 = some 1 := fX4_isBetween_t (a := 10) (b := 2000) rfl h3 h4 (by omega)
      by_cases hv : topN st (st 0) + a ≤ st 1
      · by_cases h0 : st 0 < 16
        · refine Or.inr ⟨nI (st 0), adS st a b, _, good_n (by omega), adS_inv hI h0 h1 h2 h3 h4 hv, adS_rc hC, ?_, fun u1 g1 g2 => m_addLayer hM hI h0 h1 h2 h3 h4 hv g1 g2⟩
          show fX0_append C (nI a) (nI b) = _
          unfold fX0_append
          rw [d1, Option.bind_some, if_neg (by decide), d2, Option.bind_some, if_pos (by decide), c_bottom hC h16, Option.bind_some, hC.2.1, nI_add, if_pos ((k_le (by omega) (by omega)).mpr hv), hC.1, if_pos (by rw [show (16 : Int32) = nI 16 from rfl, k_lt (by omega) (by omega)]; omega)]
          simp only [if_pos (k_in (x := nI (st 0)) rfl h0 (by omega : 16 < 2 ^ 31))]
          rw [nI_clamp (by omega), nI_1, nI_pred]
        · refine Or.inl ⟨-1000000004, err4, ?_, ?_⟩
          · show fX0_append C (nI a) (nI b) = _
            unfold fX0_append
            rw [d1, Option.bind_some, if_neg (by decide), d2, Option.bind_some, if_pos (by decide), c_bottom hC h16, Option.bind_some, hC.2.1, nI_add, if_pos ((k_le (by omega) (by omega)).mpr hv), hC.1, if_neg (by rw [show (16 : Int32) = nI 16 from rfl, k_lt (by omega) (by omega)]; omega)]
          · show fX5_addLayer M (nI a) (nI b) = _
            unfold fX5_addLayer
            rw [e1, Option.bind_some, if_neg (by decide), e2, Option.bind_some, if_pos (by decide), m_bottom hM hI.1, Option.bind_some, if_pos k_i1, k_c1, hM 1 (by omega), nI_add, if_pos ((k_le (by omega) (by omega)).mpr hv), if_pos k_i0, k_c0, hM 0 (by omega), show st 0 = 16 by omega, if_neg (fun z => z rfl)]
      · refine Or.inl ⟨-1000000003, err3, ?_, ?_⟩
        · show fX0_append C (nI a) (nI b) = _
          unfold fX0_append
          rw [d1, Option.bind_some, if_neg (by decide), d2, Option.bind_some, if_pos (by decide), c_bottom hC h16, Option.bind_some, hC.2.1, nI_add, if_neg (by rw [k_le (by omega) (by omega)]; exact hv)]
        · show fX5_addLayer M (nI a) (nI b) = _
          unfold fX5_addLayer
          rw [e1, Option.bind_some, if_neg (by decide), e2, Option.bind_some, if_pos (by decide), m_bottom hM hI.1, Option.bind_some, if_pos k_i1, k_c1, hM 1 (by omega), nI_add, if_neg (by rw [k_le (by omega) (by omega)]; exact hv)]
    · have e2 : fX5_in a2 10 2000 = some 0 := fX5_in_f (a := 10) (b := 2000) h3
      have d2 : fX4_isBetween a2 10 2000 = some 0 := fX4_isBetween_f (a := 10) (b := 2000) h3
      refine Or.inl ⟨-1000000002, err2, ?_, ?_⟩
      · show fX0_append C (nI a) a2 = _
        unfold fX0_append
        rw [d1, Option.bind_some, if_neg (by decide), d2, Option.bind_some, if_neg (fun z => z rfl)]
      · show fX5_addLayer M (nI a) a2 = _
        unfold fX5_addLayer
        rw [e1, Option.bind_some, if_neg (by decide), e2, Option.bind_some, if_neg (fun z => z rfl)]
  · have e1 : fX5_in a1 1 5000 = some 0 := fX5_in_f (a := 1) (b := 5000) h1
    have d1 : fX4_isBetween a1 1 5000 = some 0 := fX4_isBetween_f (a := 1) (b := 5000) h1
    refine Or.inl ⟨-1000000002, err2, ?_, ?_⟩
    · show fX0_append C a1 a2 = _
      unfold fX0_append
      rw [d1, Option.bind_some, if_pos rfl]
    · show fX5_addLayer M a1 a2 = _
      unfold fX5_addLayer
      rw [e1, Option.bind_some, if_pos rfl]
