/-! ===== PURE: the needed accumulation ===== -/
def lbI (D : Nat → Nat) (lo : Nat) : Nat → Int32
  | 0 => 0
  | j + 1 => nI (lmin D lo j)
def llI (D : Nat → Nat) (lo : Nat) : Nat → Int64
  | 0 => 0
  | j + 1 => lN (D (lmin D lo j))
def ndD (st : Nat → Nat) (k : Nat) (v : Nat) : Nat := adN (10000000 * st (8 * k + 5) / (v * st (8 * k + 7) * thinN st (st 2) (st 3) k)) (st (8 * k + 12))
theorem lmin_le {D : Nat → Nat} {lo j : Nat} : lo ≤ lmin D lo j ∧ lmin D lo j ≤ lo + j := (lmin_best j).1
theorem nd_b {st : Nat → Nat} (hI : Inv st) {k : Nat} (hk : k < st 0) {v : Nat} (h1 : 10 ≤ v) (h2 : v ≤ 2000) : 0 < v * st (8 * k + 7) * thinN st (st 2) (st 3) k ∧ v * st (8 * k + 7) * thinN st (st 2) (st 3) k < 2 ^ 62 ∧ 10000000 * st (8 * k + 5) / (v * st (8 * k + 7) * thinN st (st 2) (st 3) k) ≤ 2500000 := by
  obtain ⟨l5, l6, l7, l8, l9, l10, l11, l12⟩ := hI.2.2.2.2.2.1 k hk
  have ht := thinN_b hI (f := st 2) hI.2.2.2.1 hk
  have hp := k_prod ⟨h1, h2⟩ l7 ht
  refine ⟨by omega, by omega, Nat.div_le_of_le_mul ?_⟩
  have : 20000 * 2500000 ≤ v * st (8 * k + 7) * thinN st (st 2) (st 3) k * 2500000 := Nat.mul_le_mul_right _ hp.1
  omega
theorem nd_le {st : Nat → Nat} (hI : Inv st) {k : Nat} (hk : k < st 0) {v : Nat} (h1 : 10 ≤ v) (h2 : v ≤ 2000) : ndD st k v ≤ 2500000 := by
  obtain ⟨-, -, h⟩ := nd_b hI hk h1 h2
  have h12 := (hI.2.2.2.2.2.1 k hk).2.2.2.2.2.2.2
  exact adN_le h (by omega)
theorem m_needed {st : Nat → Nat} {u : KM} (h : RM st u) (hI : Inv st) {k : Nat} (hk : k < st 0) (hc : 0 < st (8 * k + 12)) : fX5_neededAccumulation u (nI k) = some (nI (lmin (ndD st k) 10 1990)) := by
  have h16 := hI.1
  obtain ⟨l5, l6, l7, l8, l9, l10, l11, l12⟩ := hI.2.2.2.2.2.1 k hk
  have ht := thinN_b hI (f := st 2) hI.2.2.2.1 hk
  unfold fX5_neededAccumulation
  rw [m_isLayer_t h h16 rfl hk, Option.bind_some, if_pos (by decide), m_of12 h (by omega), Option.bind_some, if_pos (nI_ne0 hc (by omega)), m_thinningOf h hI rfl hk, Option.bind_some]
  refine kLoop_to (fun j => (lbI (ndD st k) 10 j, llI (ndD st k) 10 j, nI (10 + j))) 1991 rfl (fun j hj nx => ?_) (fun nx => ?_) (by rw [kFu_eq]; omega)
  · obtain ⟨p1, p2, p3⟩ := nd_b hI hk (v := 10 + j) (by omega) (by omega)
    show fX5_neededAccumulation_c42 u (nI k) (nI (st (8 * k + 12))) (nI (thinN st (st 2) (st 3) k)) _ _ (nI (10 + j)) nx = nx (nI (lmin (ndD st k) 10 j), lN (ndD st k (lmin (ndD st k) 10 j)), nI (10 + j + 1))
    unfold fX5_neededAccumulation_c42
    have eD : fX5_size ((nI (10000000 * st (8 * k + 5) / ((10 + j) * st (8 * k + 7) * thinN st (st 2) (st 3) k)) - nI (st (8 * k + 12))).toInt64) = some (lN (ndD st k (10 + j))) := by
      rw [k_sub64 (by omega) (by omega), m_size (by omega) (by omega)]
      rfl
    rw [if_neg (by rw [show (2000 : Int32) = nI 2000 from rfl, k_lt (by omega) (by omega)]; omega), m_of5 h (by omega), Option.bind_some, m_of7 h (by omega), Option.bind_some, nI_l (by omega), nI_l (by omega), nI_l (by omega), nI_l (by omega), m_yearsBy (by omega) p1 (by omega), Option.bind_some, eD, Option.bind_some, nI_1]
    cases j with
    | zero =>
      rw [if_pos (show nI (10 + 0) = 10 from rfl), if_neg (fun z => z rfl)]
      rfl
    | succ i =>
      have hm := lmin_le (D := ndD st k) (lo := 10) (j := i)
      have b1 := nd_le hI hk (v := lmin (ndD st k) 10 i) (by omega) (by omega)
      have b2 := nd_le hI hk (v := 10 + (i + 1)) (by omega) (by omega)
      rw [if_neg (by rw [show (10 : Int32) = nI 10 from rfl, k_eq (by omega) (by omega)]; omega)]
      show (if lN (ndD st k (lmin (ndD st k) 10 i)) ≤ lN (ndD st k (10 + (i + 1))) then (if ¬ nI (lmin (ndD st k) 10 i) = nI (10 + (i + 1)) then _ else _) else _) = nx (nI (if ndD st k (lmin (ndD st k) 10 i) ≤ ndD st k (10 + (i + 1)) then lmin (ndD st k) 10 i else 10 + (i + 1)), lN (ndD st k (if ndD st k (lmin (ndD st k) 10 i) ≤ ndD st k (10 + (i + 1)) then lmin (ndD st k) 10 i else 10 + (i + 1))), _)
      by_cases hc : ndD st k (lmin (ndD st k) 10 i) ≤ ndD st k (10 + (i + 1))
      · rw [if_pos ((pk_lLE (by omega) (by omega)).mpr hc), if_pos (by rw [k_eq (by omega) (by omega)]; omega), if_pos hc]
        rfl
      · rw [if_neg (fun z => hc ((pk_lLE (by omega) (by omega)).mp z)), if_neg (fun z => z rfl), if_neg hc]
  · show fX5_neededAccumulation_c42 u (nI k) _ _ (nI (lmin (ndD st k) 10 1990)) _ (nI 2001) nx = _
    unfold fX5_neededAccumulation_c42
    rw [if_pos (by decide)]
theorem c_needed {st : Nat → Nat} {c : KC} {F : KF} (h : RC st c) (hI : Inv st) {k : Nat} (hk : k < st 0) : ∃ F', fX0_fitAccumulation c F (nI k) = some (nI (lmin (ndD st k) 10 1990), F') := by
  have h16 := hI.1
  obtain ⟨l5, l6, l7, l8, l9, l10, l11, l12⟩ := hI.2.2.2.2.2.1 k hk
  have ht := thinN_b hI (f := st 2) hI.2.2.2.1 hk
  have hl := h.2.2.2.2.2 k hk
  have hp : st (8 * k + 7) * thinN st (st 2) (st 3) k ≤ 5000 * 1000 := Nat.mul_le_mul l7.2 ht.2
  have hq : 0 < st (8 * k + 7) * thinN st (st 2) (st 3) k := Nat.mul_pos (by omega) (by omega)
  obtain ⟨F1, e1, g1⟩ := f_clear F (fun _ => 10000000 * st (8 * k + 5)) (fun _ => st (8 * k + 7) * thinN st (st 2) (st 3) k)
  obtain ⟨F2, e2, g2⟩ := f_add g1 (by omega) (x := lN (10000000 * st (8 * k + 5))) (y := lN (st (8 * k + 7) * thinN st (st 2) (st 3) k)) rfl rfl (by show 10000000 * st (8 * k + 5) ≤ _; omega) hq (by show st (8 * k + 7) * thinN st (st 2) (st 3) k ≤ _; omega)
  obtain ⟨r, e3, g3⟩ := f_nearest g2 (x := 10) (y := 2000) (z := lN (st (8 * k + 12))) (lo := 10) (hi := 2000) rfl rfl rfl (by omega) (by omega) (by omega) (by omega)
  have g4 := lmin_best (D := ndD st k) (lo := 10) 1990
  have eD : (fun v => adN (sumN (fun _ => 10000000 * st (8 * k + 5)) (fun _ => st (8 * k + 7) * thinN st (st 2) (st 3) k) v (0 + 1)) (st (8 * k + 12))) = ndD st k := by
    funext v
    show adN (0 + 10000000 * st (8 * k + 5) / (st (8 * k + 7) * thinN st (st 2) (st 3) k * v)) _ = _
    unfold ndD
    rw [Nat.zero_add, Nat.mul_comm _ v, Nat.mul_assoc]
  rw [eD] at g3
  have hr := best_uniq g3 g4
  refine ⟨F2, ?_⟩
  unfold fX0_fitAccumulation
  rw [e1, Option.bind_some, c_yearsDividend h hI rfl hk, Option.bind_some, if_pos (k_in rfl (by omega) (by omega)), c_thinningOf h hI rfl hk h.2.2.1 hI.2.2.1 h.2.2.2.1 hI.2.2.2.1, Option.bind_some, nI_clamp (by omega), hl.2.2.1, nI_l (by omega), nI_l (by omega), lN_mul, e2, Option.bind_some, if_pos (k_in rfl (by omega) (by omega)), hl.2.2.2.2.2.2, nI_l (by omega), e3, Option.bind_some, hr]
theorem hr_neededAccumulation : hop_neededAccumulation RR := by
  intro X M C F H T S hR a1
  obtain ⟨st, pst, n, q, t, hr⟩ := id hR
  have hM := hr.1
  have hC := hr.2.1
  have hI := hr.2.2.1
  have h16 := hI.1
  by_cases hx : ∃ k, k < st 0 ∧ a1 = nI k
  · obtain ⟨k, hk, rfl⟩ := hx
    have hb := (hI.2.2.2.2.2.1 k hk).2.2.2.2.2.2.2
    by_cases ha : st (8 * k + 12) = 0
    · refine ⟨-1000000005, F, ?_, ?_, hR⟩
      · unfold fX4_neededAccumulation
        rw [c_has_t hC h16 rfl hk, Option.bind_some, if_pos (by decide), c_hasCount hC hI rfl hk, if_pos ha, Option.bind_some, if_neg (fun z => z rfl)]
      · unfold fX5_neededAccumulation
        rw [m_isLayer_t hM h16 rfl hk, Option.bind_some, if_pos (by decide), m_of12 hM (by omega), Option.bind_some, ha, if_neg (fun z => z rfl)]
    · obtain ⟨F', e1⟩ := c_needed hC hI hk (F := F)
      refine ⟨_, F', ?_, m_needed hM hI hk (by omega), st, pst, n, q, t, hr⟩
      unfold fX4_neededAccumulation
      rw [c_has_t hC h16 rfl hk, Option.bind_some, if_pos (by decide), c_hasCount hC hI rfl hk, if_neg ha, Option.bind_some, if_pos (by decide), e1, Option.bind_some]
  · refine ⟨-1000000001, F, ?_, ?_, hR⟩
    · unfold fX4_neededAccumulation
      rw [c_has_f hC h16 hx, Option.bind_some, if_neg (fun z => z rfl)]
    · unfold fX5_neededAccumulation
      rw [m_isLayer_f hM h16 hx, Option.bind_some, if_neg (fun z => z rfl)]
