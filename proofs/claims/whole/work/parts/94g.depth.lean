/-! ===== PURE: borders, least depths ===== -/
theorem topN_lt {st : Nat → Nat} (hI : Inv st) {i j : Nat} (h : i < j) (hj : j ≤ st 0) : topN st i < topN st j := by
  have h1 := (hI.2.2.2.2.2.1 i (by omega)).1.1
  have h2 : topN st (i + 1) ≤ topN st j := topN_le h
  have h3 : topN st (i + 1) = topN st i + st (8 * i + 5) := rfl
  omega
theorem lay_border {st : Nat → Nat} (hI : Inv st) {i : Nat} (h : i < st 0) : LayAt st (topN st (i + 1)) i :=
  ⟨h, Nat.le_refl _, fun j hj => topN_lt hI (by omega) h⟩
theorem lay_below {st : Nat → Nat} (hI : Inv st) {i : Nat} (h : i + 1 < st 0) : LayAt st (topN st (i + 1) + 1) (i + 1) :=
  ⟨h, topN_lt hI (by omega) h, fun j hj => Nat.lt_succ_of_le (topN_le (by omega))⟩
def gasN (st : Nat → Nat) (d k : Nat) : Nat := agN st d k - delN st k
def invN (st : Nat → Nat) : Nat → Nat
  | 0 => 0
  | i + 1 => invN st i + if gasN st (topN st (i + 1)) i ≤ gasN st (topN st (i + 1) + 1) (i + 1) then 0 else 1
theorem gasN_lt {st : Nat → Nat} (hI : Inv st) {d k : Nat} (hk : LayAt st d k) : gasN st d k < 2 ^ 30 := by
  have h16 := hI.1
  have h0 := hk.1
  have h1 := agN_le hI hk
  have h2 := ageN_le hI (f := st 2) hI.2.2.2.1 (k + 1) hk.1
  unfold gasN
  omega
theorem c_gasN {st : Nat → Nat} {c : KC} (h : RC st c) (hI : Inv st) {x : Int32} {d k : Nat} (hx : x = nI d) (hk : LayAt st d k) : fX0_gasAgeAt c x = some (nI (gasN st d k)) := c_gasAgeAt h hI hx hk
theorem m_gasN {st : Nat → Nat} {u : KM} (h : RM st u) (hI : Inv st) {x : Int32} {d k : Nat} (hx : x = nI d) (hk : LayAt st d k) : fX5_gasAgeAt u x = some (nI (gasN st d k)) := m_gasAgeAt h hI hx hk
theorem hr_inversions : hop_inversions RR := by
  intro X M C F H T S hR
  refine RR_read hR (fun st hM hC hI => ⟨nI (invN st (st 0 - 1)), ?_, ?_⟩)
  · have h16 := hI.1
    have e : fX0_invertedBorders C = some (nI (invN st (st 0 - 1))) := by
      unfold fX0_invertedBorders
      refine kLoop_to (fun j => (nI (invN st j), nI (topN st j), nI j)) (st 0 - 1) rfl (fun j hj nx => ?_) (fun nx => ?_) (by rw [kFu_eq]; omega)
      · show fX0_invertedBorders_c6 C (nI (invN st j)) (nI (topN st j)) (nI j) nx = nx (nI (invN st j + _), nI (topN st (j + 1)), nI (j + 1))
        have q1 := topN_16 hI (n := j + 1) (by omega)
        have eT : nI (topN st j) + nI (st (8 * j + 5)) = nI (topN st (j + 1)) := nI_add _ _
        have g1 := gasN_lt hI (lay_border hI (i := j) (by omega))
        have g2 := gasN_lt hI (lay_below hI (i := j) (by omega))
        unfold fX0_invertedBorders_c6
        have e1 : nI (st 0) - (1 : Int32) = nI (st 0 - 1) := by rw [show (1 : Int32) = nI 1 from rfl, pk_sub (by omega)]
        rw [hC.1, e1, if_neg (by rw [k_le (by omega) (by omega)]; omega), if_pos (k_in rfl (by omega) (by omega)), nI_clamp (by omega), (hC.2.2.2.2.2 j (by omega)).1, eT, c_gasN hC hI rfl (lay_border hI (i := j) (by omega)), Option.bind_some, c_gasN hC hI (nI_1 _) (lay_below hI (i := j) (by omega)), Option.bind_some, show nI j + 1 = nI (j + 1) from nI_1 j, show nI (invN st j) + 1 = nI (invN st j + 1) from nI_1 _]
        by_cases hc : gasN st (topN st (j + 1)) j ≤ gasN st (topN st (j + 1) + 1) (j + 1)
        · rw [if_pos hc, if_pos]
          · rfl
          · exact (k_le (by omega) (by omega)).mpr hc
        · rw [if_neg hc, if_neg]
          exact fun z => hc ((k_le (by omega) (by omega)).mp z)
      · show fX0_invertedBorders_c6 C _ _ (nI (st 0 - 1)) nx = _
        unfold fX0_invertedBorders_c6
        rw [hC.1, if_pos]
        by_cases h0 : st 0 = 0
        · rw [h0]
          decide
        · rw [show (1 : Int32) = nI 1 from rfl, pk_sub (by omega), k_le (by omega) (by omega)]
          omega
    unfold fX4_inversions
    rw [e, Option.bind_some]
  · have h16 := hI.1
    unfold fX5_inversions
    refine kLoop_to (fun j => (nI (invN st j), nI j)) (st 0 - 1) rfl (fun j hj nx => ?_) (fun nx => ?_) (by rw [kFu_eq]; omega)
    · show fX5_inversions_c4 M (nI (invN st j)) (nI j) nx = nx (nI (invN st j + _), nI (j + 1))
      have g1 := gasN_lt hI (lay_border hI (i := j) (by omega))
      have g2 := gasN_lt hI (lay_below hI (i := j) (by omega))
      unfold fX5_inversions_c4
      rw [if_pos k_i0, k_c0, hM 0 (by omega), nI_1, if_neg (by rw [k_le (by omega) (by omega)]; omega), m_top hM rfl (by omega), Option.bind_some, m_gasN hM hI rfl (lay_border hI (i := j) (by omega)), Option.bind_some, nI_1, m_gasN hM hI rfl (lay_below hI (i := j) (by omega)), Option.bind_some, nI_1, Int32.add_zero]
      by_cases hc : gasN st (topN st (j + 1)) j ≤ gasN st (topN st (j + 1) + 1) (j + 1)
      · rw [if_pos hc, if_pos]
        · rfl
        · exact (k_le (by omega) (by omega)).mpr hc
      · rw [if_neg hc, if_neg]
        exact fun z => hc ((k_le (by omega) (by omega)).mp z)
    · show fX5_inversions_c4 M _ (nI (st 0 - 1)) nx = _
      unfold fX5_inversions_c4
      rw [if_pos k_i0, k_c0, hM 0 (by omega), nI_1, if_pos (by rw [k_le (by omega) (by omega)]; omega)]
/-! the least offset in a layer -/
theorem k_gt0L {a b : Nat} (ha : a < 2 ^ 62) (hb : b < 2 ^ 62) : (0 : Int64) < lN a - lN b ↔ b < a := by
  rw [Int64.lt_iff_toInt_lt, k_subL_toInt ha hb, show (0 : Int64).toInt = 0 from by decide]
  omega
def ceilN (nd th yr : Nat) : Nat := (nd * th + yr - 1) / yr
theorem ceil_iff {nd th yr o : Nat} (hy : 0 < yr) (ht : 0 < th) (hn : 0 < nd) : ceilN nd th yr ≤ o ↔ nd ≤ yr * o / th := by
  have h1 : 0 < nd * th := Nat.mul_pos hn ht
  unfold ceilN
  rw [Nat.le_div_iff_mul_le ht, ← Nat.lt_succ_iff, Nat.div_lt_iff_lt_mul hy]
  have e : (o + 1) * yr = yr * o + yr := by
    rw [Nat.add_mul, Nat.one_mul, Nat.mul_comm]
  show nd * th + yr - 1 < (o + 1) * yr ↔ _
  rw [e]
  omega
theorem ceil_pos {nd th yr : Nat} (hy : 0 < yr) (ht : 0 < th) (hn : 0 < nd) : 0 < ceilN nd th yr := by
  rcases Nat.eq_zero_or_pos (ceilN nd th yr) with h | h
  · have := (ceil_iff (o := 0) hy ht hn).mp (by omega)
    rw [Nat.mul_zero, Nat.zero_div] at this
    omega
  · exact h
theorem c_steps {a b yr th : Nat} (ha : a < 2 ^ 32) (hb : b < 2 ^ 32) (hy : yr < 2 ^ 31) (ht : th ≤ 5000) (h0 : b < a → 0 < yr) : fX0_stepsFor (lN a - lN b) (nI yr) (nI th) = some (nI (if a ≤ b then 0 else ceilN (a - b) th yr)) := by
  unfold fX0_stepsFor
  by_cases h : a ≤ b
  · rw [if_neg (by rw [k_gt0L (by omega) (by omega)]; omega), if_pos h]
    rfl
  · have q : (a - b) * th ≤ 2 ^ 32 * 5000 := Nat.mul_le_mul (by omega) ht
    have hy0 := h0 (by omega)
    rw [if_pos (by rw [k_gt0L (by omega) (by omega)]; omega), if_neg h, lN_sub (by omega), nI_l (by omega), nI_l hy, lN_mul, lN_add, show (1 : Int64) = lN 1 from rfl, lN_sub (by omega), fX4_quotient_ok (by omega) hy0 (by omega), Option.bind_some, lN_i]
    rfl
/-- what a delay takes off: of the gas, or nothing -/
def dlN (st : Nat → Nat) (g : Bool) (k : Nat) : Nat := if g = true then delN st k else 0
/-- old enough, at an offset in a layer -/
def OldAt (st : Nat → Nat) (g : Bool) (a k o : Nat) : Prop := a ≤ ageN st (st 2) (st 3) k + yrN st (st 2) (st 3) k * o / st (8 * k + 5) - dlN st g k
theorem old_mono {st : Nat → Nat} {g : Bool} {a k o p : Nat} (h : OldAt st g a k o) (ho : o ≤ p) : OldAt st g a k p := by
  unfold OldAt at *
  have : yrN st (st 2) (st 3) k * o / st (8 * k + 5) ≤ yrN st (st 2) (st 3) k * p / st (8 * k + 5) := Nat.div_le_div_right (Nat.mul_le_mul_left _ ho)
  omega
theorem m_ld_in {u : KM} {a top old yr th del o : Nat} {p2 x5 : Int32} {nx8 : Int32 × Int32 × Int32 → Option Int32} {nx64 : Int32 → Option Int32} (ha : a < 2 ^ 31) (htop : top ≤ 200000) (hold : old ≤ 40000000) (hyr : yr ≤ 2500000) (hth : 1 ≤ th ∧ th ≤ 5000) (hdel : del ≤ 75000) (ho : o ≤ th + 1) : fX5_leastDepth_c64 u (nI a) p2 (nI top) (nI old) x5 (nI yr) (nI th) (nI del) (nI o) nx8 nx64 = if th < o then nx8 (nI (top + th), nI (old + yr), x5 + 1) else if a ≤ old + yr * o / th - del then some (nI (top + o)) else nx64 (nI (o + 1)) := by
  unfold fX5_leastDepth_c64
  by_cases h1 : th < o
  · rw [if_pos ((k_lt (by omega) (by omega)).mpr h1), if_pos h1, nI_add, nI_add]
  · have q : yr * o / th ≤ yr := Nat.div_le_of_le_mul (by rw [Nat.mul_comm]; exact Nat.mul_le_mul_right _ (by omega))
    rw [if_neg (by rw [k_lt (by omega) (by omega)]; omega), if_neg h1, m_part (by omega) (by omega) (by omega) (by omega), Option.bind_some, nI_add, nI_add, nI_1]
    generalize yr * o / th = z at *
    by_cases h2 : del ≤ old + z
    · rw [if_pos ((k_ge0I (by omega) (by omega)).mpr h2), pk_sub h2]
      by_cases h3 : a ≤ old + z - del
      · rw [if_pos h3, if_neg (by rw [k_lt (by omega) (by omega)]; omega)]
      · rw [if_neg h3, if_pos (by rw [k_lt (by omega) (by omega)]; omega)]
    · rw [if_neg (by rw [k_ge0I (by omega) (by omega)]; omega)]
      by_cases h3 : a ≤ old + z - del
      · rw [if_pos h3, if_neg (by rw [show (0 : Int32) = nI 0 from rfl, k_lt (by omega) (by omega)]; omega)]
      · rw [if_neg h3, if_pos (by rw [show (0 : Int32) = nI 0 from rfl, k_lt (by omega) (by omega)]; omega)]
/-- a layer that is old enough from an offset on -/
theorem m_ld_yes {u : KM} {a top old yr th del o0 o1 : Nat} {p2 x5 : Int32} {nx8 : Int32 × Int32 × Int32 → Option Int32} (ha : a < 2 ^ 31) (htop : top ≤ 200000) (hold : old ≤ 40000000) (hyr : yr ≤ 2500000) (hth : 1 ≤ th ∧ th ≤ 5000) (hdel : del ≤ 75000) (h01 : o0 ≤ o1) (h1t : o1 ≤ th) (hno : ∀ o, o0 ≤ o → o < o1 → ¬ a ≤ old + yr * o / th - del) (hyes : a ≤ old + yr * o1 / th - del) : kLoopC kFu (fun q nx64 => fX5_leastDepth_c64 u (nI a) p2 (nI top) (nI old) x5 (nI yr) (nI th) (nI del) q nx8 nx64) (nI o0) = some (nI (top + o1)) := by
  refine kLoop_to (fun j => nI (o0 + j)) (o1 - o0) rfl (fun j hj nx => ?_) (fun nx => ?_) (by rw [kFu_eq]; omega)
  · show fX5_leastDepth_c64 _ _ _ _ _ _ _ _ _ (nI (o0 + j)) nx8 nx = nx (nI (o0 + (j + 1)))
    rw [m_ld_in ha htop hold hyr hth hdel (by omega), if_neg (by omega), if_neg (hno _ (by omega) (by omega))]
    rfl
  · show fX5_leastDepth_c64 _ _ _ _ _ _ _ _ _ (nI (o0 + (o1 - o0))) nx8 nx = _
    rw [show o0 + (o1 - o0) = o1 by omega, m_ld_in ha htop hold hyr hth hdel (by omega), if_neg (by omega), if_pos hyes]
theorem m_ld_no {u : KM} {a top old yr th del o0 : Nat} {p2 x5 : Int32} {nx8 : Int32 × Int32 × Int32 → Option Int32} (ha : a < 2 ^ 31) (htop : top ≤ 200000) (hold : old ≤ 40000000) (hyr : yr ≤ 2500000) (hth : 1 ≤ th ∧ th ≤ 5000) (hdel : del ≤ 75000) (h01 : o0 ≤ th + 1) (hno : ∀ o, o0 ≤ o → o ≤ th → ¬ a ≤ old + yr * o / th - del) : kLoopC kFu (fun q nx64 => fX5_leastDepth_c64 u (nI a) p2 (nI top) (nI old) x5 (nI yr) (nI th) (nI del) q nx8 nx64) (nI o0) = nx8 (nI (top + th), nI (old + yr), x5 + 1) := by
  refine kLoop_to (fun j => nI (o0 + j)) (th + 1 - o0) rfl (fun j hj nx => ?_) (fun nx => ?_) (by rw [kFu_eq]; omega)
  · show fX5_leastDepth_c64 _ _ _ _ _ _ _ _ _ (nI (o0 + j)) nx8 nx = nx (nI (o0 + (j + 1)))
    rw [m_ld_in ha htop hold hyr hth hdel (by omega), if_neg (by omega), if_neg (hno _ (by omega) (by omega))]
    rfl
  · show fX5_leastDepth_c64 _ _ _ _ _ _ _ _ _ (nI (o0 + (th + 1 - o0))) nx8 nx = _
    rw [show o0 + (th + 1 - o0) = th + 1 by omega, m_ld_in ha htop hold hyr hth hdel (by omega), if_pos (by omega)]
def gI (g : Bool) : Int32 := if g = true then 1 else 0
/-- one layer of the search -/
theorem m_ld_lay {st : Nat → Nat} {u : KM} (h : RM st u) (hI : Inv st) {a k : Nat} {g : Bool} {nx : Int32 × Int32 × Int32 → Option Int32} (hk : k < st 0) : fX5_leastDepth_c8 u (nI a) (gI g) (nI (topN st k)) (nI (ageN st (st 2) (st 3) k)) (nI k) nx = kLoopC kFu (fun q nx64 => fX5_leastDepth_c64 u (nI a) (gI g) (nI (topN st k)) (nI (ageN st (st 2) (st 3) k)) (nI k) (nI (yrN st (st 2) (st 3) k)) (nI (st (8 * k + 5))) (nI (dlN st g k)) q nx nx64) (nI (if k = 0 then 0 else 1)) := by
  have h16 := hI.1
  unfold fX5_leastDepth_c8
  rw [if_pos k_i0, k_c0, h 0 (by omega), if_neg (by rw [k_le (by omega) (by omega)]; omega), m_yearsOf h hI rfl hk, Option.bind_some, m_of5 h (by omega), Option.bind_some]
  have ek : (nI k = 0) ↔ k = 0 := by
    rw [show (0 : Int32) = nI 0 from rfl, k_eq (by omega) (by omega)]
  cases g with
  | false =>
    rw [if_pos (show gI false = 0 from rfl)]
    by_cases h0 : k = 0
    · rw [if_neg (fun z => z (ek.mpr h0)), if_pos h0]
      rfl
    · rw [if_pos (fun z => h0 (ek.mp z)), if_neg h0]
      rfl
  | true =>
    rw [if_neg (show ¬ gI true = 0 from by decide), m_delayOf h hI rfl hk, Option.bind_some]
    by_cases h0 : k = 0
    · rw [if_neg (fun z => z (ek.mpr h0)), if_pos h0]
      rfl
    · rw [if_pos (fun z => h0 (ek.mp z)), if_neg h0]
      rfl
theorem dlN_le {st : Nat → Nat} (hI : Inv st) {g : Bool} {k : Nat} (hk : k < st 0) : dlN st g k ≤ 75000 := by
  have := delN_le hI hk
  unfold dlN
  split <;> omega
theorem old_full {st : Nat → Nat} (hI : Inv st) {g : Bool} {a k : Nat} (hk : k < st 0) : OldAt st g a k (st (8 * k + 5)) ↔ a ≤ ageN st (st 2) (st 3) (k + 1) - dlN st g k := by
  have h1 := (hI.2.2.2.2.2.1 k hk).1
  unfold OldAt
  rw [Nat.mul_div_cancel _ (by omega)]
  rfl
/-- found in layer k at offset o -/
theorem m_leastDepth {st : Nat → Nat} {u : KM} (h : RM st u) (hI : Inv st) {a k o : Nat} {g : Bool} (ha : a < 2 ^ 31) (hk : k < st 0) (hl : ∀ j, j < k → ¬ a ≤ ageN st (st 2) (st 3) (j + 1) - dlN st g j) (h0 : (if k = 0 then 0 else 1) ≤ o) (ho : o ≤ st (8 * k + 5)) (hno : ∀ p, (if k = 0 then 0 else 1) ≤ p → p < o → ¬ OldAt st g a k p) (hyes : OldAt st g a k o) : fX5_leastDepth u (nI a) (gI g) = some (nI (topN st k + o)) := by
  have h16 := hI.1
  unfold fX5_leastDepth
  refine kLoop_to (fun j => (nI (topN st j), nI (ageN st (st 2) (st 3) j), nI j)) k rfl (fun j hj nx => ?_) (fun nx => ?_) (by rw [kFu_eq]; omega)
  · show fX5_leastDepth_c8 u (nI a) (gI g) (nI (topN st j)) (nI (ageN st (st 2) (st 3) j)) (nI j) nx = nx (nI (topN st (j + 1)), nI (ageN st (st 2) (st 3) (j + 1)), nI (j + 1))
    have q1 := topN_16 hI (n := j) (by omega)
    have q2 := ageN_le hI (f := st 2) hI.2.2.2.1 j (by omega)
    have q3 := yrN_le hI (f := st 2) hI.2.2.2.1 (n := j) (by omega)
    have q4 := (hI.2.2.2.2.2.1 j (by omega)).1
    have q5 := dlN_le hI (g := g) (k := j) (by omega)
    rw [m_ld_lay h hI (by omega), m_ld_no ha q1 (by omega) q3 q4 q5 (by split <;> omega), nI_1]
    · rfl
    · intro p hp1 hp2 hp
      exact hl j hj ((old_full hI (by omega)).mp (old_mono (p := st (8 * j + 5)) hp hp2))
  · show fX5_leastDepth_c8 u (nI a) (gI g) (nI (topN st k)) (nI (ageN st (st 2) (st 3) k)) (nI k) nx = _
    have q1 := topN_16 hI (n := k) (by omega)
    have q2 := ageN_le hI (f := st 2) hI.2.2.2.1 k (by omega)
    have q3 := yrN_le hI (f := st 2) hI.2.2.2.1 (n := k) hk
    have q4 := (hI.2.2.2.2.2.1 k hk).1
    have q5 := dlN_le hI (g := g) hk
    rw [m_ld_lay h hI hk, m_ld_yes ha q1 (by omega) q3 q4 q5 h0 ho hno hyes]
theorem m_leastDepth0 {st : Nat → Nat} {u : KM} (h : RM st u) (hI : Inv st) {a : Nat} {g : Bool} (ha : a < 2 ^ 31) (hl : ∀ j, j < st 0 → ¬ a ≤ ageN st (st 2) (st 3) (j + 1) - dlN st g j) : fX5_leastDepth u (nI a) (gI g) = some (-1000000005) := by
  have h16 := hI.1
  unfold fX5_leastDepth
  refine kLoop_to (fun j => (nI (topN st j), nI (ageN st (st 2) (st 3) j), nI j)) (st 0) rfl (fun j hj nx => ?_) (fun nx => ?_) (by rw [kFu_eq]; omega)
  · show fX5_leastDepth_c8 u (nI a) (gI g) (nI (topN st j)) (nI (ageN st (st 2) (st 3) j)) (nI j) nx = nx (nI (topN st (j + 1)), nI (ageN st (st 2) (st 3) (j + 1)), nI (j + 1))
    have q1 := topN_16 hI (n := j) (by omega)
    have q2 := ageN_le hI (f := st 2) hI.2.2.2.1 j (by omega)
    have q3 := yrN_le hI (f := st 2) hI.2.2.2.1 (n := j) (by omega)
    have q4 := (hI.2.2.2.2.2.1 j (by omega)).1
    have q5 := dlN_le hI (g := g) (k := j) (by omega)
    rw [m_ld_lay h hI (by omega), m_ld_no ha q1 (by omega) q3 q4 q5 (by split <;> omega), nI_1]
    · rfl
    · intro p hp1 hp2 hp
      exact hl j hj ((old_full hI (by omega)).mp (old_mono (p := st (8 * j + 5)) hp hp2))
  · show fX5_leastDepth_c8 u (nI a) (gI g) (nI (topN st (st 0))) (nI (ageN st (st 2) (st 3) (st 0))) (nI (st 0)) nx = _
    unfold fX5_leastDepth_c8
    rw [if_pos k_i0, k_c0, h 0 (by omega), if_pos (by rw [k_le (by omega) (by omega)]; omega)]
theorem least_or {P : Nat → Prop} (n : Nat) : (∃ k, k < n ∧ P k ∧ ∀ j, j < k → ¬ P j) ∨ ∀ j, j < n → ¬ P j := by
  by_cases h : ∃ k, k < n ∧ P k
  · obtain ⟨k, hk, hl⟩ := pk_least (fun k => k < n ∧ P k) h
    exact Or.inl ⟨k, hk.1, hk.2, fun j hj hp => hl j hj ⟨by omega, hp⟩⟩
  · exact Or.inr (fun j hj hp => h ⟨j, hj, hp⟩)
theorem hr_depthOf : hop_depthOf RR := by
  intro X M C F H T S hR a1
  refine RR_read hR (fun st hM hC hI => ?_)
  have h16 := hI.1
  rcases k_of a1 with hn | ⟨a, ha, rfl⟩
  · have hn' : ¬ (0 : Int32) ≤ a1 := by
      rw [Int32.lt_iff_toInt_lt] at hn
      rw [Int32.le_iff_toInt_le]
      omega
    refine ⟨-1000000002, ?_, ?_⟩
    · unfold fX4_depthOf
      rw [if_neg hn']
    · unfold fX5_depthOf
      rw [if_neg hn']
  · have hge : (0 : Int32) ≤ nI a := nI_pos' ha
    have step : ∀ (j : Nat) (nx : Int32 × Int64 × Int32 → Option Int32), j < st 0 → ageN st (st 2) (st 3) (j + 1) < a → fX0_leastDepthOf_c7 C (nI a) (nI (topN st j)) (lN (ageN st (st 2) (st 3) j)) (nI j) nx = nx (nI (topN st (j + 1)), lN (ageN st (st 2) (st 3) (j + 1)), nI (j + 1)) := by
      intro j nx hj hlt
      have q2 := ageN_le hI (f := st 2) hI.2.2.2.1 (j + 1) hj
      have q3 := yrN_le hI (f := st 2) hI.2.2.2.1 (n := j) (by omega)
      have eA : lN (ageN st (st 2) (st 3) j) + lN (yrN st (st 2) (st 3) j) = lN (ageN st (st 2) (st 3) (j + 1)) := lN_add _ _
      unfold fX0_leastDepthOf_c7
      rw [hC.1, if_neg (by rw [k_le (by omega) (by omega)]; omega), c_years hC hI rfl hj, Option.bind_some, nI_l (by omega), nI_l (by omega), eA, if_pos (by rw [pk_lLT (by omega) (by omega)]; omega), if_pos (k_in rfl (by omega) (by omega)), nI_clamp (by omega), (hC.2.2.2.2.2 j hj).1, nI_add, nI_1]
      rfl
    rcases least_or (P := fun k => a ≤ ageN st (st 2) (st 3) (k + 1)) (st 0) with ⟨k, hk, hy, hl⟩ | hl
    · have q2 := ageN_le hI (f := st 2) hI.2.2.2.1 (k + 1) hk
      have q2' : ageN st (st 2) (st 3) (k + 1) = ageN st (st 2) (st 3) k + yrN st (st 2) (st 3) k := rfl
      have q3 := yrN_le hI (f := st 2) hI.2.2.2.1 (n := k) hk
      have q4 := (hI.2.2.2.2.2.1 k hk).1
      have eA : lN (ageN st (st 2) (st 3) k) + lN (yrN st (st 2) (st 3) k) = lN (ageN st (st 2) (st 3) (k + 1)) := lN_add _ _
      refine ⟨nI (topN st k + (if a ≤ ageN st (st 2) (st 3) k then 0 else ceilN (a - ageN st (st 2) (st 3) k) (st (8 * k + 5)) (yrN st (st 2) (st 3) k))), ?_, ?_⟩
      · have e : fX0_leastDepthOf C (nI a) = some (nI (topN st k + (if a ≤ ageN st (st 2) (st 3) k then 0 else ceilN (a - ageN st (st 2) (st 3) k) (st (8 * k + 5)) (yrN st (st 2) (st 3) k)))) := by
          unfold fX0_leastDepthOf
          refine kLoop_to (fun j => (nI (topN st j), lN (ageN st (st 2) (st 3) j), nI j)) k rfl (fun j hj nx => step j nx (by omega) (Nat.lt_of_not_le (hl j hj))) (fun nx => ?_) (by rw [kFu_eq]; omega)
          show fX0_leastDepthOf_c7 C (nI a) (nI (topN st k)) (lN (ageN st (st 2) (st 3) k)) (nI k) nx = _
          unfold fX0_leastDepthOf_c7
          rw [hC.1, if_neg (by rw [k_le (by omega) (by omega)]; omega), c_years hC hI rfl hk, Option.bind_some, nI_l (n := yrN st (st 2) (st 3) k) (by omega), nI_l ha, eA, if_neg (by rw [pk_lLT (by omega) (by omega)]; omega), if_pos (k_in rfl (by omega) (by omega)), nI_clamp (by omega), (hC.2.2.2.2.2 k hk).1, c_steps (by omega) (by omega) (by omega) q4.2 (by omega), Option.bind_some, nI_add]
        unfold fX4_depthOf
        rw [if_pos hge, e, Option.bind_some]
      · unfold fX5_depthOf
        rw [if_pos hge]
        have hx : fX5_leastDepth M (nI a) (gI false) = some (nI (topN st k + (if a ≤ ageN st (st 2) (st 3) k then 0 else ceilN (a - ageN st (st 2) (st 3) k) (st (8 * k + 5)) (yrN st (st 2) (st 3) k)))) := by
          by_cases hc : a ≤ ageN st (st 2) (st 3) k
          · have hk0 : k = 0 := by
              rcases Nat.eq_zero_or_pos k with z | z
              · exact z
              · refine absurd ?_ (hl (k - 1) (by omega))
                rw [Nat.sub_add_cancel z]
                exact hc
            subst hk0
            rw [if_pos hc]
            exact m_leastDepth hM hI ha hk (fun j hj => absurd hj (by omega)) (Nat.le_refl 0) (by omega) (fun p _ hp => absurd hp (by omega)) (Nat.le_trans hc (by unfold dlN; simp))
          · have hy0 : 0 < yrN st (st 2) (st 3) k := by omega
            have hci := fun o => ceil_iff (o := o) (nd := a - ageN st (st 2) (st 3) k) (th := st (8 * k + 5)) hy0 (by omega) (by omega)
            have hcp := ceil_pos (nd := a - ageN st (st 2) (st 3) k) (th := st (8 * k + 5)) hy0 (by omega) (by omega)
            rw [if_neg hc]
            refine m_leastDepth hM hI ha hk (fun j hj => ?_) (by split <;> omega) ((hci _).mpr ?_) (fun p _ hp ho => ?_) ?_
            · show ¬ a ≤ _ - 0
              exact hl j hj
            · rw [Nat.mul_div_cancel _ (by omega)]
              omega
            · have := (hci p).mpr (by unfold OldAt dlN at ho; simp only [Bool.false_eq_true, if_false] at ho; omega)
              omega
            · have := (hci _).mp (Nat.le_refl _)
              unfold OldAt dlN
              simp only [Bool.false_eq_true, if_false]
              omega
        rw [show (0 : Int32) = gI false from rfl, hx, Option.bind_some]
    · refine ⟨-1000000005, ?_, ?_⟩
      · have e : fX0_leastDepthOf C (nI a) = some (-1000000005) := by
          unfold fX0_leastDepthOf
          refine kLoop_to (fun j => (nI (topN st j), lN (ageN st (st 2) (st 3) j), nI j)) (st 0) rfl (fun j hj nx => step j nx hj (Nat.lt_of_not_le (hl j hj))) (fun nx => ?_) (by rw [kFu_eq]; omega)
          show fX0_leastDepthOf_c7 C (nI a) (nI (topN st (st 0))) (lN (ageN st (st 2) (st 3) (st 0))) (nI (st 0)) nx = _
          unfold fX0_leastDepthOf_c7
          rw [hC.1, if_pos (by rw [k_le (by omega) (by omega)]; omega)]
        unfold fX4_depthOf
        rw [if_pos hge, e, Option.bind_some]
      · unfold fX5_depthOf
        rw [if_pos hge, show (0 : Int32) = gI false from rfl, m_leastDepth0 (g := false) hM hI ha (fun j hj => hl j hj), Option.bind_some]
