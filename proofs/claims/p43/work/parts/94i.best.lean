/-! ===== PURE: how many ashes; the sum of the residuals; the best function and the best kink ===== -/
def ashN (st : Nat → Nat) : Nat → Nat
  | 0 => 0
  | j + 1 => ashN st j + st (8 * j + 9)
theorem ashN_le {st : Nat → Nat} (hI : Inv st) : ∀ j, j ≤ st 0 → ashN st j ≤ j
  | 0, _ => Nat.le_refl _
  | j + 1, h => by
    have h1 := ashN_le hI j (by omega)
    have h2 := (hI.2.2.2.2.2.1 j h).2.2.2.2.1
    unfold ashN
    omega
theorem m_ashes {st : Nat → Nat} {u : KM} (h : RM st u) (hI : Inv st) : fX5_ashes u = some (nI (ashN st (st 0))) := by
  have h16 := hI.1
  unfold fX5_ashes
  refine kLoop_to (fun j => (nI (ashN st j), nI j)) (st 0) rfl (fun j hj nx => ?_) (fun nx => ?_) (by rw [kFu_eq]; omega)
  · show fX5_ashes_c4 u (nI (ashN st j)) (nI j) nx = nx (nI (ashN st j + st (8 * j + 9)), nI (j + 1))
    unfold fX5_ashes_c4
    rw [if_pos k_i0, k_c0, h 0 (by omega), if_neg (by rw [k_le (by omega) (by omega)]; omega), m_of9 h (by omega), Option.bind_some, nI_add, nI_1]
  · show fX5_ashes_c4 u (nI (ashN st (st 0))) (nI (st 0)) nx = _
    unfold fX5_ashes_c4
    rw [if_pos k_i0, k_c0, h 0 (by omega), if_pos (by rw [k_le (by omega) (by omega)]; omega)]
theorem c_ashBeds {st : Nat → Nat} {c : KC} (h : RC st c) (hI : Inv st) : fX0_ashBeds c = some (nI (ashN st (st 0))) := by
  have h16 := hI.1
  unfold fX0_ashBeds
  refine kLoop_to (fun j => (nI (ashN st j), nI j)) (st 0) rfl (fun j hj nx => ?_) (fun nx => ?_) (by rw [kFu_eq]; omega)
  · show fX0_ashBeds_c4 c (nI (ashN st j)) (nI j) nx = nx (nI (ashN st j + st (8 * j + 9)), nI (j + 1))
    have h9 := (hI.2.2.2.2.2.1 j hj).2.2.2.2.1
    unfold fX0_ashBeds_c4
    rw [h.1, if_neg (by rw [k_le (by omega) (by omega)]; omega), c_hasAsh h hI rfl hj, Option.bind_some, nI_1]
    by_cases h1 : st (8 * j + 9) = 1
    · rw [h1, if_neg (by decide), nI_1]
    · rw [show st (8 * j + 9) = 0 by omega, if_pos nI_0]
      rfl
  · show fX0_ashBeds_c4 c (nI (ashN st (st 0))) (nI (st 0)) nx = _
    unfold fX0_ashBeds_c4
    rw [h.1, if_pos (by rw [k_le (by omega) (by omega)]; omega)]
def misN (st : Nat → Nat) (f k : Nat) : Nat → Nat
  | 0 => 0
  | j + 1 => misN st f k j + if st (8 * j + 9) = 1 then adN (ageN st f k (j + 1)) (st (8 * j + 10)) else 0
theorem misN_le {st : Nat → Nat} (hI : Inv st) {f k : Nat} (hk : k ≤ 900) : ∀ j, j ≤ st 0 → misN st f k j ≤ 100000000 * j
  | 0, _ => Nat.le_refl _
  | j + 1, h => by
    have h16 := hI.1
    have h1 := misN_le hI (f := f) hk j (by omega)
    have h2 := (hI.2.2.2.2.2.1 j h).2.2.2.2.2.1
    have h3 := ageN_le hI (f := f) hk (j + 1) h
    have h4 : adN (ageN st f k (j + 1)) (st (8 * j + 10)) ≤ 100000000 := adN_le (by omega) (by omega)
    unfold misN
    split <;> omega
theorem c_misfit {st : Nat → Nat} {c : KC} (h : RC st c) (hI : Inv st) {x y : Int32} {f k : Nat} (hx : x = nI f) (hf : f ≤ 2) (hy : y = nI k) (hk : k ≤ 900) : fX0_misfit c x y = some (lN (misN st f k (st 0))) := by
  have h16 := hI.1
  unfold fX0_misfit
  refine kLoop_to (fun j => (nI (ageN st f k j), lN (misN st f k j), nI j)) (st 0) rfl (fun j hj nx => ?_) (fun nx => ?_) (by rw [kFu_eq]; omega)
  · show fX0_misfit_c8 c x y (nI (ageN st f k j)) (lN (misN st f k j)) (nI j) nx = nx (nI (ageN st f k (j + 1)), lN (misN st f k j + _), nI (j + 1))
    have hb := (hI.2.2.2.2.2.1 j hj).2.2.2.2
    have ha := ageN_le hI (f := f) hk (j + 1) hj
    have hl := h.2.2.2.2.2 j hj
    have eA : nI (ageN st f k j) + nI (yrN st f k j) = nI (ageN st f k (j + 1)) := nI_add _ _
    unfold fX0_misfit_c8
    rw [h.1, if_neg (by rw [k_le (by omega) (by omega)]; omega), c_yearsOf h hI rfl hj hx hf hy hk, Option.bind_some, c_hasAsh h hI rfl hj, Option.bind_some, eA, nI_1]
    by_cases h1 : st (8 * j + 9) = 1
    · have hd : adN (ageN st f k (j + 1)) (st (8 * j + 10)) ≤ 100000000 := adN_le (by omega) (by omega)
      rw [h1, if_neg (by decide), if_pos (k_in rfl (by omega) (by omega)), nI_clamp (by omega), hl.2.2.2.2.1, if_pos h1, k_absI (by omega) (by omega), Option.bind_some, nI_l (by omega), lN_add, if_pos rfl]
    · rw [if_pos (by rw [show st (8 * j + 9) = 0 by omega]; rfl), if_neg h1]
      rfl
  · show fX0_misfit_c8 c x y (nI (ageN st f k (st 0))) (lN (misN st f k (st 0))) (nI (st 0)) nx = _
    unfold fX0_misfit_c8
    rw [h.1, if_pos (by rw [k_le (by omega) (by omega)]; omega)]
/-! the layers alone decide -/
def SameL (st st' : Nat → Nat) : Prop := st' 1 = st 1 ∧ ∀ i, 5 ≤ i → st' i = st i
theorem same_top {st st' : Nat → Nat} (h : SameL st st') : ∀ n, topN st' n = topN st n
  | 0 => rfl
  | n + 1 => by
    unfold topN
    rw [same_top h n, h.2 _ (by omega)]
theorem same_y {st st' : Nat → Nat} (h : SameL st st') (n : Nat) : yN st' n = yN st n := by
  unfold yN
  rw [same_top h, h.1, h.2 _ (by omega)]
theorem same_h {st st' : Nat → Nat} (h : SameL st st') (n : Nat) : hN st' n = hN st n := by
  unfold hN
  rw [h.1]
theorem same_thin {st st' : Nat → Nat} (h : SameL st st') (f k n : Nat) : thinN st' f k n = thinN st f k n := by
  unfold thinN thQ
  rw [same_y h, same_h h, h.1, h.2 _ (by omega)]
theorem same_yr {st st' : Nat → Nat} (h : SameL st st') (f k n : Nat) : yrN st' f k n = yrN st f k n := by
  unfold yrN
  rw [same_thin h, h.2 (8 * n + 5) (by omega), h.2 (8 * n + 6) (by omega), h.2 (8 * n + 7) (by omega)]
theorem same_age {st st' : Nat → Nat} (h : SameL st st') (f k : Nat) : ∀ n, ageN st' f k n = ageN st f k n
  | 0 => rfl
  | n + 1 => by
    unfold ageN
    rw [same_age h f k n, same_yr h]
theorem same_lay {st st' : Nat → Nat} (h : SameL st st') {n : Nat} (hl : LayOk st n) : LayOk st' n := by
  unfold LayOk at *
  rw [h.2 (8 * n + 5) (by omega), h.2 (8 * n + 6) (by omega), h.2 (8 * n + 7) (by omega), h.2 (8 * n + 8) (by omega), h.2 (8 * n + 9) (by omega), h.2 (8 * n + 10) (by omega), h.2 (8 * n + 11) (by omega), h.2 (8 * n + 12) (by omega)]
  exact hl
theorem same_up {st : Nat → Nat} {a v : Nat} (h1 : a ≠ 1) (h5 : a < 5) : SameL st (upN st a v) := by
  refine ⟨?_, fun i hi => ?_⟩
  · unfold upN
    rw [if_neg (by omega)]
  · unfold upN
    rw [if_neg (by omega)]
theorem up_s (st : Nat → Nat) (a v : Nat) : upN st a v a = v := if_pos rfl
theorem up_n {st : Nat → Nat} {a v i : Nat} (h : i ≠ a) : upN st a v i = st i := if_neg h
theorem up_up (st : Nat → Nat) (a v w : Nat) : upN (upN st a v) a w = upN st a w := by
  funext i
  unfold upN
  split <;> rfl
theorem up_id (st : Nat → Nat) (a : Nat) : upN st a (st a) = st := by
  funext i
  unfold upN
  split
  · next h => rw [h]
  · rfl
theorem inv_up2 {st : Nat → Nat} (hI : Inv st) {v : Nat} (hv : v ≤ 2) : Inv (upN st 2 v) := by
  have hs : SameL st (upN st 2 v) := same_up (by omega) (by omega)
  refine ⟨hI.1, hI.2.1, ?_, hI.2.2.2.1, hI.2.2.2.2.1, fun n hn => same_lay hs (hI.2.2.2.2.2.1 n hn), ?_⟩
  · rw [up_s]
    exact hv
  · rw [same_top hs]
    exact hI.2.2.2.2.2.2
theorem inv_up3 {st : Nat → Nat} (hI : Inv st) {v : Nat} (hv : v ≤ 900) : Inv (upN st 3 v) := by
  have hs : SameL st (upN st 3 v) := same_up (by omega) (by omega)
  refine ⟨hI.1, hI.2.1, hI.2.2.1, ?_, hI.2.2.2.2.1, fun n hn => same_lay hs (hI.2.2.2.2.2.1 n hn), ?_⟩
  · rw [up_s]
    exact hv
  · rw [same_top hs]
    exact hI.2.2.2.2.2.2
theorem inv_up4 {st : Nat → Nat} (hI : Inv st) {v : Nat} (hv : v ≤ 15000) : Inv (upN st 4 v) := by
  have hs : SameL st (upN st 4 v) := same_up (by omega) (by omega)
  refine ⟨hI.1, hI.2.1, hI.2.2.1, hI.2.2.2.1, ?_, fun n hn => same_lay hs (hI.2.2.2.2.2.1 n hn), ?_⟩
  · rw [up_s]
    exact hv
  · rw [same_top hs]
    exact hI.2.2.2.2.2.2
/-! the first of the least -/
def amin (g : Nat → Nat) : Nat → Nat
  | 0 => 0
  | j + 1 => if g (amin g j) ≤ g (j + 1) then amin g j else j + 1
theorem amin_le {g : Nat → Nat} : ∀ j, amin g j ≤ j
  | 0 => Nat.le_refl _
  | j + 1 => by
    have := amin_le (g := g) j
    unfold amin
    split <;> omega
/-! the reference's row while it tries -/
theorem c_bestFunction {st : Nat → Nat} {X : KX} {c : KC} (h : RC st c) (hI : Inv st) (ha : 0 < ashN st (st 0)) : fX4_bestFunction X c = some (nI (amin (fun f => misN st f (st 3) (st 0)) 2)) := by
  have h16 := hI.1
  have hal := ashN_le hI _ (Nat.le_refl _)
  unfold fX4_bestFunction
  rw [c_ashBeds h hI, Option.bind_some, if_pos (nI_ne0 ha (by omega)), c_misfit h hI (x := 0) (f := 0) rfl (by omega) h.2.2.2.1 hI.2.2.2.1, Option.bind_some]
  refine kLoop_to (fun j => (nI (amin (fun f => misN st f (st 3) (st 0)) j), lN (misN st (amin (fun f => misN st f (st 3) (st 0)) j) (st 3) (st 0)), nI (j + 1))) 2 rfl (fun j hj nx => ?_) (fun nx => ?_) (by rw [kFu_eq]; omega)
  · show fX4_bestFunction_c34 X c (nI (amin (fun f => misN st f (st 3) (st 0)) j)) (lN (misN st (amin (fun f => misN st f (st 3) (st 0)) j) (st 3) (st 0))) (nI (j + 1)) nx = nx (nI (if misN st (amin (fun f => misN st f (st 3) (st 0)) j) (st 3) (st 0) ≤ misN st (j + 1) (st 3) (st 0) then amin (fun f => misN st f (st 3) (st 0)) j else j + 1), lN (misN st (if misN st (amin (fun f => misN st f (st 3) (st 0)) j) (st 3) (st 0) ≤ misN st (j + 1) (st 3) (st 0) then amin (fun f => misN st f (st 3) (st 0)) j else j + 1) (st 3) (st 0)), nI (j + 1 + 1))
    have b1 := misN_le hI (f := amin (fun f => misN st f (st 3) (st 0)) j) hI.2.2.2.1 (st 0) (Nat.le_refl _)
    have b2 := misN_le hI (f := j + 1) hI.2.2.2.1 (st 0) (Nat.le_refl _)
    unfold fX4_bestFunction_c34
    rw [if_neg (by rw [show (2 : Int32) = nI 2 from rfl, k_lt (by omega) (by omega)]; omega), c_misfit h hI (f := j + 1) rfl (by omega) h.2.2.2.1 hI.2.2.2.1, Option.bind_some, nI_1]
    by_cases hc : misN st (amin (fun f => misN st f (st 3) (st 0)) j) (st 3) (st 0) ≤ misN st (j + 1) (st 3) (st 0)
    · rw [if_pos ((pk_lLE (by omega) (by omega)).mpr hc), if_pos hc]
    · rw [if_neg (fun z => hc ((pk_lLE (by omega) (by omega)).mp z)), if_neg hc]
  · show fX4_bestFunction_c34 X c (nI (amin (fun f => misN st f (st 3) (st 0)) 2)) _ (nI 3) nx = _
    unfold fX4_bestFunction_c34
    rw [if_pos (by decide)]
