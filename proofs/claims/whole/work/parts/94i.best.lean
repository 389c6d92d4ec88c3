/-! ===== PURE: how many ashes; the sum of the residuals; the best function and the best kink ===== -/
def ashN (st : Nat → Nat) : Nat → Nat
  | 0 => 0
  | j + 1 => ashN st j + st (8 * j + 9)
theorem ashN_le {st : Nat → Nat} (hI : Inv st) : ∀ j, j ≤ st 0 → ashN st j ≤ j
  | 0, _ => Nat.le_refl _
  | j + 1, h => by
    have h1 := ashN_le hI j (by omega)
    have h2 := (hI.2.2.2.2.2.1 j h).2.2.2.2.1
    unfold ashN
    omega
theorem m_ashes {st : Nat → Nat} {u : KM} (h : RM st u) (hI : Inv st) : fX5_ashes u = some (nI (ashN st (st 0))) := by
  have h16 := hI.1
  unfold fX5_ashes
  refine kLoop_to (fun j => (nI (ashN st j), nI j)) (st 0) rfl (fun j hj nx => ?_) (fun nx => ?_) (by rw [kFu_eq]; omega)
  · show fX5_ashes_c4 u (nI (ashN st j)) (nI j) nx = nx (nI (ashN st j + st (8 * j + 9)), nI (j + 1))
    unfold fX5_ashes_c4
    rw [if_pos k_i0, k_c0, h 0 (by omega), if_neg (by rw [k_le (by omega) (by omega)]; omega), m_of9 h (by omega), Option.bind_some, nI_add, nI_1]
  · show fX5_ashes_c4 u (nI (ashN st (st 0))) (nI (st 0)) nx = _
    unfold fX5_ashes_c4
    rw [if_pos k_i0, k_c0, h 0 (by omega), if_pos (by rw [k_le (by omega) (by omega)]; omega)]
theorem c_ashBeds {st : Nat → Nat} {c : KC} (h : RC st c) (hI : Inv st) : fX0_ashBeds c = some (nI (ashN st (st 0))) := by
  have h16 := hI.1
  unfold fX0_ashBeds
  refine kLoop_to (fun j => (nI (ashN st j), nI j)) (st 0) rfl (fun j hj nx => ?_) (fun nx => ?_) (by rw [kFu_eq]; omega)
  · show fX0_ashBeds_c4 c (nI (ashN st j)) (nI j) nx = nx (nI (ashN st j + st (8 * j + 9)), nI (j + 1))
    have h9 := (hI.2.2.2.2.2.1 j hj).2.2.2.2.1
    unfold fX0_ashBeds_c4
    rw [h.1, if_neg (by rw [k_le (by omega) (by omega)]; omega), c_hasAsh h hI rfl hj, Option.bind_some, nI_1]
    by_cases h1 : st (8 * j + 9) = 1
    · rw [h1, if_neg (by decide), nI_1]
    · rw [show st (8 * j + 9) = 0 by omega, if_pos nI_0]
      rfl
  · show fX0_ashBeds_c4 c (nI (ashN st (st 0))) (nI (st 0)) nx = _
    unfold fX0_ashBeds_c4
    rw [h.1, if_pos (by rw [k_le (by omega) (by omega)]; omega)]
def misN (st : Nat → Nat) (f k : Nat) : Nat → Nat
  | 0 => 0
  | j + 1 => misN st f k j + if st (8 * j + 9) = 1 then adN (ageN st f k (j + 1)) (st (8 * j + 10)) else 0
theorem misN_le {st : Nat → Nat} (hI : Inv st) {f k : Nat} (hk : k ≤ 900) : ∀ j, j ≤ st 0 → misN st f k j ≤ 100000000 * j
  | 0, _ => Nat.le_refl _
  | j + 1, h => by
    have h16 := hI.1
    have h1 := misN_le hI (f := f) hk j (by omega)
    have h2 := (hI.2.2.2.2.2.1 j h).2.2.2.2.2.1
    have h3 := ageN_le hI (f := f) hk (j + 1) h
    have h4 : adN (ageN st f k (j + 1)) (st (8 * j + 10)) ≤ 100000000 := adN_le (by omega) (by omega)
    unfold misN
    split <;> omega
theorem m_residuals {st : Nat → Nat} {u : KM} (h : RM st u) (hI : Inv st) : fX5_residuals u = some (lN (misN st (st 2) (st 3) (st 0))) := by
  have h16 := hI.1
  unfold fX5_residuals
  refine kLoop_to (fun j => (lN (misN st (st 2) (st 3) j), nI j)) (st 0) rfl (fun j hj nx => ?_) (fun nx => ?_) (by rw [kFu_eq]; omega)
  · show fX5_residuals_c4 u (lN (misN st (st 2) (st 3) j)) (nI j) nx = nx (lN (misN st (st 2) (st 3) j + _), nI (j + 1))
    have hb := (hI.2.2.2.2.2.1 j hj).2.2.2.2
    have ha := ageN_le hI (f := st 2) hI.2.2.2.1 (j + 1) hj
    unfold fX5_residuals_c4
    rw [if_pos k_i0, k_c0, h 0 (by omega), if_neg (by rw [k_le (by omega) (by omega)]; omega), m_of9 h (by omega), Option.bind_some]
    by_cases h1 : st (8 * j + 9) = 1
    · rw [h1, if_neg (fun z => z rfl), m_residualOf h hI rfl hj, Option.bind_some, k_sub64 (by omega) (by omega), m_size (by omega) (by omega), Option.bind_some, nI_1, lN_add, if_pos rfl]
    · rw [if_pos (by rw [show (1 : Int32) = nI 1 from rfl, k_eq (by omega) (by omega)]; exact h1), if_neg h1, nI_1, Int64.add_zero]
      rfl
  · show fX5_residuals_c4 u (lN (misN st (st 2) (st 3) (st 0))) (nI (st 0)) nx = _
    unfold fX5_residuals_c4
    rw [if_pos k_i0, k_c0, h 0 (by omega), if_pos (by rw [k_le (by omega) (by omega)]; omega)]
theorem c_misfit {st : Nat → Nat} {c : KC} (h : RC st c) (hI : Inv st) {x y : Int32} {f k : Nat} (hx : x = nI f) (hf : f ≤ 2) (hy : y = nI k) (hk : k ≤ 900) : fX0_misfit c x y = some (lN (misN st f k (st 0))) := by
  have h16 := hI.1
  unfold fX0_misfit
  refine kLoop_to (fun j => (nI (ageN st f k j), lN (misN st f k j), nI j)) (st 0) rfl (fun j hj nx => ?_) (fun nx => ?_) (by rw [kFu_eq]; omega)
  · show fX0_misfit_c8 c x y (nI (ageN st f k j)) (lN (misN st f k j)) (nI j) nx = nx (nI (ageN st f k (j + 1)), lN (misN st f k j + _), nI (j + 1))
    have hb := (hI.2.2.2.2.2.1 j hj).2.2.2.2
    have ha := ageN_le hI (f := f) hk (j + 1) hj
    have hl := h.2.2.2.2.2 j hj
    have eA : nI (ageN st f k j) + nI (yrN st f k j) = nI (ageN st f k (j + 1)) := nI_add _ _
    unfold fX0_misfit_c8
    rw [h.1, if_neg (by rw [k_le (by omega) (by omega)]; omega), c_yearsOf h hI rfl hj hx hf hy hk, Option.bind_some, c_hasAsh h hI rfl hj, Option.bind_some, eA, nI_1]
    by_cases h1 : st (8 * j + 9) = 1
    · have hd : adN (ageN st f k (j + 1)) (st (8 * j + 10)) ≤ 100000000 := adN_le (by omega) (by omega)
      rw [h1, if_neg (by decide), if_pos (k_in rfl (by omega) (by omega)), nI_clamp (by omega), hl.2.2.2.2.1, if_pos h1, k_absI (by omega) (by omega), Option.bind_some, nI_l (by omega), lN_add, if_pos rfl]
    · rw [if_pos (by rw [show st (8 * j + 9) = 0 by omega]; rfl), if_neg h1]
      rfl
  · show fX0_misfit_c8 c x y (nI (ageN st f k (st 0))) (lN (misN st f k (st 0))) (nI (st 0)) nx = _
    unfold fX0_misfit_c8
    rw [h.1, if_pos (by rw [k_le (by omega) (by omega)]; omega)]
/-! the layers alone decide -/
def SameL (st st' : Nat → Nat) : Prop := st' 1 = st 1 ∧ ∀ i, 5 ≤ i → st' i = st i
theorem same_top {st st' : Nat → Nat} (h : SameL st st') : ∀ n, topN st' n = topN st n
  | 0 => rfl
  | n + 1 => by
    unfold topN
    rw [same_top h n, h.2 _ (by omega)]
theorem same_y {st st' : Nat → Nat} (h : SameL st st') (n : Nat) : yN st' n = yN st n := by
  unfold yN
  rw [same_top h, h.1, h.2 _ (by omega)]
theorem same_h {st st' : Nat → Nat} (h : SameL st st') (n : Nat) : hN st' n = hN st n := by
  unfold hN
  rw [h.1]
theorem same_thin {st st' : Nat → Nat} (h : SameL st st') (f k n : Nat) : thinN st' f k n = thinN st f k n := by
  unfold thinN thQ
  rw [same_y h, same_h h, h.1, h.2 _ (by omega)]
theorem same_yr {st st' : Nat → Nat} (h : SameL st st') (f k n : Nat) : yrN st' f k n = yrN st f k n := by
  unfold yrN
  rw [same_thin h, h.2 (8 * n + 5) (by omega), h.2 (8 * n + 6) (by omega), h.2 (8 * n + 7) (by omega)]
theorem same_age {st st' : Nat → Nat} (h : SameL st st') (f k : Nat) : ∀ n, ageN st' f k n = ageN st f k n
  | 0 => rfl
  | n + 1 => by
    unfold ageN
    rw [same_age h f k n, same_yr h]
theorem same_mis {st st' : Nat → Nat} (h : SameL st st') (f k : Nat) : ∀ n, misN st' f k n = misN st f k n
  | 0 => rfl
  | n + 1 => by
    unfold misN
    rw [same_mis h f k n, same_age h, h.2 (8 * n + 9) (by omega), h.2 (8 * n + 10) (by omega)]
theorem same_lay {st st' : Nat → Nat} (h : SameL st st') {n : Nat} (hl : LayOk st n) : LayOk st' n := by
  unfold LayOk at *
  rw [h.2 (8 * n + 5) (by omega), h.2 (8 * n + 6) (by omega), h.2 (8 * n + 7) (by omega), h.2 (8 * n + 8) (by omega), h.2 (8 * n + 9) (by omega), h.2 (8 * n + 10) (by omega), h.2 (8 * n + 11) (by omega), h.2 (8 * n + 12) (by omega)]
  exact hl
theorem same_up {st : Nat → Nat} {a v : Nat} (h1 : a ≠ 1) (h5 : a < 5) : SameL st (upN st a v) := by
  refine ⟨?_, fun i hi => ?_⟩
  · unfold upN
    rw [if_neg (by omega)]
  · unfold upN
    rw [if_neg (by omega)]
theorem up_s (st : Nat → Nat) (a v : Nat) : upN st a v a = v := if_pos rfl
theorem up_n {st : Nat → Nat} {a v i : Nat} (h : i ≠ a) : upN st a v i = st i := if_neg h
theorem up_up (st : Nat → Nat) (a v w : Nat) : upN (upN st a v) a w = upN st a w := by
  funext i
  unfold upN
  split <;> rfl
theorem up_id (st : Nat → Nat) (a : Nat) : upN st a (st a) = st := by
  funext i
  unfold upN
  split
  · next h => rw [h]
  · rfl
theorem inv_up2 {st : Nat → Nat} (hI : Inv st) {v : Nat} (hv : v ≤ 2) : Inv (upN st 2 v) := by
  have hs : SameL st (upN st 2 v) := same_up (by omega) (by omega)
  refine ⟨hI.1, hI.2.1, ?_, hI.2.2.2.1, hI.2.2.2.2.1, fun n hn => same_lay hs (hI.2.2.2.2.2.1 n hn), ?_⟩
  · rw [up_s]
    exact hv
  · rw [same_top hs]
    exact hI.2.2.2.2.2.2
theorem inv_up3 {st : Nat → Nat} (hI : Inv st) {v : Nat} (hv : v ≤ 900) : Inv (upN st 3 v) := by
  have hs : SameL st (upN st 3 v) := same_up (by omega) (by omega)
  refine ⟨hI.1, hI.2.1, hI.2.2.1, ?_, hI.2.2.2.2.1, fun n hn => same_lay hs (hI.2.2.2.2.2.1 n hn), ?_⟩
  · rw [up_s]
    exact hv
  · rw [same_top hs]
    exact hI.2.2.2.2.2.2
theorem inv_up4 {st : Nat → Nat} (hI : Inv st) {v : Nat} (hv : v ≤ 15000) : Inv (upN st 4 v) := by
  have hs : SameL st (upN st 4 v) := same_up (by omega) (by omega)
  refine ⟨hI.1, hI.2.1, hI.2.2.1, hI.2.2.2.1, ?_, fun n hn => same_lay hs (hI.2.2.2.2.2.1 n hn), ?_⟩
  · rw [up_s]
    exact hv
  · rw [same_top hs]
    exact hI.2.2.2.2.2.2
/-! the first of the least -/
def amin (g : Nat → Nat) : Nat → Nat
  | 0 => 0
  | j + 1 => if g (amin g j) ≤ g (j + 1) then amin g j else j + 1
theorem amin_le {g : Nat → Nat} : ∀ j, amin g j ≤ j
  | 0 => Nat.le_refl _
  | j + 1 => by
    have := amin_le (g := g) j
    unfold amin
    split <;> omega
def bstI (c : Nat) (g : Nat → Nat) : Nat → Int32
  | 0 => 0
  | j + 1 => nI (c * amin g j)
def lstI (g : Nat → Nat) : Nat → Int64
  | 0 => 0
  | j + 1 => lN (g (amin g j))
/-! the reference's row while it tries -/
def mF (u : KM) (a c : Nat) : Nat → KM
  | 0 => u
  | j + 1 => mSet (mF u a c j) (upd (mF u a c j).2.2.2.2.2.2.1 a (nI (c * j)))
theorem mF_ex (u : KM) (a c : Nat) : ∀ j, ∃ w, mF u a c j = mSet u w
  | 0 => ⟨u.2.2.2.2.2.2.1, rfl⟩
  | j + 1 => by
    obtain ⟨w, hw⟩ := mF_ex u a c j
    refine ⟨upd (mF u a c j).2.2.2.2.2.2.1 a (nI (c * j)), ?_⟩
    show mSet (mF u a c j) _ = _
    rw [hw]
    rfl
theorem mF_rm {st : Nat → Nat} {u : KM} (h : RM st u) (a c : Nat) : ∀ j, ∃ x, RM (upN st a x) (mF u a c j)
  | 0 => ⟨st a, by rw [up_id]; exact h⟩
  | j + 1 => by
    obtain ⟨x, hx⟩ := mF_rm h a c j
    refine ⟨c * j, ?_⟩
    have := rm_upd hx (a := a) (v := c * j)
    rw [up_up] at this
    exact this
theorem mF_rm1 {st : Nat → Nat} {u : KM} (h : RM st u) (a c j : Nat) : RM (upN st a (c * j)) (mF u a c (j + 1)) := by
  obtain ⟨x, hx⟩ := mF_rm h a c j
  have := rm_upd hx (a := a) (v := c * j)
  rw [up_up] at this
  exact this
theorem RRs_mSet {st : Nat → Nat} {pst : Nat → Nat → Nat} {n q t : Nat} {X : KX} {M : KM} {C : KC} {H : KH} {T : KT} {S : KS} (h : RRs st pst n q t X M C H T S) {w : Nat → Int32} (hw : RM st (mSet M w)) : RRs st pst n q t X (mSet M w) C H T S := ⟨hw, h.2⟩
theorem m_bestFunction {st : Nat → Nat} {u : KM} (h : RM st u) (hI : Inv st) (ha : 0 < ashN st (st 0)) : ∃ w, fX5_bestFunction u = some (nI (amin (fun f => misN st f (st 3) (st 0)) 2), mSet u w) ∧ RM st (mSet u w) := by
  have h16 := hI.1
  have hal := ashN_le hI _ (Nat.le_refl _)
  obtain ⟨w, hw⟩ := mF_ex u 2 1 3
  obtain ⟨x, hx⟩ := mF_rm h 2 1 3
  refine ⟨upd w 2 (nI (st 2)), ?_, ?_⟩
  · unfold fX5_bestFunction
    rw [m_ashes h hI, Option.bind_some, if_pos (nI_ne0 ha (by omega)), if_pos k_i2, k_c2, h 2 (by omega), Option.bind_some]
    refine kLoop_to (fun j => (mF u 2 1 j, bstI 1 (fun f => misN st f (st 3) (st 0)) j, lstI (fun f => misN st f (st 3) (st 0)) j, nI j)) 3 rfl (fun j hj nx => ?_) (fun nx => ?_) (by rw [kFu_eq]; omega)
    · have e1 : fX5_residuals (mF u 2 1 (j + 1)) = some (lN (misN st j (st 3) (st 0))) := by
        have r1 := mF_rm1 h 2 1 j
        rw [Nat.one_mul] at r1
        rw [m_residuals r1 (inv_up2 hI (by omega)), up_s, up_n (by omega), up_n (by omega), same_mis (same_up (by omega) (by omega))]
      have e2 : mSet (mF u 2 1 j) (upd (mF u 2 1 j).2.2.2.2.2.2.1 2 (nI j)) = mF u 2 1 (j + 1) := by
        show _ = mSet (mF u 2 1 j) (upd (mF u 2 1 j).2.2.2.2.2.2.1 2 (nI (1 * j)))
        rw [Nat.one_mul]
      show fX5_bestFunction_c24 (mF u 2 1 j) (nI (st 2)) _ _ (nI j) nx = nx (mF u 2 1 (j + 1), _, _, nI (j + 1))
      unfold fX5_bestFunction_c24
      rw [if_neg (by rw [show (3 : Int32) = nI 3 from rfl, k_le (by omega) (by omega)]; omega), if_pos k_i2, k_c2]
      show (fX5_residuals (mSet (mF u 2 1 j) (upd (mF u 2 1 j).2.2.2.2.2.2.1 2 (nI j)))).bind _ = _
      rw [e2, e1, Option.bind_some, nI_1]
      show (if nI j = 0 then (if ¬ nI j = nI j then nx (mSet (mF u 2 1 j) (upd (mF u 2 1 j).2.2.2.2.2.2.1 2 (nI j)), _, _, _) else nx (mSet (mF u 2 1 j) (upd (mF u 2 1 j).2.2.2.2.2.2.1 2 (nI j)), _, _, _)) else (if _ then (if _ then nx (mSet (mF u 2 1 j) (upd (mF u 2 1 j).2.2.2.2.2.2.1 2 (nI j)), _, _, _) else nx (mSet (mF u 2 1 j) (upd (mF u 2 1 j).2.2.2.2.2.2.1 2 (nI j)), _, _, _)) else (if _ then nx (mSet (mF u 2 1 j) (upd (mF u 2 1 j).2.2.2.2.2.2.1 2 (nI j)), _, _, _) else nx (mSet (mF u 2 1 j) (upd (mF u 2 1 j).2.2.2.2.2.2.1 2 (nI j)), _, _, _)))) = _
      rw [e2]
      cases j with
      | zero =>
        rw [if_pos nI_0, if_neg (fun z => z rfl)]
        rfl
      | succ i =>
        have hm := amin_le (g := fun f => misN st f (st 3) (st 0)) i
        have b1 := misN_le hI (f := amin (fun f => misN st f (st 3) (st 0)) i) hI.2.2.2.1 (st 0) (Nat.le_refl _)
        have b2 := misN_le hI (f := i + 1) hI.2.2.2.1 (st 0) (Nat.le_refl _)
        rw [if_neg (nI_ne0 (by omega) (by omega))]
        show (if lN (misN st (amin (fun f => misN st f (st 3) (st 0)) i) (st 3) (st 0)) ≤ lN (misN st (i + 1) (st 3) (st 0)) then (if ¬ nI (1 * amin (fun f => misN st f (st 3) (st 0)) i) = nI (i + 1) then _ else _) else _) = nx (_, nI (1 * if misN st (amin (fun f => misN st f (st 3) (st 0)) i) (st 3) (st 0) ≤ misN st (i + 1) (st 3) (st 0) then amin (fun f => misN st f (st 3) (st 0)) i else i + 1), lN (misN st (if misN st (amin (fun f => misN st f (st 3) (st 0)) i) (st 3) (st 0) ≤ misN st (i + 1) (st 3) (st 0) then amin (fun f => misN st f (st 3) (st 0)) i else i + 1) (st 3) (st 0)), _)
        by_cases hc : misN st (amin (fun f => misN st f (st 3) (st 0)) i) (st 3) (st 0) ≤ misN st (i + 1) (st 3) (st 0)
        · rw [if_pos ((pk_lLE (by omega) (by omega)).mpr hc), if_pos (by rw [k_eq (by omega) (by omega)]; omega), if_pos hc]
          rfl
        · rw [if_neg (fun z => hc ((pk_lLE (by omega) (by omega)).mp z)), if_neg (fun z => z rfl), if_neg hc, Nat.one_mul]
    · show fX5_bestFunction_c24 (mF u 2 1 3) (nI (st 2)) (nI (1 * amin (fun f => misN st f (st 3) (st 0)) 2)) _ (nI 3) nx = _
      unfold fX5_bestFunction_c24
      rw [if_pos (by decide), if_pos k_i2, k_c2, hw, Nat.one_mul]
      rfl
  · have := rm_upd hx (a := 2) (v := st 2)
    rw [up_up, up_id, hw] at this
    exact this
theorem c_bestFunction {st : Nat → Nat} {X : KX} {c : KC} (h : RC st c) (hI : Inv st) (ha : 0 < ashN st (st 0)) : fX4_bestFunction X c = some (nI (amin (fun f => misN st f (st 3) (st 0)) 2)) := by
  have h16 := hI.1
  have hal := ashN_le hI _ (Nat.le_refl _)
  unfold fX4_bestFunction
  rw [c_ashBeds h hI, Option.bind_some, if_pos (nI_ne0 ha (by omega)), c_misfit h hI (x := 0) (f := 0) rfl (by omega) h.2.2.2.1 hI.2.2.2.1, Option.bind_some]
  refine kLoop_to (fun j => (nI (amin (fun f => misN st f (st 3) (st 0)) j), lN (misN st (amin (fun f => misN st f (st 3) (st 0)) j) (st 3) (st 0)), nI (j + 1))) 2 rfl (fun j hj nx => ?_) (fun nx => ?_) (by rw [kFu_eq]; omega)
  · show fX4_bestFunction_c34 X c (nI (amin (fun f => misN st f (st 3) (st 0)) j)) (lN (misN st (amin (fun f => misN st f (st 3) (st 0)) j) (st 3) (st 0))) (nI (j + 1)) nx = nx (nI (if misN st (amin (fun f => misN st f (st 3) (st 0)) j) (st 3) (st 0) ≤ misN st (j + 1) (st 3) (st 0) then amin (fun f => misN st f (st 3) (st 0)) j else j + 1), lN (misN st (if misN st (amin (fun f => misN st f (st 3) (st 0)) j) (st 3) (st 0) ≤ misN st (j + 1) (st 3) (st 0) then amin (fun f => misN st f (st 3) (st 0)) j else j + 1) (st 3) (st 0)), nI (j + 1 + 1))
    have b1 := misN_le hI (f := amin (fun f => misN st f (st 3) (st 0)) j) hI.2.2.2.1 (st 0) (Nat.le_refl _)
    have b2 := misN_le hI (f := j + 1) hI.2.2.2.1 (st 0) (Nat.le_refl _)
    unfold fX4_bestFunction_c34
    rw [if_neg (by rw [show (2 : Int32) = nI 2 from rfl, k_lt (by omega) (by omega)]; omega), c_misfit h hI (f := j + 1) rfl (by omega) h.2.2.2.1 hI.2.2.2.1, Option.bind_some, nI_1]
    by_cases hc : misN st (amin (fun f => misN st f (st 3) (st 0)) j) (st 3) (st 0) ≤ misN st (j + 1) (st 3) (st 0)
    · rw [if_pos ((pk_lLE (by omega) (by omega)).mpr hc), if_pos hc]
    · rw [if_neg (fun z => hc ((pk_lLE (by omega) (by omega)).mp z)), if_neg hc]
  · show fX4_bestFunction_c34 X c (nI (amin (fun f => misN st f (st 3) (st 0)) 2)) _ (nI 3) nx = _
    unfold fX4_bestFunction_c34
    rw [if_pos (by decide)]
theorem hr_bestFunction : hop_bestFunction RR := by
  intro X M C F H T S hR
  obtain ⟨st, pst, n, q, t, hr⟩ := id hR
  have hM := hr.1
  have hC := hr.2.1
  have hI := hr.2.2.1
  by_cases ha : 0 < ashN st (st 0)
  · obtain ⟨w, h1, h2⟩ := m_bestFunction hM hI ha
    exact ⟨_, _, c_bestFunction hC hI ha, h1, st, pst, n, q, t, RRs_mSet hr h2⟩
  · refine ⟨-1000000005, M, ?_, ?_, hR⟩
    · unfold fX4_bestFunction
      rw [c_ashBeds hC hI, Option.bind_some, show ashN st (st 0) = 0 by omega, if_neg (fun z => z rfl)]
    · unfold fX5_bestFunction
      rw [m_ashes hM hI, Option.bind_some, show ashN st (st 0) = 0 by omega, if_neg (fun z => z rfl)]

theorem m_bestKink {st : Nat → Nat} {u : KM} (h : RM st u) (hI : Inv st) (ha : 0 < ashN st (st 0)) : ∃ w, fX5_bestKink u = some (nI (25 * amin (fun i => misN st 1 (25 * i) (st 0)) 36), mSet u w) ∧ RM st (mSet u w) := by
  have h16 := hI.1
  have hal := ashN_le hI _ (Nat.le_refl _)
  have h1 : RM (upN st 2 1) (mSet u (upd u.2.2.2.2.2.2.1 2 (nI 1))) := rm_upd h
  have hI1 : Inv (upN st 2 1) := inv_up2 hI (by omega)
  obtain ⟨w, hw⟩ := mF_ex (mSet u (upd u.2.2.2.2.2.2.1 2 (nI 1))) 3 25 37
  obtain ⟨x, hx⟩ := mF_rm h1 3 25 37
  refine ⟨upd (upd w 2 (nI (st 2))) 3 (nI (st 3)), ?_, ?_⟩
  · unfold fX5_bestKink
    rw [m_ashes h hI, Option.bind_some, if_pos (nI_ne0 ha (by omega)), if_pos k_i2, k_c2, h 2 (by omega), Option.bind_some, if_pos k_i3, k_c3, h 3 (by omega), Option.bind_some, if_pos k_i2]
    refine kLoop_to (fun j => (mF (mSet u (upd u.2.2.2.2.2.2.1 2 (nI 1))) 3 25 j, bstI 25 (fun i => misN st 1 (25 * i) (st 0)) j, lstI (fun i => misN st 1 (25 * i) (st 0)) j, nI (25 * j))) 37 rfl (fun j hj nx => ?_) (fun nx => ?_) (by rw [kFu_eq]; omega)
    · generalize hU : mSet u (upd u.2.2.2.2.2.2.1 2 (nI 1)) = U at *
      have e1 : fX5_residuals (mF U 3 25 (j + 1)) = some (lN (misN st 1 (25 * j) (st 0))) := by
        have r1 := mF_rm1 h1 3 25 j
        have z2 : upN (upN st 2 1) 3 (25 * j) 2 = 1 := rfl
        have z3 : upN (upN st 2 1) 3 (25 * j) 3 = 25 * j := rfl
        have z0 : upN (upN st 2 1) 3 (25 * j) 0 = st 0 := rfl
        rw [m_residuals r1 (inv_up3 hI1 (by omega)), z2, z3, z0, same_mis (same_up (by omega) (by omega)), same_mis (same_up (by omega) (by omega))]
      have e2 : mSet (mF U 3 25 j) (upd (mF U 3 25 j).2.2.2.2.2.2.1 3 (nI (25 * j))) = mF U 3 25 (j + 1) := rfl
      show fX5_bestKink_c39 (mF U 3 25 j) (nI (st 2)) (nI (st 3)) _ _ (nI (25 * j)) nx = nx (mF U 3 25 (j + 1), _, _, nI (25 * (j + 1)))
      unfold fX5_bestKink_c39
      rw [if_neg (by rw [show (900 : Int32) = nI 900 from rfl, k_lt (by omega) (by omega)]; omega), if_pos k_i3, k_c3]
      show (fX5_residuals (mSet (mF U 3 25 j) (upd (mF U 3 25 j).2.2.2.2.2.2.1 3 (nI (25 * j))))).bind _ = _
      rw [e2, e1, Option.bind_some, show (25 : Int32) = nI 25 from rfl, nI_add]
      show (if nI (25 * j) = 0 then (if ¬ nI (25 * j) = nI (25 * j) then nx (mSet (mF U 3 25 j) (upd (mF U 3 25 j).2.2.2.2.2.2.1 3 (nI (25 * j))), _, _, _) else nx (mSet (mF U 3 25 j) (upd (mF U 3 25 j).2.2.2.2.2.2.1 3 (nI (25 * j))), _, _, _)) else (if _ then (if _ then nx (mSet (mF U 3 25 j) (upd (mF U 3 25 j).2.2.2.2.2.2.1 3 (nI (25 * j))), _, _, _) else nx (mSet (mF U 3 25 j) (upd (mF U 3 25 j).2.2.2.2.2.2.1 3 (nI (25 * j))), _, _, _)) else (if _ then nx (mSet (mF U 3 25 j) (upd (mF U 3 25 j).2.2.2.2.2.2.1 3 (nI (25 * j))), _, _, _) else nx (mSet (mF U 3 25 j) (upd (mF U 3 25 j).2.2.2.2.2.2.1 3 (nI (25 * j))), _, _, _)))) = _
      rw [e2]
      cases j with
      | zero =>
        rw [if_pos nI_0, if_neg (fun z => z rfl)]
        rfl
      | succ i =>
        have hm := amin_le (g := (fun i => misN st 1 (25 * i) (st 0))) i
        have b1 := misN_le hI (f := 1) (k := 25 * amin (fun i => misN st 1 (25 * i) (st 0)) i) (by omega) (st 0) (Nat.le_refl _)
        have b2 := misN_le hI (f := 1) (k := 25 * (i + 1)) (by omega) (st 0) (Nat.le_refl _)
        rw [if_neg (nI_ne0 (by omega) (by omega))]
        show (if lN (misN st 1 (25 * (amin (fun i => misN st 1 (25 * i) (st 0)) i)) (st 0)) ≤ lN (misN st 1 (25 * (i + 1)) (st 0)) then (if ¬ nI (25 * amin (fun i => misN st 1 (25 * i) (st 0)) i) = nI (25 * (i + 1)) then _ else _) else _) = nx (_, nI (25 * if misN st 1 (25 * (amin (fun i => misN st 1 (25 * i) (st 0)) i)) (st 0) ≤ misN st 1 (25 * (i + 1)) (st 0) then amin (fun i => misN st 1 (25 * i) (st 0)) i else i + 1), lN (misN st 1 (25 * if misN st 1 (25 * (amin (fun i => misN st 1 (25 * i) (st 0)) i)) (st 0) ≤ misN st 1 (25 * (i + 1)) (st 0) then amin (fun i => misN st 1 (25 * i) (st 0)) i else i + 1) (st 0)), _)
        by_cases hc : misN st 1 (25 * (amin (fun i => misN st 1 (25 * i) (st 0)) i)) (st 0) ≤ misN st 1 (25 * (i + 1)) (st 0)
        · rw [if_pos ((pk_lLE (by omega) (by omega)).mpr hc), if_pos (by rw [k_eq (by omega) (by omega)]; omega), if_pos hc]
          rfl
        · rw [if_neg (fun z => hc ((pk_lLE (by omega) (by omega)).mp z)), if_neg (fun z => z rfl), if_neg hc]
          rfl
    · show fX5_bestKink_c39 (mF (mSet u (upd u.2.2.2.2.2.2.1 2 (nI 1))) 3 25 37) (nI (st 2)) (nI (st 3)) (nI (25 * amin (fun i => misN st 1 (25 * i) (st 0)) 36)) _ (nI (25 * 37)) nx = _
      unfold fX5_bestKink_c39
      rw [if_pos (by decide), if_pos k_i2, k_c2, if_pos k_i3, k_c3, hw]
      rfl
  · have r1 := rm_upd hx (a := 2) (v := st 2)
    have r2 := rm_upd r1 (a := 3) (v := st 3)
    have e : upN (upN (upN (upN st 2 1) 3 x) 2 (st 2)) 3 (st 3) = st := by
      funext i
      unfold upN
      by_cases e3 : i = 3
      · rw [if_pos e3, e3]
      · rw [if_neg e3]
        by_cases e2 : i = 2
        · rw [if_pos e2, e2]
        · rw [if_neg e2, if_neg e3, if_neg e2]
    rw [e, hw] at r2
    exact r2
theorem c_bestKink {st : Nat → Nat} {X : KX} {c : KC} (h : RC st c) (hI : Inv st) (ha : 0 < ashN st (st 0)) : fX4_bestKink X c = some (nI (25 * amin (fun i => misN st 1 (25 * i) (st 0)) 36)) := by
  have h16 := hI.1
  have hal := ashN_le hI _ (Nat.le_refl _)
  unfold fX4_bestKink
  rw [c_ashBeds h hI, Option.bind_some, if_pos (nI_ne0 ha (by omega)), c_misfit h hI (x := 1) (f := 1) (y := 0) (k := 25 * 0) rfl (by omega) rfl (by omega), Option.bind_some]
  refine kLoop_to (fun j => (nI (25 * amin (fun i => misN st 1 (25 * i) (st 0)) j), lN (misN st 1 (25 * (amin (fun i => misN st 1 (25 * i) (st 0)) j)) (st 0)), nI (25 * (j + 1)))) 36 rfl (fun j hj nx => ?_) (fun nx => ?_) (by rw [kFu_eq]; omega)
  · show fX4_bestKink_c29 X c (nI (25 * amin (fun i => misN st 1 (25 * i) (st 0)) j)) (lN (misN st 1 (25 * (amin (fun i => misN st 1 (25 * i) (st 0)) j)) (st 0))) (nI (25 * (j + 1))) nx = nx (nI (25 * if misN st 1 (25 * (amin (fun i => misN st 1 (25 * i) (st 0)) j)) (st 0) ≤ misN st 1 (25 * (j + 1)) (st 0) then amin (fun i => misN st 1 (25 * i) (st 0)) j else j + 1), lN (misN st 1 (25 * if misN st 1 (25 * (amin (fun i => misN st 1 (25 * i) (st 0)) j)) (st 0) ≤ misN st 1 (25 * (j + 1)) (st 0) then amin (fun i => misN st 1 (25 * i) (st 0)) j else j + 1) (st 0)), nI (25 * (j + 1 + 1)))
    have hm := amin_le (g := (fun i => misN st 1 (25 * i) (st 0))) j
    have b1 := misN_le hI (f := 1) (k := 25 * amin (fun i => misN st 1 (25 * i) (st 0)) j) (by omega) (st 0) (Nat.le_refl _)
    have b2 := misN_le hI (f := 1) (k := 25 * (j + 1)) (by omega) (st 0) (Nat.le_refl _)
    unfold fX4_bestKink_c29
    rw [if_neg (by rw [show (900 : Int32) = nI 900 from rfl, k_lt (by omega) (by omega)]; omega), c_misfit h hI (x := 1) (f := 1) rfl (by omega) rfl (k := 25 * (j + 1)) (by omega), Option.bind_some, show (25 : Int32) = nI 25 from rfl, nI_add]
    by_cases hc : misN st 1 (25 * (amin (fun i => misN st 1 (25 * i) (st 0)) j)) (st 0) ≤ misN st 1 (25 * (j + 1)) (st 0)
    · rw [if_pos ((pk_lLE (by omega) (by omega)).mpr hc), if_pos hc]
      rfl
    · rw [if_neg (fun z => hc ((pk_lLE (by omega) (by omega)).mp z)), if_neg hc]
      rfl
  · show fX4_bestKink_c29 X c (nI (25 * amin (fun i => misN st 1 (25 * i) (st 0)) 36)) _ (nI (25 * 37)) nx = _
    unfold fX4_bestKink_c29
    rw [if_pos (by decide)]
theorem hr_bestKink : hop_bestKink RR := by
  intro X M C F H T S hR
  obtain ⟨st, pst, n, q, t, hr⟩ := id hR
  have hM := hr.1
  have hC := hr.2.1
  have hI := hr.2.2.1
  by_cases ha : 0 < ashN st (st 0)
  · obtain ⟨w, h1, h2⟩ := m_bestKink hM hI ha
    exact ⟨_, _, c_bestKink hC hI ha, h1, st, pst, n, q, t, RRs_mSet hr h2⟩
  · refine ⟨-1000000005, M, ?_, ?_, hR⟩
    · unfold fX4_bestKink
      rw [c_ashBeds hC hI, Option.bind_some, show ashN st (st 0) = 0 by omega, if_neg (fun z => z rfl)]
    · unfold fX5_bestKink
      rw [m_ashes hM hI, Option.bind_some, show ashN st (st 0) = 0 by omega, if_neg (fun z => z rfl)]
