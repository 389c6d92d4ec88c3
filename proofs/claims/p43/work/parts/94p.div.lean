/-! ===== PURE: a layer divided ===== -/
def dvS (st : Nat → Nat) (j v : Nat) : Nat → Nat := fun i => if i = 0 then st 0 + 1 else if i = 8 * j + 5 then v else if i < 8 * j + 9 then st i else if i < 8 * j + 13 then 0 else if i = 8 * j + 13 then st (8 * j + 5) - v else if i = 8 * j + 20 then 0 else st (i - 8)
theorem dv_0 {st : Nat → Nat} {j v : Nat} : dvS st j v 0 = st 0 + 1 := rfl
theorem dv_lo {st : Nat → Nat} {j v i : Nat} (h0 : i ≠ 0) (h5 : i ≠ 8 * j + 5) (h : i < 8 * j + 9) : dvS st j v i = st i := by
  unfold dvS
  rw [if_neg h0, if_neg h5, if_pos h]
theorem dv_5 {st : Nat → Nat} {j v : Nat} : dvS st j v (8 * j + 5) = v := by
  unfold dvS
  rw [if_neg (by omega), if_pos rfl]
theorem dv_z {st : Nat → Nat} {j v i : Nat} (h1 : 8 * j + 9 ≤ i) (h : i < 8 * j + 13) : dvS st j v i = 0 := by
  unfold dvS
  rw [if_neg (by omega), if_neg (by omega), if_neg (by omega), if_pos h]
theorem dv_13 {st : Nat → Nat} {j v : Nat} : dvS st j v (8 * j + 13) = st (8 * j + 5) - v := by
  unfold dvS
  rw [if_neg (by omega), if_neg (by omega), if_neg (by omega), if_neg (by omega), if_pos rfl]
theorem dv_20 {st : Nat → Nat} {j v : Nat} : dvS st j v (8 * j + 20) = 0 := by
  unfold dvS
  rw [if_neg (by omega), if_neg (by omega), if_neg (by omega), if_neg (by omega), if_neg (by omega), if_pos rfl]
theorem dv_hi {st : Nat → Nat} {j v i : Nat} (h1 : 8 * j + 13 < i) (h : i ≠ 8 * j + 20) : dvS st j v i = st (i - 8) := by
  unfold dvS
  rw [if_neg (by omega), if_neg (by omega), if_neg (by omega), if_neg (by omega), if_neg (by omega), if_neg h]
theorem dv_h8 {st : Nat → Nat} {j v k w : Nat} (h : j + 1 < k) (hw : 5 ≤ w) : dvS st j v (8 * k + w) = st (8 * (k - 1) + w) := by
  rw [dv_hi (by omega) (by omega), show 8 * k + w - 8 = 8 * (k - 1) + w by omega]
theorem dv_h1 {st : Nat → Nat} {j v w : Nat} (h1 : 5 < w) (h2 : w < 12) : dvS st j v (8 * (j + 1) + w) = st (8 * j + w) := by
  rw [dv_hi (by omega) (by omega), show 8 * (j + 1) + w - 8 = 8 * j + w by omega]
theorem dv_t1 {st : Nat → Nat} {j v : Nat} : dvS st j v (8 * (j + 1) + 5) = st (8 * j + 5) - v := by
  rw [show 8 * (j + 1) + 5 = 8 * j + 13 by omega, dv_13]
theorem dv_c1 {st : Nat → Nat} {j v : Nat} : dvS st j v (8 * (j + 1) + 12) = 0 := by
  rw [show 8 * (j + 1) + 12 = 8 * j + 20 by omega, dv_20]
theorem dv_top {st : Nat → Nat} {j v : Nat} (hv : v ≤ st (8 * j + 5)) : ∀ m, topN (dvS st j v) (j + 2 + m) = topN st (j + 1 + m)
  | 0 => by
    have e1 : topN (dvS st j v) j = topN st j := topN_congr _ (fun k hk => dv_lo (by omega) (by omega) (by omega))
    show topN (dvS st j v) j + dvS st j v (8 * j + 5) + dvS st j v (8 * (j + 1) + 5) = topN st j + st (8 * j + 5)
    rw [e1, dv_5, dv_t1]
    omega
  | m + 1 => by
    show topN (dvS st j v) (j + 2 + m) + dvS st j v (8 * (j + 2 + m) + 5) = topN st (j + 1 + m) + st (8 * (j + 1 + m) + 5)
    rw [dv_top hv m, dv_h8 (by omega) (by omega), show j + 2 + m - 1 = j + 1 + m by omega]
theorem dv_inv {st : Nat → Nat} (hI : Inv st) {j v : Nat} (hj : j < st 0) (h16 : st 0 < 16) (h1 : 1 ≤ v) (h2 : v + 1 ≤ st (8 * j + 5)) : Inv (dvS st j v) := by
  have hl := hI.2.2.2.2.2.1 j hj
  unfold LayOk at hl
  refine ⟨?_, ?_, ?_, ?_, ?_, fun k hk => ?_, ?_⟩
  · rw [dv_0]
    omega
  · rw [dv_lo (by omega) (by omega) (by omega)]
    exact hI.2.1
  · rw [dv_lo (by omega) (by omega) (by omega)]
    exact hI.2.2.1
  · rw [dv_lo (by omega) (by omega) (by omega)]
    exact hI.2.2.2.1
  · rw [dv_lo (by omega) (by omega) (by omega)]
    exact hI.2.2.2.2.1
  · rw [dv_0] at hk
    unfold LayOk
    by_cases c1 : k < j
    · rw [dv_lo (i := 8 * k + 5) (by omega) (by omega) (by omega), dv_lo (i := 8 * k + 6) (by omega) (by omega) (by omega), dv_lo (i := 8 * k + 7) (by omega) (by omega) (by omega), dv_lo (i := 8 * k + 8) (by omega) (by omega) (by omega), dv_lo (i := 8 * k + 9) (by omega) (by omega) (by omega), dv_lo (i := 8 * k + 10) (by omega) (by omega) (by omega), dv_lo (i := 8 * k + 11) (by omega) (by omega) (by omega), dv_lo (i := 8 * k + 12) (by omega) (by omega) (by omega)]
      exact hI.2.2.2.2.2.1 k (by omega)
    · by_cases c2 : k = j
      · subst c2
        rw [dv_5, dv_lo (i := 8 * k + 6) (by omega) (by omega) (by omega), dv_lo (i := 8 * k + 7) (by omega) (by omega) (by omega), dv_lo (i := 8 * k + 8) (by omega) (by omega) (by omega), dv_z (i := 8 * k + 9) (by omega) (by omega), dv_z (i := 8 * k + 10) (by omega) (by omega), dv_z (i := 8 * k + 11) (by omega) (by omega), dv_z (i := 8 * k + 12) (by omega) (by omega)]
        omega
      · by_cases c3 : k = j + 1
        · subst c3
          rw [dv_t1, dv_c1, dv_h1 (w := 6) (by omega) (by omega), dv_h1 (w := 7) (by omega) (by omega), dv_h1 (w := 8) (by omega) (by omega), dv_h1 (w := 9) (by omega) (by omega), dv_h1 (w := 10) (by omega) (by omega), dv_h1 (w := 11) (by omega) (by omega)]
          omega
        · rw [dv_h8 (w := 5) (by omega) (by omega), dv_h8 (w := 6) (by omega) (by omega), dv_h8 (w := 7) (by omega) (by omega), dv_h8 (w := 8) (by omega) (by omega), dv_h8 (w := 9) (by omega) (by omega), dv_h8 (w := 10) (by omega) (by omega), dv_h8 (w := 11) (by omega) (by omega), dv_h8 (w := 12) (by omega) (by omega)]
          exact hI.2.2.2.2.2.1 (k - 1) (by omega)
  · have e := dv_top (st := st) (j := j) (v := v) (by omega) (st 0 - j - 1)
    rw [show j + 2 + (st 0 - j - 1) = st 0 + 1 by omega, show j + 1 + (st 0 - j - 1) = st 0 by omega] at e
    rw [dv_0, e, dv_lo (by omega) (by omega) (by omega)]
    exact hI.2.2.2.2.2.2
/-! the class: its rows move up -/
def shR (f : Nat → Int32) (n m : Nat) : Nat → Int32 := fun k => if n - m < k ∧ k ≤ n then f (k - 1) else f k
theorem shR_step {f : Nat → Int32} {n m : Nat} (h : m < n) : upd (shR f n m) (n - m) (shR f n m (n - m - 1)) = shR f n (m + 1) := by
  funext k
  by_cases e : k = n - m
  · rw [e, pk_us]
    unfold shR
    rw [if_neg (by omega), if_pos (by omega)]
  · rw [pk_un e]
    unfold shR
    by_cases c : n - m < k ∧ k ≤ n
    · rw [if_pos c, if_pos (by omega)]
    · rw [if_neg c, if_neg (by omega)]
theorem shR_0 {f : Nat → Int32} {n : Nat} : shR f n 0 = f := by
  funext k
  unfold shR
  rw [if_neg (by omega)]
def shC (c : KC) (n m : Nat) : KC := (c.1, c.2.1, c.2.2.1, c.2.2.2.1, c.2.2.2.2.1, shR c.2.2.2.2.2.1 n m, shR c.2.2.2.2.2.2.1 n m, shR c.2.2.2.2.2.2.2.1 n m, shR c.2.2.2.2.2.2.2.2.1 n m, shR c.2.2.2.2.2.2.2.2.2.1 n m, shR c.2.2.2.2.2.2.2.2.2.2.1 n m, shR c.2.2.2.2.2.2.2.2.2.2.2 n m)
theorem c_copyLayer {c : KC} {n m : Nat} (h : m < n) (hn : n < 16) {x y : Int32} (hx : x = nI (n - m - 1)) (hy : y = nI (n - m)) : fX0_copyLayer (shC c n m) x y = some (shC c n (m + 1)) := by
  subst hx hy
  have i1 : kIn (nI (n - m - 1)) 16 = true := k_in rfl (by omega) (by omega)
  have i2 : kIn (nI (n - m)) 16 = true := k_in rfl (by omega) (by omega)
  unfold fX0_copyLayer
  simp only [if_pos i1, if_pos i2, nI_clamp (show n - m - 1 < 2 ^ 31 by omega), nI_clamp (show n - m < 2 ^ 31 by omega)]
  show some (c.1, c.2.1, c.2.2.1, c.2.2.2.1, c.2.2.2.2.1, upd (shR c.2.2.2.2.2.1 n m) (n - m) (shR c.2.2.2.2.2.1 n m (n - m - 1)), upd (shR c.2.2.2.2.2.2.1 n m) (n - m) (shR c.2.2.2.2.2.2.1 n m (n - m - 1)), upd (shR c.2.2.2.2.2.2.2.1 n m) (n - m) (shR c.2.2.2.2.2.2.2.1 n m (n - m - 1)), upd (shR c.2.2.2.2.2.2.2.2.1 n m) (n - m) (shR c.2.2.2.2.2.2.2.2.1 n m (n - m - 1)), upd (shR c.2.2.2.2.2.2.2.2.2.1 n m) (n - m) (shR c.2.2.2.2.2.2.2.2.2.1 n m (n - m - 1)), upd (shR c.2.2.2.2.2.2.2.2.2.2.1 n m) (n - m) (shR c.2.2.2.2.2.2.2.2.2.2.1 n m (n - m - 1)), upd (shR c.2.2.2.2.2.2.2.2.2.2.2 n m) (n - m) (shR c.2.2.2.2.2.2.2.2.2.2.2 n m (n - m - 1))) = _
  simp only [shR_step h]
  rfl
def dvC (c : KC) (n j v d : Nat) : KC := (nI (n + 1), c.2.1, c.2.2.1, c.2.2.2.1, c.2.2.2.2.1, upd (upd (shR c.2.2.2.2.2.1 n (n - j)) j (nI v)) (j + 1) (nI d), shR c.2.2.2.2.2.2.1 n (n - j), shR c.2.2.2.2.2.2.2.1 n (n - j), shR c.2.2.2.2.2.2.2.2.1 n (n - j), upd (shR c.2.2.2.2.2.2.2.2.2.1 n (n - j)) j (-1 : Int32), shR c.2.2.2.2.2.2.2.2.2.2.1 n (n - j), upd (upd (shR c.2.2.2.2.2.2.2.2.2.2.2 n (n - j)) j (0 : Int32)) (j + 1) (0 : Int32))
theorem shR_lo {f : Nat → Int32} {n j k : Nat} (hj : j < n) (h : k ≤ j) : shR f n (n - j) k = f k := by
  unfold shR
  rw [if_neg (by omega)]
theorem shR_hi {f : Nat → Int32} {n j k : Nat} (hj : j < n) (h : j < k) (hk : k ≤ n) : shR f n (n - j) k = f (k - 1) := by
  unfold shR
  rw [if_pos (by omega)]
theorem dv_rc {st : Nat → Nat} {C : KC} (hC : RC st C) {j v : Nat} (hj : j < st 0) (h2 : v + 1 ≤ st (8 * j + 5)) : RC (dvS st j v) (dvC C (st 0) j v (st (8 * j + 5) - v)) := by
  refine ⟨?_, ?_, ?_, ?_, ?_, fun k hk => ?_⟩
  · rw [dv_0]
    rfl
  · rw [dv_lo (by omega) (by omega) (by omega)]
    exact hC.2.1
  · rw [dv_lo (by omega) (by omega) (by omega)]
    exact hC.2.2.1
  · rw [dv_lo (by omega) (by omega) (by omega)]
    exact hC.2.2.2.1
  · rw [dv_lo (by omega) (by omega) (by omega)]
    exact hC.2.2.2.2.1
  · rw [dv_0] at hk
    show upd (upd (shR C.2.2.2.2.2.1 (st 0) (st 0 - j)) j (nI v)) (j + 1) (nI (st (8 * j + 5) - v)) k = _ ∧ shR C.2.2.2.2.2.2.1 (st 0) (st 0 - j) k = _ ∧ shR C.2.2.2.2.2.2.2.1 (st 0) (st 0 - j) k = _ ∧ shR C.2.2.2.2.2.2.2.2.1 (st 0) (st 0 - j) k = _ ∧ upd (shR C.2.2.2.2.2.2.2.2.2.1 (st 0) (st 0 - j)) j (-1 : Int32) k = _ ∧ (_ → shR C.2.2.2.2.2.2.2.2.2.2.1 (st 0) (st 0 - j) k = _) ∧ upd (upd (shR C.2.2.2.2.2.2.2.2.2.2.2 (st 0) (st 0 - j)) j (0 : Int32)) (j + 1) (0 : Int32) k = _
    by_cases c1 : k < j
    · obtain ⟨l1, l2, l3, l4, l5, l6, l7⟩ := hC.2.2.2.2.2 k (by omega)
      rw [dv_lo (i := 8 * k + 5) (by omega) (by omega) (by omega), dv_lo (i := 8 * k + 6) (by omega) (by omega) (by omega), dv_lo (i := 8 * k + 7) (by omega) (by omega) (by omega), dv_lo (i := 8 * k + 8) (by omega) (by omega) (by omega), dv_lo (i := 8 * k + 9) (by omega) (by omega) (by omega), dv_lo (i := 8 * k + 10) (by omega) (by omega) (by omega), dv_lo (i := 8 * k + 11) (by omega) (by omega) (by omega), dv_lo (i := 8 * k + 12) (by omega) (by omega) (by omega)]
      simp only [shR_lo hj (show k ≤ j by omega), pk_un (show k ≠ j by omega), pk_un (show k ≠ j + 1 by omega)]
      exact ⟨l1, l2, l3, l4, l5, l6, l7⟩
    · by_cases c2 : k = j
      · subst c2
        obtain ⟨l1, l2, l3, l4, l5, l6, l7⟩ := hC.2.2.2.2.2 k (by omega)
        rw [dv_5, dv_lo (i := 8 * k + 6) (by omega) (by omega) (by omega), dv_lo (i := 8 * k + 7) (by omega) (by omega) (by omega), dv_lo (i := 8 * k + 8) (by omega) (by omega) (by omega), dv_z (i := 8 * k + 9) (by omega) (by omega), dv_z (i := 8 * k + 12) (by omega) (by omega), if_neg (by omega)]
        simp only [shR_lo hj (show k ≤ k by omega), pk_us, pk_un (show k ≠ k + 1 by omega)]
        exact ⟨trivial, l2, l3, l4, trivial, fun z => absurd z (by omega), rfl⟩
      · by_cases c3 : k = j + 1
        · subst c3
          obtain ⟨l1, l2, l3, l4, l5, l6, l7⟩ := hC.2.2.2.2.2 j (by omega)
          rw [dv_t1, dv_c1, dv_h1 (w := 6) (by omega) (by omega), dv_h1 (w := 7) (by omega) (by omega), dv_h1 (w := 8) (by omega) (by omega), dv_h1 (w := 9) (by omega) (by omega), dv_h1 (w := 10) (by omega) (by omega), dv_h1 (w := 11) (by omega) (by omega)]
          simp only [shR_hi hj (show j < j + 1 by omega) (show j + 1 ≤ st 0 by omega), pk_us, pk_un (show j + 1 ≠ j by omega), Nat.add_sub_cancel]
          exact ⟨trivial, l2, l3, l4, l5, l6, rfl⟩
        · obtain ⟨l1, l2, l3, l4, l5, l6, l7⟩ := hC.2.2.2.2.2 (k - 1) (by omega)
          rw [dv_h8 (w := 5) (by omega) (by omega), dv_h8 (w := 6) (by omega) (by omega), dv_h8 (w := 7) (by omega) (by omega), dv_h8 (w := 8) (by omega) (by omega), dv_h8 (w := 9) (by omega) (by omega), dv_h8 (w := 10) (by omega) (by omega), dv_h8 (w := 11) (by omega) (by omega), dv_h8 (w := 12) (by omega) (by omega)]
          simp only [shR_hi hj (show j < k by omega) (show k ≤ st 0 by omega), pk_un (show k ≠ j by omega), pk_un (show k ≠ j + 1 by omega)]
          exact ⟨l1, l2, l3, l4, l5, l6, l7⟩
theorem c_divide {st : Nat → Nat} {C : KC} (hC : RC st C) (hI : Inv st) {j v : Nat} (hj : j < st 0) (h16 : st 0 < 16) (h1 : 1 ≤ v) (h2 : v + 1 ≤ st (8 * j + 5)) : kLoopC kFu (fun q nx47 => fX0_split_c47 q.1 (nI j) (nI v) q.2 nx47) (C, C.1) = some (nI (st 0 + 1), dvC C (st 0) j v (st (8 * j + 5) - v)) := by
  refine kLoop_to (fun m => (shC C (st 0) m, nI (st 0 - m))) (st 0 - j) ?_ (fun m hm nx => ?_) (fun nx => ?_) (by rw [kFu_eq]; omega)
  · unfold shC
    simp only [shR_0]
    rw [Nat.sub_zero, hC.1]
    show (C, nI (st 0)) = ((nI (st 0), C.2), nI (st 0))
    rw [← hC.1]
  · show fX0_split_c47 (shC C (st 0) m) (nI j) (nI v) (nI (st 0 - m)) nx = nx (shC C (st 0) (m + 1), nI (st 0 - (m + 1)))
    unfold fX0_split_c47
    have e1 : nI (st 0 - m) - (1 : Int32) = nI (st 0 - m - 1) := by
      rw [show (1 : Int32) = nI 1 from rfl, pk_sub (by omega)]
    have e2 : nI (st 0 - m) + (-1 : Int32) = nI (st 0 - (m + 1)) := by
      rw [show st 0 - m = st 0 - (m + 1) + 1 by omega, pk_m1]
    rw [if_neg (by rw [k_le (by omega) (by omega)]; omega), c_copyLayer (by omega) h16 e1 rfl, Option.bind_some, e2]
  · show fX0_split_c47 (shC C (st 0) (st 0 - j)) (nI j) (nI v) (nI (st 0 - (st 0 - j))) nx = _
    have i1 : kIn (nI j) 16 = true := k_in rfl (by omega) (by omega)
    have i2 : kIn (nI (j + 1)) 16 = true := k_in rfl (by omega) (by omega)
    have hl := hC.2.2.2.2.2 j hj
    have e5 : upd (shC C (st 0) (st 0 - j)).2.2.2.2.2.1 j (nI v) (j + 1) = nI (st (8 * j + 5)) := by
      rw [pk_un (by omega)]
      show shR C.2.2.2.2.2.1 (st 0) (st 0 - j) (j + 1) = _
      rw [shR_hi hj (by omega) (by omega), Nat.add_sub_cancel]
      exact hl.1
    have e6 : (shC C (st 0) (st 0 - j)).1 = nI (st 0) := hC.1
    unfold fX0_split_c47
    rw [if_pos (by rw [k_le (by omega) (by omega)]; omega)]
    simp only [nI_1, if_pos i1, if_pos i2, nI_clamp (show j < 2 ^ 31 by omega), nI_clamp (show j + 1 < 2 ^ 31 by omega), e5, e6, pk_sub (show v ≤ st (8 * j + 5) by omega)]
    rfl
/-! the reference: its row moves up -/
def shW (f : Nat → Int32) (m : Nat) : Nat → Int32 := fun i => if 132 - m < i ∧ i ≤ 132 then f (i - 8) else f i
theorem shW_step {f : Nat → Int32} {m : Nat} (h : m ≤ 120) : upd (shW f m) (132 - m) (shW f m (132 - m - 8)) = shW f (m + 1) := by
  funext k
  by_cases e : k = 132 - m
  · rw [e, pk_us]
    unfold shW
    rw [if_neg (by omega), if_pos (by omega)]
  · rw [pk_un e]
    unfold shW
    by_cases c : 132 - m < k ∧ k ≤ 132
    · rw [if_pos c, if_pos (by omega)]
    · rw [if_neg c, if_neg (by omega)]
def shS (st : Nat → Nat) (m : Nat) : Nat → Nat := fun i => if 132 - m < i ∧ i ≤ 132 then st (i - 8) else st i
theorem sh_rm {st : Nat → Nat} {u : KM} (h : RM st u) (m : Nat) : RM (shS st m) (mSet u (shW u.2.2.2.2.2.2.1 m)) := by
  intro i hi
  show shW u.2.2.2.2.2.2.1 m i = nI (shS st m i)
  unfold shW shS
  by_cases c : 132 - m < i ∧ i ≤ 132
  · rw [if_pos c, if_pos c, h _ (by omega)]
  · rw [if_neg c, if_neg c, h _ hi]
theorem rm_updw {st : Nat → Nat} {u : KM} {w : Nat → Int32} (h : RM st (mSet u w)) {a v : Nat} : RM (upN st a v) (mSet u (upd w a (nI v))) := rm_upd h
theorem m_divide {st : Nat → Nat} {u : KM} (h : RM st u) {j v : Nat} (hj : j < st 0) (h16 : st 0 < 16) (h1 : 1 ≤ v) (h2 : v + 1 ≤ st (8 * j + 5)) (h5 : st (8 * j + 5) ≤ 5000) : ∃ w, kLoopC kFu (fun q nx52 => fX5_divide_c52 q.1 (nI j) (nI v) q.2 nx52) (u, (132 : Int32)) = some (nI (st 0 + 1), mSet u w) ∧ RM (dvS st j v) (mSet u w) := by
  have q0 := sh_rm h (120 - 8 * j)
  have q1 := rm_updw q0 (a := 8 * j + 13) (v := st (8 * j + 5) - v)
  have q2 := rm_updw q1 (a := 8 * j + 20) (v := 0)
  have q3 := rm_updw q2 (a := 8 * j + 5) (v := v)
  have q4 := rm_updw q3 (a := 8 * j + 9) (v := 0)
  have q5 := rm_updw q4 (a := 8 * j + 10) (v := 0)
  have q6 := rm_updw q5 (a := 8 * j + 11) (v := 0)
  have q7 := rm_updw q6 (a := 8 * j + 12) (v := 0)
  have q8 := rm_updw q7 (a := 0) (v := st 0 + 1)
  refine ⟨_, ?_, rm_congr q8 (fun i hi => ?_)⟩
  · refine kLoop_to (fun m => (mSet u (shW u.2.2.2.2.2.2.1 m), nI (132 - m))) (120 - 8 * j) ?_ (fun m hm nx => ?_) (fun nx => ?_) (by rw [kFu_eq]; omega)
    · have e : shW u.2.2.2.2.2.2.1 0 = u.2.2.2.2.2.2.1 := by
        funext i
        unfold shW
        rw [if_neg (by omega)]
      show (u, _) = (mSet u (shW u.2.2.2.2.2.2.1 0), nI 132)
      rw [e]
      rfl
    · have i13 : (((8 : Int32) * nI j) + (8 : Int32)) + (5 : Int32) = nI (8 * j + 13) := by
        rw [show ((8 : Int32) * nI j) + (8 : Int32) = nI (8 * j + 8) from m_ix j 8]
        exact nI_add _ _
      have e1 : nI (132 - m) - (8 : Int32) = nI (132 - m - 8) := by
        rw [show (8 : Int32) = nI 8 from rfl, pk_sub (by omega)]
      have e2 : nI (132 - m) + (-1 : Int32) = nI (132 - (m + 1)) := by
        rw [show 132 - m = 132 - (m + 1) + 1 by omega, pk_m1]
      show fX5_divide_c52 (mSet u (shW u.2.2.2.2.2.2.1 m)) (nI j) (nI v) (nI (132 - m)) nx = nx (mSet u (shW u.2.2.2.2.2.2.1 (m + 1)), nI (132 - (m + 1)))
      unfold fX5_divide_c52
      rw [i13, if_neg (by rw [k_lt (by omega) (by omega)]; omega), e1, e2, if_pos (k_in rfl (by omega) (by omega)), if_pos (k_in rfl (by omega) (by omega)), nI_clamp (by omega), nI_clamp (by omega)]
      show nx (mSet u (upd (shW u.2.2.2.2.2.2.1 m) (132 - m) (shW u.2.2.2.2.2.2.1 m (132 - m - 8))), _) = _
      rw [shW_step (by omega)]
    · show fX5_divide_c52 (mSet u (shW u.2.2.2.2.2.2.1 (120 - 8 * j))) (nI j) (nI v) (nI (132 - (120 - 8 * j))) nx = _
      have i13 : (((8 : Int32) * nI j) + (8 : Int32)) + (5 : Int32) = nI (8 * j + 13) := by
        rw [show ((8 : Int32) * nI j) + (8 : Int32) = nI (8 * j + 8) from m_ix j 8]
        exact nI_add _ _
      have i20 : (((8 : Int32) * nI j) + (8 : Int32)) + (12 : Int32) = nI (8 * j + 20) := by
        rw [show ((8 : Int32) * nI j) + (8 : Int32) = nI (8 * j + 8) from m_ix j 8]
        exact nI_add _ _
      have i5 : ((8 : Int32) * nI j) + (5 : Int32) = nI (8 * j + 5) := m_ix j 5
      have i9 : ((8 : Int32) * nI j) + (9 : Int32) = nI (8 * j + 9) := m_ix j 9
      have i10 : ((8 : Int32) * nI j) + (10 : Int32) = nI (8 * j + 10) := m_ix j 10
      have i11 : ((8 : Int32) * nI j) + (11 : Int32) = nI (8 * j + 11) := m_ix j 11
      have i12 : ((8 : Int32) * nI j) + (12 : Int32) = nI (8 * j + 12) := m_ix j 12
      have k13 : kIn (nI (8 * j + 13)) 133 = true := k_in rfl (by omega) (by omega)
      have k20 : kIn (nI (8 * j + 20)) 133 = true := k_in rfl (by omega) (by omega)
      have k5 : kIn (nI (8 * j + 5)) 133 = true := k_in rfl (by omega) (by omega)
      have k9 : kIn (nI (8 * j + 9)) 133 = true := k_in rfl (by omega) (by omega)
      have k10 : kIn (nI (8 * j + 10)) 133 = true := k_in rfl (by omega) (by omega)
      have k11 : kIn (nI (8 * j + 11)) 133 = true := k_in rfl (by omega) (by omega)
      have k12 : kIn (nI (8 * j + 12)) 133 = true := k_in rfl (by omega) (by omega)
      have w13 : (mSet u (shW u.2.2.2.2.2.2.1 (120 - 8 * j))).2.2.2.2.2.2.1 (8 * j + 13) = nI (st (8 * j + 5)) := by
        rw [q0 _ (by omega)]
        unfold shS
        rw [if_pos (by omega), show 8 * j + 13 - 8 = 8 * j + 5 by omega]
      have w0 : (mSet u (shW u.2.2.2.2.2.2.1 (120 - 8 * j))).2.2.2.2.2.2.1 0 = nI (st 0) := by
        rw [q0 _ (by omega)]
        unfold shS
        rw [if_neg (by omega)]
      unfold fX5_divide_c52
      rw [i13, if_pos (by rw [k_lt (by omega) (by omega)]; omega), i20, i5, i9, i10, i11, i12, if_pos k13, if_pos k13, if_pos k20, if_pos k5, if_pos k9, if_pos k10, if_pos k11, if_pos k12, if_pos k_i0, if_pos k_i0, if_pos k_i0, k_c0, nI_clamp (by omega), nI_clamp (by omega), nI_clamp (by omega), nI_clamp (by omega), nI_clamp (by omega), nI_clamp (by omega), nI_clamp (by omega), pk_us, w13, pk_sub (by omega), pk_un (k := 8 * j + 12) (by omega), pk_un (k := 8 * j + 11) (by omega), pk_un (k := 8 * j + 10) (by omega), pk_un (k := 8 * j + 9) (by omega), pk_un (k := 8 * j + 5) (by omega), pk_un (k := 8 * j + 20) (by omega), pk_un (k := 8 * j + 13) (by omega), w0, nI_1]
      rfl
  · unfold dvS
    by_cases c0 : i = 0
    · rw [if_pos c0, c0, up_s]
    · rw [if_neg c0, up_n c0]
      by_cases c12 : i = 8 * j + 12
      · rw [c12, up_s, if_neg (by omega), if_neg (by omega), if_pos (by omega)]
      · rw [up_n c12]
        by_cases c11 : i = 8 * j + 11
        · rw [c11, up_s, if_neg (by omega), if_neg (by omega), if_pos (by omega)]
        · rw [up_n c11]
          by_cases c10 : i = 8 * j + 10
          · rw [c10, up_s, if_neg (by omega), if_neg (by omega), if_pos (by omega)]
          · rw [up_n c10]
            by_cases c9 : i = 8 * j + 9
            · rw [c9, up_s, if_neg (by omega), if_neg (by omega), if_pos (by omega)]
            · rw [up_n c9]
              by_cases c5 : i = 8 * j + 5
              · rw [c5, up_s, if_pos rfl]
              · rw [up_n c5, if_neg c5]
                by_cases c20 : i = 8 * j + 20
                · rw [c20, up_s, if_neg (by omega), if_neg (by omega), if_neg (by omega), if_pos rfl]
                · rw [up_n c20, if_neg c20]
                  by_cases c13 : i = 8 * j + 13
                  · rw [c13, up_s, if_neg (by omega), if_neg (by omega), if_pos rfl]
                  · rw [up_n c13, if_neg c13]
                    unfold shS
                    by_cases cl : i < 8 * j + 9
                    · rw [if_pos cl, if_neg (by omega)]
                    · rw [if_neg cl, if_neg (by omega), if_pos (by omega)]
theorem act_divide (a1 a2 : Int32) : Act (fun C => fX0_split C a1 a2) (fun M => fX5_divide M a1 a2) := by
  intro st C M hM hC hI
  have h16 := hI.1
  by_cases hx : ∃ k, k < st 0 ∧ a1 = nI k
  · obtain ⟨j, hj, rfl⟩ := hx
    obtain ⟨l5, l6, l7, l8, l9, l10, l11, l12⟩ := hI.2.2.2.2.2.1 j hj
    have hl := hC.2.2.2.2.2 j hj
    have es : nI (st (8 * j + 5)) - (1 : Int32) = nI (st (8 * j + 5) - 1) := by
      rw [show (1 : Int32) = nI 1 from rfl, pk_sub l5.1]
    rcases k_range a2 (a := 1) (b := st (8 * j + 5) - 1) (by omega) (by omega) with ⟨v, h1, h2, rfl⟩ | ⟨h1, -⟩
    · have e : fX4_isBetween (nI v) 1 (nI (st (8 * j + 5) - 1)) = some 1 := fX4_isBetween_t (a := 1) rfl h1 h2 (by omega)
      have e' : fX5_in (nI v) 1 (nI (st (8 * j + 5) - 1)) = some 1 := fX5_in_t (a := 1) rfl h1 h2 (by omega)
      by_cases h0 : st 0 < 16
      · refine Or.inr ⟨nI (st 0 + 1), dvS st j v, _, good_n (by omega), dv_inv hI hj h0 h1 (by omega), dv_rc hC hj (by omega), ?_, fun u1 g1 g2 => ?_⟩
        · show fX0_split C (nI j) (nI v) = _
          unfold fX0_split
          rw [c_has_t hC h16 rfl hj, Option.bind_some, if_pos (by decide), if_pos (k_in rfl (by omega) (by omega)), nI_clamp (by omega), hl.1, es, e, Option.bind_some, if_pos (by decide), if_pos (by rw [hC.1, show (16 : Int32) = nI 16 from rfl, k_lt (by omega) (by omega)]; omega)]
          exact c_divide hC hI hj h0 h1 (by omega)
        · obtain ⟨w, g3, g4⟩ := m_divide g2 hj h0 h1 (by omega : v + 1 ≤ st (8 * j + 5)) l5.2
          refine ⟨w, u1.2.2.2.2.2.2.2.2.1, ?_, g4⟩
          show fX5_divide M (nI j) (nI v) = _
          unfold fX5_divide
          rw [m_isLayer_t hM h16 rfl hj, Option.bind_some, if_pos (by decide), m_of5 hM (by omega), Option.bind_some, es, e', Option.bind_some, if_pos (by decide), if_pos k_i0, k_c0, hM 0 (by omega), if_pos (by rw [show (16 : Int32) = nI 16 from rfl, k_eq (by omega) (by omega)]; omega), g1, Option.bind_some]
          exact g3
      · refine Or.inl ⟨-1000000004, err4, ?_, ?_⟩
        · show fX0_split C (nI j) (nI v) = _
          unfold fX0_split
          rw [c_has_t hC h16 rfl hj, Option.bind_some, if_pos (by decide), if_pos (k_in rfl (by omega) (by omega)), nI_clamp (by omega), hl.1, es, e, Option.bind_some, if_pos (by decide), if_neg (by rw [hC.1, show (16 : Int32) = nI 16 from rfl, k_lt (by omega) (by omega)]; omega)]
        · show fX5_divide M (nI j) (nI v) = _
          unfold fX5_divide
          rw [m_isLayer_t hM h16 rfl hj, Option.bind_some, if_pos (by decide), m_of5 hM (by omega), Option.bind_some, es, e', Option.bind_some, if_pos (by decide), if_pos k_i0, k_c0, hM 0 (by omega), show st 0 = 16 by omega, if_neg (fun z => z rfl)]
    · have e : fX4_isBetween a2 1 (nI (st (8 * j + 5) - 1)) = some 0 := fX4_isBetween_f (a := 1) h1
      have e' : fX5_in a2 1 (nI (st (8 * j + 5) - 1)) = some 0 := fX5_in_f (a := 1) h1
      refine Or.inl ⟨-1000000002, err2, ?_, ?_⟩
      · show fX0_split C (nI j) a2 = _
        unfold fX0_split
        rw [c_has_t hC h16 rfl hj, Option.bind_some, if_pos (by decide), if_pos (k_in rfl (by omega) (by omega)), nI_clamp (by omega), hl.1, es, e, Option.bind_some, if_neg (fun z => z rfl)]
      · show fX5_divide M (nI j) a2 = _
        unfold fX5_divide
        rw [m_isLayer_t hM h16 rfl hj, Option.bind_some, if_pos (by decide), m_of5 hM (by omega), Option.bind_some, es, e', Option.bind_some, if_neg (fun z => z rfl)]
  · refine Or.inl ⟨-1000000001, err1, ?_, ?_⟩
    · show fX0_split C a1 a2 = _
      unfold fX0_split
      rw [c_has_f hC h16 hx, Option.bind_some, if_neg (fun z => z rfl)]
    · show fX5_divide M a1 a2 = _
      unfold fX5_divide
      rw [m_isLayer_f hM h16 hx, Option.bind_some, if_neg (fun z => z rfl)]
