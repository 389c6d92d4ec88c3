/-! ===== PURE: borders, least depths ===== -/
theorem topN_lt {st : Nat → Nat} (hI : Inv st) {i j : Nat} (h : i < j) (hj : j ≤ st 0) : topN st i < topN st j := by
  have h1 := (hI.2.2.2.2.2.1 i (by omega)).1.1
  have h2 : topN st (i + 1) ≤ topN st j := topN_le h
  have h3 : topN st (i + 1) = topN st i + st (8 * i + 5) := rfl
  omega
theorem lay_border {st : Nat → Nat} (hI : Inv st) {i : Nat} (h : i < st 0) : LayAt st (topN st (i + 1)) i :=
  ⟨h, Nat.le_refl _, fun j hj => topN_lt hI (by omega) h⟩
theorem lay_below {st : Nat → Nat} (hI : Inv st) {i : Nat} (h : i + 1 < st 0) : LayAt st (topN st (i + 1) + 1) (i + 1) :=
  ⟨h, topN_lt hI (by omega) h, fun j hj => Nat.lt_succ_of_le (topN_le (by omega))⟩
def gasN (st : Nat → Nat) (d k : Nat) : Nat := agN st d k - delN st k
theorem gasN_lt {st : Nat → Nat} (hI : Inv st) {d k : Nat} (hk : LayAt st d k) : gasN st d k < 2 ^ 30 := by
  have h16 := hI.1
  have h0 := hk.1
  have h1 := agN_le hI hk
  have h2 := ageN_le hI (f := st 2) hI.2.2.2.1 (k + 1) hk.1
  unfold gasN
  omega
/-! the least offset in a layer -/
theorem k_gt0L {a b : Nat} (ha : a < 2 ^ 62) (hb : b < 2 ^ 62) : (0 : Int64) < lN a - lN b ↔ b < a := by
  rw [Int64.lt_iff_toInt_lt, k_subL_toInt ha hb, show (0 : Int64).toInt = 0 from by decide]
  omega
def ceilN (nd th yr : Nat) : Nat := (nd * th + yr - 1) / yr
theorem ceil_iff {nd th yr o : Nat} (hy : 0 < yr) (ht : 0 < th) (hn : 0 < nd) : ceilN nd th yr ≤ o ↔ nd ≤ yr * o / th := by
  have h1 : 0 < nd * th := Nat.mul_pos hn ht
  unfold ceilN
  rw [Nat.le_div_iff_mul_le ht, ← Nat.lt_succ_iff, Nat.div_lt_iff_lt_mul hy]
  have e : (o + 1) * yr = yr * o + yr := by
    rw [Nat.add_mul, Nat.one_mul, Nat.mul_comm]
  show nd * th + yr - 1 < (o + 1) * yr ↔ _
  rw [e]
  omega
theorem ceil_pos {nd th yr : Nat} (hy : 0 < yr) (ht : 0 < th) (hn : 0 < nd) : 0 < ceilN nd th yr := by
  rcases Nat.eq_zero_or_pos (ceilN nd th yr) with h | h
  · have := (ceil_iff (o := 0) hy ht hn).mp (by omega)
    rw [Nat.mul_zero, Nat.zero_div] at this
    omega
  · exact h
theorem c_steps {a b yr th : Nat} (ha : a < 2 ^ 32) (hb : b < 2 ^ 32) (hy : yr < 2 ^ 31) (ht : th ≤ 5000) (h0 : b < a → 0 < yr) : fX0_stepsFor (lN a - lN b) (nI yr) (nI th) = some (nI (if a ≤ b then 0 else ceilN (a - b) th yr)) := by
  unfold fX0_stepsFor
  by_cases h : a ≤ b
  · rw [if_neg (by rw [k_gt0L (by omega) (by omega)]; omega), if_pos h]
    rfl
  · have q : (a - b) * th ≤ 2 ^ 32 * 5000 := Nat.mul_le_mul (by omega) ht
    have hy0 := h0 (by omega)
    rw [if_pos (by rw [k_gt0L (by omega) (by omega)]; omega), if_neg h, lN_sub (by omega), nI_l (by omega), nI_l hy, lN_mul, lN_add, show (1 : Int64) = lN 1 from rfl, lN_sub (by omega), fX4_quotient_ok (by omega) hy0 (by omega), Option.bind_some, lN_i]
    rfl
/-- what a delay takes off: of the gas, or nothing -/
def dlN (st : Nat → Nat) (g : Bool) (k : Nat) : Nat := if g = true then delN st k else 0
/-- old enough, at an offset in a layer -/
def OldAt (st : Nat → Nat) (g : Bool) (a k o : Nat) : Prop := a ≤ ageN st (st 2) (st 3) k + yrN st (st 2) (st 3) k * o / st (8 * k + 5) - dlN st g k
theorem old_mono {st : Nat → Nat} {g : Bool} {a k o p : Nat} (h : OldAt st g a k o) (ho : o ≤ p) : OldAt st g a k p := by
  unfold OldAt at *
  have : yrN st (st 2) (st 3) k * o / st (8 * k + 5) ≤ yrN st (st 2) (st 3) k * p / st (8 * k + 5) := Nat.div_le_div_right (Nat.mul_le_mul_left _ ho)
  omega
theorem least_or {P : Nat → Prop} (n : Nat) : (∃ k, k < n ∧ P k ∧ ∀ j, j < k → ¬ P j) ∨ ∀ j, j < n → ¬ P j := by
  by_cases h : ∃ k, k < n ∧ P k
  · obtain ⟨k, hk, hl⟩ := pk_least (fun k => k < n ∧ P k) h
    exact Or.inl ⟨k, hk.1, hk.2, fun j hj hp => hl j hj ⟨by omega, hp⟩⟩
  · exact Or.inr (fun j hj hp => h ⟨j, hj, hp⟩)
