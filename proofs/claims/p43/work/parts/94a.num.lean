/-! ===== PURE: numbers and loops ===== -/
theorem kLoop_run {σ R : Type} (b : σ → (σ → Option R) → Option R) : ∀ (n : Nat) (S : Nat → σ), (∀ j, j < n → ∀ nx, b (S j) nx = nx (S (j + 1))) → ∀ fuel, kLoopC (n + fuel) b (S 0) = kLoopC fuel b (S n) := by
  intro n
  induction n with
  | zero => intro S _ fuel; rw [Nat.zero_add]
  | succ n ih =>
    intro S hs fuel
    have h1 : kLoopC (n + 1 + fuel) b (S 0) = b (S 0) (kLoopC (n + fuel) b) := by
      rw [Nat.add_right_comm]
      rfl
    rw [h1, hs 0 (Nat.succ_pos n)]
    exact ih (fun j => S (j + 1)) (fun j hj nx => hs (j + 1) (Nat.succ_lt_succ hj) nx) fuel
/-- a loop by its states: n steps, then the end -/
theorem kLoop_to {σ R : Type} {b : σ → (σ → Option R) → Option R} {r : Option R} {s0 : σ} (S : Nat → σ) (n : Nat) (h0 : s0 = S 0) (hs : ∀ j, j < n → ∀ nx, b (S j) nx = nx (S (j + 1))) (he : ∀ nx, b (S n) nx = r) (hn : n < kFu) : kLoopC kFu b s0 = r := by
  obtain ⟨f, hf⟩ : ∃ f, kFu = n + (f + 1) := ⟨kFu - n - 1, by omega⟩
  rw [h0, hf, kLoop_run b n S hs (f + 1)]
  exact he _
theorem kFu_eq : kFu = 100000 := rfl
theorem k_in {x : Int32} {n N : Nat} (hx : x = nI n) (h : n < N) (hN : N < 2 ^ 31) : kIn x N = true := by
  rw [hx]
  exact kIn_of (vp_in_nI h hN)
/-- comparisons of numbers that aren't negative -/
theorem k_le {a b : Nat} (ha : a < 2 ^ 31) (hb : b < 2 ^ 31) : nI a ≤ nI b ↔ a ≤ b := nI_leI ha hb
theorem k_lt {a b : Nat} (ha : a < 2 ^ 31) (hb : b < 2 ^ 31) : nI a < nI b ↔ a < b := nI_ltI ha hb
theorem k_eq {a b : Nat} (ha : a < 2 ^ 31) (hb : b < 2 ^ 31) : nI a = nI b ↔ a = b := nI_eq ha hb
theorem k_div {a d : Nat} (ha : a < 2 ^ 31) (h0 : 0 < d) (hd : d < 2 ^ 31) : nI a / nI d = nI (a / d) := pk_div ha h0 hd
/-- any int is a natural number's, or negative -/
theorem k_of (x : Int32) : x < 0 ∨ ∃ n : Nat, n < 2 ^ 31 ∧ x = nI n := by
  by_cases h : x < 0
  · exact Or.inl h
  · exact Or.inr (nI_of h)
/-- in a range of naturals, or not -/
theorem k_range (x : Int32) {a b : Nat} (hb : b + 1 < 2 ^ 31) (hab : a ≤ b + 1) : (∃ n : Nat, a ≤ n ∧ n ≤ b ∧ x = nI n) ∨ ((x < nI a ∨ nI b < x) ∧ ¬ (∃ n : Nat, a ≤ n ∧ n ≤ b ∧ x = nI n)) := by
  rcases k_of x with h | ⟨n, hn, rfl⟩
  · refine Or.inr ⟨Or.inl ?_, ?_⟩
    · rw [Int32.lt_iff_toInt_lt, nI_toInt (by omega)]
      rw [Int32.lt_iff_toInt_lt] at h
      simp at h
      omega
    · rintro ⟨n, h1, h2, rfl⟩
      exact nI_pos (by omega) h
  · by_cases h1 : a ≤ n
    · by_cases h2 : n ≤ b
      · exact Or.inl ⟨n, h1, h2, rfl⟩
      · refine Or.inr ⟨Or.inr ((k_lt (by omega) hn).mpr (by omega)), ?_⟩
        rintro ⟨k, h3, h4, h5⟩
        rw [k_eq hn (by omega)] at h5
        omega
    · refine Or.inr ⟨Or.inl ((k_lt hn (by omega)).mpr (by omega)), ?_⟩
      rintro ⟨k, h3, h4, h5⟩
      rw [k_eq hn (by omega)] at h5
      omega
theorem fX5_in_t {x : Int32} {a b n : Nat} (hx : x = nI n) (h1 : a ≤ n) (h2 : n ≤ b) (hb : b < 2 ^ 31) : fX5_in x (nI a) (nI b) = some 1 := by
  subst hx
  unfold fX5_in
  rw [if_neg (by rw [k_lt (by omega) (by omega)]; omega), if_neg (by rw [k_lt (by omega) (by omega)]; omega)]
theorem fX5_in_f {x : Int32} {a b : Nat} (h : x < nI a ∨ nI b < x) : fX5_in x (nI a) (nI b) = some 0 := by
  unfold fX5_in
  by_cases h1 : x < nI a
  · rw [if_pos h1]
  · rw [if_neg h1, if_pos (h.resolve_left h1)]
theorem fX4_isBetween_t {x : Int32} {a b n : Nat} (hx : x = nI n) (h1 : a ≤ n) (h2 : n ≤ b) (hb : b < 2 ^ 31) : fX4_isBetween x (nI a) (nI b) = some 1 := by
  subst hx
  unfold fX4_isBetween
  rw [if_neg (by rw [k_lt (by omega) (by omega)]; omega), if_neg (by rw [k_lt (by omega) (by omega)]; omega)]
theorem fX4_isBetween_f {x : Int32} {a b : Nat} (h : x < nI a ∨ nI b < x) : fX4_isBetween x (nI a) (nI b) = some 0 := by
  unfold fX4_isBetween
  by_cases h1 : x < nI a
  · rw [if_pos h1]
  · rw [if_neg h1, if_pos (h.resolve_left h1)]
theorem lN_div {a b : Nat} (ha : a < 2 ^ 63) (h0 : 0 < b) (hb : b < 2 ^ 63) : lN a / lN b = lN (a / b) := pk_lDiv ha h0 hb
theorem fX4_quotient_ok {a b : Nat} (ha : a < 2 ^ 63) (h0 : 0 < b) (hb : b < 2 ^ 63) : fX4_quotient (lN a) (lN b) = some (lN (a / b)) := by
  have e0 : (0 : Int64) = lN 0 := rfl
  have h1 : (0 : Int64) < lN b := by rw [e0, pk_lLT (by omega) hb]; exact h0
  have h2 : ¬ lN b ≤ (0 : Int64) := by rw [e0, pk_lLE hb (by omega)]; omega
  have h3 : ¬ lN b = 0 := by rw [e0, pk_lEQ hb (by omega)]; omega
  unfold fX4_quotient
  first
    | rw [if_neg h2, if_pos h3, lN_div ha h0 hb]
    | rw [if_pos h1, if_pos h3, lN_div ha h0 hb]
/-! ===== the state as numbers: the reference's row 'now' ===== -/
def topN (st : Nat → Nat) : Nat → Nat
  | 0 => 0
  | n + 1 => topN st n + st (8 * n + 5)
/-- the depth's distance from the bed, the bend, the thinning -/
def yN (st : Nat → Nat) (n : Nat) : Nat := st 1 - (topN st n + st (8 * n + 5) / 2)
def hN (st : Nat → Nat) (k : Nat) : Nat := st 1 * k / 1000
def thQ (st : Nat → Nat) (f k n : Nat) : Nat := if f = 0 then 1000 * yN st n / st 1 else if hN st k ≤ yN st n then 1000 * (2 * yN st n - hN st k) / (2 * st 1 - hN st k) else 1000 * yN st n * yN st n / (hN st k * (2 * st 1 - hN st k))
def thinN (st : Nat → Nat) (f k n : Nat) : Nat := if f = 2 then st (8 * n + 8) else if thQ st f k n < 10 then 10 else thQ st f k n
def yrN (st : Nat → Nat) (f k n : Nat) : Nat := 10000000 * st (8 * n + 5) / (st (8 * n + 6) * st (8 * n + 7) * thinN st f k n)
def ageN (st : Nat → Nat) (f k : Nat) : Nat → Nat
  | 0 => 0
  | n + 1 => ageN st f k n + yrN st f k n
def delN (st : Nat → Nat) (n : Nat) : Nat := 10000 * st 4 / (st (8 * n + 6) * st (8 * n + 7))
def LayOk (st : Nat → Nat) (n : Nat) : Prop := (1 ≤ st (8 * n + 5) ∧ st (8 * n + 5) ≤ 5000) ∧ (10 ≤ st (8 * n + 6) ∧ st (8 * n + 6) ≤ 2000) ∧ (200 ≤ st (8 * n + 7) ∧ st (8 * n + 7) ≤ 5000) ∧ (10 ≤ st (8 * n + 8) ∧ st (8 * n + 8) ≤ 1000) ∧ st (8 * n + 9) ≤ 1 ∧ st (8 * n + 10) ≤ 100000000 ∧ st (8 * n + 11) ≤ 10000 ∧ st (8 * n + 12) ≤ 1000000
def Inv (st : Nat → Nat) : Prop := st 0 ≤ 16 ∧ (1000 ≤ st 1 ∧ st 1 ≤ 200000) ∧ st 2 ≤ 2 ∧ st 3 ≤ 900 ∧ st 4 ≤ 15000 ∧ (∀ n, n < st 0 → LayOk st n) ∧ topN st (st 0) ≤ st 1
theorem topN_mono (st : Nat → Nat) (n : Nat) : ∀ k, topN st n ≤ topN st (n + k)
  | 0 => Nat.le_refl _
  | k + 1 => Nat.le_trans (topN_mono st n k) (Nat.le_add_right _ _)
theorem topN_le {st : Nat → Nat} {n m : Nat} (h : n ≤ m) : topN st n ≤ topN st m := by
  obtain ⟨k, rfl⟩ := Nat.exists_eq_add_of_le h
  exact topN_mono st n k
theorem topN_in {st : Nat → Nat} (hI : Inv st) {n : Nat} (h : n < st 0) : topN st n + st (8 * n + 5) ≤ st 1 :=
  Nat.le_trans (topN_le (n := n + 1) (m := st 0) h) hI.2.2.2.2.2.2
theorem yN_eq {st : Nat → Nat} (hI : Inv st) {n : Nat} (h : n < st 0) : yN st n + (topN st n + st (8 * n + 5) / 2) = st 1 := by
  have := topN_in hI h
  unfold yN
  omega
theorem hN_le {st : Nat → Nat} {k : Nat} (hk : k ≤ 900) : hN st k ≤ st 1 := by
  unfold hN
  have : st 1 * k ≤ st 1 * 1000 := Nat.mul_le_mul_left _ (by omega)
  omega
theorem thQ_le {st : Nat → Nat} (hI : Inv st) {f k n : Nat} (hk : k ≤ 900) (h : n < st 0) : thQ st f k n ≤ 1000 := by
  have h1 := yN_eq hI h
  have h2 := hN_le (st := st) hk
  have h3 := hI.2.1.1
  unfold thQ
  generalize yN st n = y at *
  generalize hN st k = hh at *
  generalize st 1 = B at *
  have hy : y ≤ B := by omega
  by_cases hf : f = 0
  · rw [if_pos hf]
    exact Nat.div_le_of_le_mul (by rw [Nat.mul_comm B 1000]; omega)
  · rw [if_neg hf]
    by_cases hc : hh ≤ y
    · rw [if_pos hc]
      exact Nat.div_le_of_le_mul (by rw [Nat.mul_comm _ 1000]; omega)
    · rw [if_neg hc]
      refine Nat.div_le_of_le_mul ?_
      have q1 : y * y ≤ hh * (2 * B - hh) := Nat.mul_le_mul (by omega) (by omega)
      calc 1000 * y * y = 1000 * (y * y) := Nat.mul_assoc _ _ _
        _ ≤ 1000 * (hh * (2 * B - hh)) := Nat.mul_le_mul_left _ q1
        _ = hh * (2 * B - hh) * 1000 := Nat.mul_comm _ _
theorem thinN_b {st : Nat → Nat} (hI : Inv st) {f k n : Nat} (hk : k ≤ 900) (h : n < st 0) : 10 ≤ thinN st f k n ∧ thinN st f k n ≤ 1000 := by
  have h1 := thQ_le hI (f := f) hk h
  have h2 := (hI.2.2.2.2.2.1 n h).2.2.2.1
  unfold thinN
  split
  · exact h2
  · split <;> omega
theorem k_prod {a b c : Nat} (ha : 10 ≤ a ∧ a ≤ 2000) (hb : 200 ≤ b ∧ b ≤ 5000) (hc : 10 ≤ c ∧ c ≤ 1000) : 20000 ≤ a * b * c ∧ a * b * c ≤ 10000000000 ∧ a * b ≤ 10000000 ∧ 2000 ≤ a * b := by
  have h1 : 10 * 200 ≤ a * b := Nat.mul_le_mul ha.1 hb.1
  have h2 : a * b ≤ 2000 * 5000 := Nat.mul_le_mul ha.2 hb.2
  have h3 : 10 * 200 * 10 ≤ a * b * c := Nat.mul_le_mul h1 hc.1
  have h4 : a * b * c ≤ 2000 * 5000 * 1000 := Nat.mul_le_mul h2 hc.2
  omega
theorem yrN_le {st : Nat → Nat} (hI : Inv st) {f k n : Nat} (hk : k ≤ 900) (h : n < st 0) : yrN st f k n ≤ 2500000 := by
  have h1 := thinN_b hI (f := f) hk h
  obtain ⟨h2, h3, h4, -⟩ := hI.2.2.2.2.2.1 n h
  have h5 := k_prod h3 h4 h1
  unfold yrN
  refine Nat.div_le_of_le_mul ?_
  have : 20000 * 2500000 ≤ st (8 * n + 6) * st (8 * n + 7) * thinN st f k n * 2500000 := Nat.mul_le_mul_right _ h5.1
  omega
theorem ageN_le {st : Nat → Nat} (hI : Inv st) {f k : Nat} (hk : k ≤ 900) : ∀ n, n ≤ st 0 → ageN st f k n ≤ 2500000 * n
  | 0, _ => Nat.le_refl _
  | n + 1, h => by
    have h1 := ageN_le hI (f := f) hk n (by omega)
    have h2 := yrN_le hI (f := f) hk (n := n) (by omega)
    unfold ageN
    omega
theorem ageN_mono {st : Nat → Nat} {f k n : Nat} : ∀ m, ageN st f k n ≤ ageN st f k (n + m)
  | 0 => Nat.le_refl _
  | m + 1 => Nat.le_trans (ageN_mono m) (Nat.le_add_right _ _)
theorem delN_le {st : Nat → Nat} (hI : Inv st) {n : Nat} (h : n < st 0) : delN st n ≤ 75000 := by
  obtain ⟨-, h3, h4, -⟩ := hI.2.2.2.2.2.1 n h
  have h1 : 10 * 200 ≤ st (8 * n + 6) * st (8 * n + 7) := Nat.mul_le_mul h3.1 h4.1
  have h5 := hI.2.2.2.2.1
  unfold delN
  refine Nat.div_le_of_le_mul ?_
  have : 2000 * 75000 ≤ st (8 * n + 6) * st (8 * n + 7) * 75000 := Nat.mul_le_mul_right _ h1
  omega
