/-! ===== PURE: words by their hash ===== -/
def gq (q k : Nat) : Nat := (kChr q k).toNatClampNeg
def HQ (q : Nat) : Nat := hsN (gq q) 0 (kLen.getD q 0)
theorem gq_ok : ∀ q, q < 12 → ∀ k, k < kLen.getD q 0 → nI (gq q k) = kChr q k ∧ 1 ≤ gq q k ∧ gq q k ≤ 127 := by decide
theorem HQ_b : ∀ q, q < 12 → 0 < HQ q ∧ HQ q < 2 ^ 56 := by decide
theorem hsN_congr {f g : Nat → Nat} {a b : Nat} : ∀ n, (∀ k, k < n → f (a + k) = g (b + k)) → hsN f a n = hsN g b n
  | 0, _ => rfl
  | n + 1, h => by
    have h1 := hsN_congr n (fun k hk => h k (by omega))
    show 128 * hsN f a n + f (a + n) = 128 * hsN g b n + g (b + n)
    rw [h1, h n (by omega)]
theorem hsW_lt {tx : Nat → Nat} {s e : Nat} (hch : ∀ k, k < e - s → 32 ≤ tx (s + k) ∧ tx (s + k) ≤ 126) : hsW tx s e < 2 ^ 56 := by
  unfold hsW
  by_cases c : e - s ≤ 8
  · rw [if_pos c]
    have h1 := hsN_lt (tx := tx) (s := s) (e - s) (fun k hk => by have := hch k hk; omega)
    have h2 : 128 ^ (e - s) ≤ 128 ^ 8 := Nat.pow_le_pow_right (by omega) c
    have h3 : 128 ^ 8 = 2 ^ 56 := by decide
    omega
  · rw [if_neg c]
    decide
theorem hs_iff {tx : Nat → Nat} {s e q : Nat} (hq : q < 12) (hse : s < e) (hch : ∀ k, k < e - s → 32 ≤ tx (s + k) ∧ tx (s + k) ≤ 126) : lN (hsW tx s e) = lN (HQ q) ↔ spW tx s e q := by
  have hb := HQ_b q hq
  have hl := hsW_lt hch
  have hk := kLen_b q hq
  rw [pk_lEQ (by omega) (by omega)]
  constructor
  · intro h
    unfold hsW at h
    by_cases c : e - s ≤ 8
    · rw [if_pos c] at h
      obtain ⟨h1, h2⟩ := hash_inj (f := tx) (g := gq q) (a := s) (b := 0) (e - s) (kLen.getD q 0) (fun k hk => by have := hch k hk; omega) (fun k hk => by rw [Nat.zero_add]; exact (gq_ok q hq k hk).2) h
      refine ⟨by omega, fun k hk => ?_⟩
      rw [h2 k (by omega), Nat.zero_add]
      exact (gq_ok q hq k hk).1
    · rw [if_neg c] at h
      omega
  · rintro ⟨h1, h2⟩
    have en : e - s = kLen.getD q 0 := by omega
    unfold hsW
    rw [if_pos (by omega), en]
    refine hsN_congr _ (fun k hk => ?_)
    have h3 := h2 k hk
    obtain ⟨g1, g2, g3⟩ := gq_ok q hq k hk
    have h4 := hch k (by omega)
    rw [← g1, k_eq (by omega) (by omega)] at h3
    rw [Nat.zero_add]
    exact h3
theorem fw0 : fX5_word 108 97 121 101 114 0 = some (lN (HQ 0)) := by decide
theorem fw1 : fX5_word 97 115 104 0 0 0 = some (lN (HQ 1)) := by decide
theorem fw2 : fX5_word 99 111 117 110 116 0 = some (lN (HQ 2)) := by decide
theorem fw3 : fX5_word 102 105 120 0 0 0 = some (lN (HQ 3)) := by decide
theorem fw4 : fX5_word 98 101 100 0 0 0 = some (lN (HQ 4)) := by decide
theorem fw5 : fX5_word 107 105 110 107 0 0 = some (lN (HQ 5)) := by decide
theorem fw6 : fX5_word 99 108 111 115 101 0 = some (lN (HQ 6)) := by decide
theorem fw7 : fX5_word 116 117 110 101 0 0 = some (lN (HQ 7)) := by decide
theorem fw8 : fX5_word 117 115 101 0 0 0 = some (lN (HQ 8)) := by decide
theorem fw9 : fX5_word 108 105 110 101 97 114 = some (lN (HQ 9)) := by decide
theorem fw10 : fX5_word 107 105 110 107 101 100 = some (lN (HQ 10)) := by decide
theorem fw11 : fX5_word 116 111 108 100 0 0 = some (lN (HQ 11)) := by decide
