/-! ===== PURE: the law's off and isBest ===== -/
def offN (st : Nat → Nat) (f k : Nat) : Nat → Nat
  | 0 => 0
  | j + 1 => offN st f k j + if st (8 * j + 9) = 1 then adN (ageN st f k (j + 1)) (st (8 * j + 10)) / 16 else 0
theorem off_lo {st : Nat → Nat} {f k : Nat} : ∀ j, 16 * offN st f k j ≤ misN st f k j
  | 0 => Nat.le_refl _
  | j + 1 => by
    have h := off_lo (st := st) (f := f) (k := k) j
    unfold offN misN
    split <;> omega
theorem off_hi {st : Nat → Nat} {f k : Nat} : ∀ j, misN st f k j ≤ 16 * offN st f k j + 15 * j
  | 0 => Nat.le_refl _
  | j + 1 => by
    have h := off_hi (st := st) (f := f) (k := k) j
    unfold offN misN
    split <;> omega
theorem off_same {st : Nat → Nat} {v f k : Nat} : ∀ j, offN (upN st 2 v) f k j = offN st f k j
  | 0 => rfl
  | j + 1 => by
    unfold offN
    rw [off_same j, same_age (same_up (by omega) (by omega)), up_n (i := 8 * j + 9) (by omega), up_n (i := 8 * j + 10) (by omega)]
theorem amin_min {g : Nat → Nat} : ∀ j i, i ≤ j → g (amin g j) ≤ g i
  | 0, i, h => by
    have e : i = 0 := by omega
    rw [e]
    exact Nat.le_refl _
  | j + 1, i, h => by
    have ih := amin_min (g := g) j
    unfold amin
    by_cases c : g (amin g j) ≤ g (j + 1)
    · rw [if_pos c]
      rcases Nat.lt_or_ge i (j + 1) with z | z
      · exact ih i (by omega)
      · rw [show i = j + 1 by omega]
        exact c
    · rw [if_neg c]
      rcases Nat.lt_or_ge i (j + 1) with z | z
      · have := ih i (by omega)
        omega
      · rw [show i = j + 1 by omega]
        exact Nat.le_refl _
theorem x_size {a b : Nat} (ha : a < 2 ^ 30) (hb : b < 2 ^ 30) : fL_size (nI a - nI b) = some (nI (adN a b)) := by
  have e := k_absI ha hb
  unfold fL_size
  by_cases c : (0 : Int32) ≤ nI a - nI b
  · rw [if_pos c] at e ⊢
    rw [e]
  · rw [if_neg c, Int32.zero_sub] at e
    rw [if_neg c, e]
theorem off_ok {st : Nat → Nat} {X : KX} {C : KC} (h : RC st C) (hI : Inv st) : fL_off X C = some (nI (offN st (st 2) (st 3) (st 0))) := by
  have h16 := hI.1
  unfold fL_off
  refine kLoop_to (fun j => (nI (offN st (st 2) (st 3) j), nI j)) (st 0) rfl (fun j hj nx => ?_) (fun nx => ?_) (by rw [kFu_eq]; omega)
  · show fL_off_c4 X C (nI (offN st (st 2) (st 3) j)) (nI j) nx = nx (nI (offN st (st 2) (st 3) j + _), nI (j + 1))
    have hl := (hI.2.2.2.2.2.1 j hj).2.2.2.2
    have hA := ageN_lt hI (j := j + 1) (by omega)
    have hd : adN (ageN st (st 2) (st 3) (j + 1)) (st (8 * j + 10)) ≤ 100000000 := adN_le (by omega) (by omega)
    unfold fL_off_c4
    rw [x_layers h, Option.bind_some, if_neg (by rw [k_le (by omega) (by omega)]; omega)]
    by_cases h1 : st (8 * j + 9) = 1
    · rw [x_resid1 h hI hj h1, Option.bind_some, if_pos (ne_noneS (by omega) (by omega)), x_size (by omega) (by omega), Option.bind_some, if_pos h1, show (16 : Int32) = nI 16 from rfl, k_div (by omega) (by omega) (by omega), nI_add, nI_1]
    · rw [x_resid0 h hI hj h1, Option.bind_some, if_neg (fun z => z rfl), if_neg h1, nI_1]
      rfl
  · show fL_off_c4 X C (nI (offN st (st 2) (st 3) (st 0))) (nI (st 0)) nx = _
    unfold fL_off_c4
    rw [x_layers h, Option.bind_some, if_pos (by rw [k_le (by omega) (by omega)]; omega)]
theorem off_up {st : Nat → Nat} {X : KX} {C : KC} {f : Nat} (h : RC (upN st 2 f) C) (hI : Inv (upN st 2 f)) : fL_off X C = some (nI (offN st f (st 3) (st 0))) := by
  have e := off_ok (X := X) h hI
  rw [up_s, up_n (i := 3) (by omega), up_n (i := 0) (by omega), off_same] at e
  exact e
theorem off_lt {st : Nat → Nat} (hI : Inv st) {f : Nat} : offN st f (st 3) (st 0) ≤ 100000000 := by
  have h16 := hI.1
  have h1 := misN_le hI (f := f) hI.2.2.2.1 (st 0) (Nat.le_refl _)
  have h2 := off_lo (st := st) (f := f) (k := st 3) (st 0)
  omega
theorem best_88 {X : KX} {C : KC} {H : KH} {S : KS} {n : Nat} (hn : n ≤ 8) : fL_isBest_c88 X C H S (nI n) 1 = some (1, X, C, H, S) := by
  unfold fL_isBest_c88
  rw [if_neg (by decide), if_neg (nI_pos (by omega))]
theorem kLoopC_s {σ R : Type} (n : Nat) (b : σ → (σ → Option R) → Option R) (s : σ) : kLoopC (n + 1) b s = b s (kLoopC n b) := rfl
theorem acts_1 (x : Int32) (m : Nat) : x + 1 + nI m = x + nI (m + 1) := by
  rw [Int32.add_assoc, show (1 : Int32) = nI 1 from rfl, nI_add, Nat.add_comm]
theorem best_ind {st : Nat → Nat} {b o : Nat} (hb : b ≤ 2) (ho : ∀ f, f ≤ 2 → o ≤ offN st f (st 3) (st 0) + 16) (fu : Nat) : ∀ (m j : Nat) (X : KX) (C : KC) (H : KH) (S : KS) (n : Nat), j + m = 3 → n ≤ 8 → K4 st C H S → ∃ (X' : KX) (C' : KC) (H' : KH) (S' : KS), kLoopC (fu + (m + 1)) (fun q nx36 => fL_isBest_c36 q.1 q.2.1 q.2.2.1 q.2.2.2.1 (nI b) (nI o) q.2.2.2.2.1 q.2.2.2.2.2.1 q.2.2.2.2.2.2 nx36) (X, C, H, S, nI n, (1 : Int32), nI j) = some (1, X', C', H', S') ∧ K4 st C' H' S' ∧ X'.1 = X.1 + nI m := by
  intro m
  induction m with
  | zero =>
    intro j X C H S n hj hn hK
    have e3 : j = 3 := by omega
    subst e3
    refine ⟨X, C, H, S, ?_, hK, by rw [nI_0, Int32.add_zero]⟩
    rw [show fu + (0 + 1) = fu + 1 from rfl, kLoopC_s]
    dsimp only
    unfold fL_isBest_c36
    rw [if_pos (by rw [show (3 : Int32) = nI 3 from rfl, k_le (by omega) (by omega)]; omega)]
    exact best_88 hn
  | succ m ih =>
    intro j X C H S n hj hn hK
    obtain ⟨C1, H1, S1, e1, hC1, hI1, hu⟩ := y_setUndo (X := X) hK (f := j) (by omega)
    obtain ⟨n2, C2, H2, hn2, e2, hK2⟩ := hu (X.1 + 1, X.2)
    obtain ⟨X', C', H', S', e3, hK3, hX⟩ := ih (j + 1) (X.1 + 1, X.2) C2 H2 S1 n2 (by omega) hn2 hK2
    have hol := off_lt hK.2.1 (f := j)
    have hoj := ho j (by omega)
    refine ⟨X', C', H', S', ?_, hK3, ?_⟩
    · rw [← e3]
      rw [show fu + (m + 1 + 1) = fu + (m + 1) + 1 from rfl, kLoopC_s]
      dsimp only
      unfold fL_isBest_c36
      rw [if_neg (by rw [show (3 : Int32) = nI 3 from rfl, k_le (by omega) (by omega)]; omega), if_neg (nI_pos (by omega)), e1, Option.bind_some, if_neg (by decide)]
      dsimp only
      rw [off_up hC1 hI1, Option.bind_some, if_neg, e2, Option.bind_some, nI_1]
      rw [show (16 : Int32) = nI 16 from rfl, nI_add, k_lt (by omega) (by omega)]
      omega
    · exact hX.trans (acts_1 X.1 m)
theorem best_15 {st : Nat → Nat} {X : KX} {C : KC} {H : KH} {S : KS} (hK : K4 st C H S) {b : Nat} (hb : b ≤ 2) (ho : ∀ f, f ≤ 2 → offN st b (st 3) (st 0) ≤ offN st f (st 3) (st 0) + 16) : ∃ (X' : KX) (C' : KC) (H' : KH) (S' : KS), fL_isBest_c15 X C H S (nI b) (nI b) = some (1, X', C', H', S') ∧ K4 st C' H' S' ∧ X'.1 = X.1 + 4 := by
  obtain ⟨C1, H1, S1, e1, hC1, hI1, hu⟩ := y_setUndo (X := X) hK hb
  obtain ⟨n2, C2, H2, hn2, e2, hK2⟩ := hu (X.1 + 1, X.2)
  obtain ⟨X', C', H', S', e3, hK3, hX⟩ := best_ind hb ho 99996 3 0 (X.1 + 1, X.2) C2 H2 S1 n2 (by omega) hn2 hK2
  refine ⟨X', C', H', S', ?_, hK3, ?_⟩
  · unfold fL_isBest_c15
    rw [e1, Option.bind_some]
    dsimp only
    rw [off_up hC1 hI1, Option.bind_some, e2, Option.bind_some]
    exact e3
  · exact hX.trans (acts_1 X.1 3)
theorem best_ok {st : Nat → Nat} {X : KX} {C : KC} {H : KH} {S : KS} (hK : K4 st C H S) : ∃ (X' : KX) (C' : KC) (H' : KH) (S' : KS), fL_isBest X C H S = some (1, X', C', H', S') ∧ K4 st C' H' S' ∧ X'.1 = X.1 + (if ashN st (st 0) = 0 then 1 else 4) := by
  have h16 := hK.2.1.1
  unfold fL_isBest
  by_cases c : ashN st (st 0) = 0
  · rw [x_best0 hK.1 hK.2.1 c, Option.bind_some, if_neg (by decide), if_pos c]
    obtain ⟨C1, H1, S1, e1, hC1, hI1, hu⟩ := y_setUndo (X := X) hK (f := 0) (by omega)
    obtain ⟨n2, C2, H2, hn2, e2, hK2⟩ := hu (X.1 + 1, X.2)
    refine ⟨(X.1 + 1, X.2), C2, H2, S1, ?_, hK2, rfl⟩
    unfold fL_isBest_c15
    rw [show (0 : Int32) = nI 0 from rfl, e1, Option.bind_some]
    dsimp only
    rw [off_up hC1 hI1, Option.bind_some, e2, Option.bind_some]
    refine kLoop_to (fun _ => ((X.1 + 1, X.2), C2, H2, S1, nI n2, (1 : Int32), nI 0)) 0 rfl (fun j hj nx => absurd hj (by omega)) (fun nx => ?_) (by rw [kFu_eq]; omega)
    show fL_isBest_c36 (X.1 + 1, X.2) C2 H2 S1 (-1000000005) _ (nI n2) 1 (nI 0) nx = _
    unfold fL_isBest_c36
    rw [if_neg (by decide), if_pos (by decide)]
    exact best_88 hn2
  · have hb := amin_le (g := fun f => misN st f (st 3) (st 0)) 2
    have ho : ∀ f, f ≤ 2 → offN st (amin (fun f => misN st f (st 3) (st 0)) 2) (st 3) (st 0) ≤ offN st f (st 3) (st 0) + 16 := by
      intro f hf
      have h1 := amin_min (g := fun f => misN st f (st 3) (st 0)) 2 f hf
      have h2 := off_lo (st := st) (f := amin (fun f => misN st f (st 3) (st 0)) 2) (k := st 3) (st 0)
      have h3 := off_hi (st := st) (f := f) (k := st 3) (st 0)
      omega
    obtain ⟨X', C', H', S', e, hK', hX⟩ := best_15 (X := X) hK hb ho
    rw [c_bestFunction hK.1 hK.2.1 (by omega), Option.bind_some, if_pos (nI_pos' (by omega)), if_neg c]
    exact ⟨X', C', H', S', e, hK', hX⟩
