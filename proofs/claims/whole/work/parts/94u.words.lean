/-! ===== PURE: at the start; the words of a command ===== -/
theorem rr_start : RR kX0 kM0 kC0 kF0 kH0 kT0 (fun _ => kC0) := by
  refine ⟨fun i => if i = 4 then 7000 else if i = 3 then 300 else if i = 1 then 100000 else 0, fun _ _ => 0, 0, 0, 0, fun i hi => ?_, ⟨rfl, rfl, rfl, rfl, rfl, fun k hk => absurd hk (Nat.not_lt_zero _)⟩, ⟨by decide, by decide, by decide, by decide, by decide, fun k hk => absurd hk (Nat.not_lt_zero _), by decide⟩, rfl, rfl, rfl, ⟨by omega, by omega, rfl, rfl, fun r hr => absurd hr (by omega), fun r hr => absurd hr (by omega)⟩, by omega, rfl, rfl, fun i hi => absurd hi (by omega)⟩
  show upd (upd (upd (fun _ => 0) (1 : Int32).toNatClampNeg 100000) (3 : Int32).toNatClampNeg 300) (4 : Int32).toNatClampNeg 7000 i = _
  rw [k_c1, k_c3, k_c4]
  by_cases h4 : i = 4
  · subst h4
    rw [pk_us]
    rfl
  · rw [pk_un h4]
    show _ = nI (if i = 4 then 7000 else if i = 3 then 300 else if i = 1 then 100000 else 0)
    rw [if_neg h4]
    by_cases h3 : i = 3
    · subst h3
      rw [pk_us]
      rfl
    · rw [pk_un h3, if_neg h3]
      by_cases h1 : i = 1
      · subst h1
        rw [pk_us]
        rfl
      · rw [pk_un h1, if_neg h1]
        rfl
abbrev isS (tx : Nat → Nat) (a n : Nat) : Prop := tx (a + n) ≠ 32 ∧ (n = 0 ∨ tx (a + n - 1) = 32)
def cnt (tx : Nat → Nat) (a : Nat) : Nat → Nat
  | 0 => 0
  | n + 1 => if isS tx a n then cnt tx a n + 1 else cnt tx a n
def sF (tx : Nat → Nat) (a : Nat) : Nat → Nat → Nat
  | 0 => fun _ => 0
  | n + 1 => if isS tx a n then upN (sF tx a n) (cnt tx a n) (a + n) else sF tx a n
def eF (tx : Nat → Nat) (a : Nat) : Nat → Nat → Nat
  | 0 => fun _ => 0
  | n + 1 => if tx (a + n) = 32 then eF tx a n else upN (eF tx a n) (cnt tx a (n + 1) - 1) (a + n + 1)
theorem cnt_pos {tx : Nat → Nat} {a : Nat} : ∀ n, n ≠ 0 → tx (a + n - 1) ≠ 32 → 0 < cnt tx a n
  | 0, h, _ => absurd rfl h
  | n + 1, _, h => by
    have h1 : tx (a + n) ≠ 32 := h
    unfold cnt
    by_cases c : isS tx a n
    · rw [if_pos c]
      omega
    · rw [if_neg c]
      by_cases c0 : n = 0
      · exact absurd ⟨h1, Or.inl c0⟩ c
      · exact cnt_pos n c0 (fun z => c ⟨h1, Or.inr z⟩)
theorem cnt_b {tx : Nat → Nat} {a : Nat} : ∀ n, 2 * cnt tx a n ≤ n + 1 ∧ ((n = 0 ∨ tx (a + n - 1) = 32) → 2 * cnt tx a n ≤ n)
  | 0 => ⟨by unfold cnt; omega, fun _ => by unfold cnt; omega⟩
  | n + 1 => by
    obtain ⟨h1, h2⟩ := cnt_b (tx := tx) (a := a) n
    unfold cnt
    by_cases c : isS tx a n
    · rw [if_pos c]
      have := h2 c.2
      refine ⟨by omega, fun z => ?_⟩
      rcases z with z | z
      · omega
      · exact absurd z c.1
    · rw [if_neg c]
      exact ⟨by omega, fun _ => by omega⟩
theorem ws_b {tx : Nat → Nat} {a : Nat} : ∀ n w, w < cnt tx a n → a ≤ sF tx a n w ∧ sF tx a n w < eF tx a n w ∧ eF tx a n w ≤ a + n
  | 0, w, h => absurd h (Nat.not_lt_zero _)
  | n + 1, w, h => by
    have ih := ws_b (tx := tx) (a := a) n
    have hc : cnt tx a (n + 1) = if isS tx a n then cnt tx a n + 1 else cnt tx a n := rfl
    have hs : sF tx a (n + 1) = if isS tx a n then upN (sF tx a n) (cnt tx a n) (a + n) else sF tx a n := rfl
    have he : eF tx a (n + 1) = if tx (a + n) = 32 then eF tx a n else upN (eF tx a n) (cnt tx a (n + 1) - 1) (a + n + 1) := rfl
    by_cases c : isS tx a n
    · rw [if_pos c] at hc hs
      rw [if_neg c.1] at he
      rw [hc] at h he
      rw [hs, he, Nat.add_sub_cancel]
      by_cases ew : w = cnt tx a n
      · rw [ew, up_s, up_s]
        omega
      · rw [up_n ew, up_n ew]
        have := ih w (by omega)
        omega
    · rw [if_neg c] at hc hs
      rw [hc] at h he
      have := ih w h
      by_cases c2 : tx (a + n) = 32
      · rw [if_pos c2] at he
        rw [hs, he]
        omega
      · rw [if_neg c2] at he
        rw [hs, he]
        by_cases ew : w = cnt tx a n - 1
        · rw [ew, up_s]
          rw [ew] at this
          omega
        · rw [up_n ew]
          omega
/-- a word, read from its start on -/
theorem ws_word {tx : Nat → Nat} {a n : Nat} (hs : isS tx a n) : ∀ d, (∀ i, i < d → tx (a + n + 1 + i) ≠ 32) → cnt tx a (n + 1 + d) = cnt tx a n + 1 ∧ sF tx a (n + 1 + d) = upN (sF tx a n) (cnt tx a n) (a + n) ∧ eF tx a (n + 1 + d) = upN (eF tx a n) (cnt tx a n) (a + n + 1 + d)
  | 0, _ => by
    have hc : cnt tx a (n + 1) = if isS tx a n then cnt tx a n + 1 else cnt tx a n := rfl
    have hs' : sF tx a (n + 1) = if isS tx a n then upN (sF tx a n) (cnt tx a n) (a + n) else sF tx a n := rfl
    have he : eF tx a (n + 1) = if tx (a + n) = 32 then eF tx a n else upN (eF tx a n) (cnt tx a (n + 1) - 1) (a + n + 1) := rfl
    rw [if_pos hs] at hc hs'
    rw [if_neg hs.1, hc, Nat.add_sub_cancel] at he
    exact ⟨hc, hs', he⟩
  | d + 1, h => by
    obtain ⟨h1, h2, h3⟩ := ws_word hs d (fun i hi => h i (by omega))
    have hd := h d (by omega)
    rw [show a + n + 1 + d = a + (n + 1 + d) by omega] at hd
    have hc : cnt tx a (n + 1 + d + 1) = if isS tx a (n + 1 + d) then cnt tx a (n + 1 + d) + 1 else cnt tx a (n + 1 + d) := rfl
    have hs' : sF tx a (n + 1 + d + 1) = if isS tx a (n + 1 + d) then upN (sF tx a (n + 1 + d)) (cnt tx a (n + 1 + d)) (a + (n + 1 + d)) else sF tx a (n + 1 + d) := rfl
    have he : eF tx a (n + 1 + d + 1) = if tx (a + (n + 1 + d)) = 32 then eF tx a (n + 1 + d) else upN (eF tx a (n + 1 + d)) (cnt tx a (n + 1 + d + 1) - 1) (a + (n + 1 + d) + 1) := rfl
    have hn : ¬ isS tx a (n + 1 + d) := by
      intro z
      rcases z.2 with z2 | z2
      · omega
      · rw [show a + (n + 1 + d) - 1 = a + n + d by omega] at z2
        cases d with
        | zero => exact hs.1 z2
        | succ d =>
          have := h d (by omega)
          rw [show a + n + 1 + d = a + n + (d + 1) by omega] at this
          exact this z2
    rw [if_neg hn] at hc hs'
    rw [if_neg hd, hc, h1, Nat.add_sub_cancel, h3, up_up] at he
    rw [show n + 1 + (d + 1) = n + 1 + d + 1 by omega, hc, hs', he, h1, h2, show a + (n + 1 + d) + 1 = a + n + 1 + (d + 1) by omega]
    exact ⟨rfl, rfl, rfl⟩
