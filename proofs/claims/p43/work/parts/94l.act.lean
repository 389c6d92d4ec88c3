/-! ===== PURE: a change, kept and told ===== -/
def mSet2 (u : KM) (w th : Nat → Int32) : KM := (u.1, u.2.1, u.2.2.1, u.2.2.2.1, u.2.2.2.2.1, u.2.2.2.2.2.1, w, u.2.2.2.2.2.2.2.1, th, u.2.2.2.2.2.2.2.2.2)
def Good (r : Int32) : Prop := (-1000000001 : Int32) < r
def Err (r : Int32) : Prop := r = -1000000001 ∨ r = -1000000002 ∨ r = -1000000003 ∨ r = -1000000004
theorem good_n {n : Nat} (h : n < 2 ^ 31) : Good (nI n) := by
  unfold Good
  rw [Int32.lt_iff_toInt_lt, nI_toInt h, show (-1000000001 : Int32).toInt = -1000000001 from rfl]
  omega
theorem good_s {a b : Nat} (ha : a < 2 ^ 29) (hb : b < 2 ^ 29) : Good (nI a - nI b) := by
  unfold Good
  rw [Int32.lt_iff_toInt_lt, pk_sub_toInt (by omega) (by omega), show (-1000000001 : Int32).toInt = -1000000001 from rfl]
  omega
theorem good_err {r : Int32} (h : Good r) : fX4_isError r = some 0 := by
  unfold fX4_isError
  rw [if_neg, if_neg, if_neg, if_pos]
  · intro e
    subst e
    exact absurd h (by unfold Good; decide)
  · intro e
    subst e
    exact absurd h (by unfold Good; decide)
  · intro e
    subst e
    exact absurd h (by unfold Good; decide)
  · intro e
    subst e
    exact absurd h (by unfold Good; decide)
theorem err_err {r : Int32} (h : Err r) : fX4_isError r = some 1 := by
  rcases h with h | h | h | h <;> (subst h; rfl)
/-- a change: refused by both, or done by both -/
def Act (pc : KC → Option (Int32 × KC)) (pm : KM → Option (Int32 × KM)) : Prop := ∀ st C M, RM st M → RC st C → Inv st → (∃ e, Err e ∧ pc C = some (e, C) ∧ pm M = some (e, M)) ∨ (∃ r st' C', Good r ∧ Inv st' ∧ RC st' C' ∧ pc C = some (r, C') ∧ ∀ u1, fX5_record M = some u1 → RM st u1 → ∃ w th, pm M = some (r, mSet2 u1 w th) ∧ RM st' (mSet2 u1 w th))
theorem copy_rc {st : Nat → Nat} {d o : KC} (h : RC st o) (h16 : st 0 ≤ 16) : ∃ c, fX0_copyFrom d o = some c ∧ RC st c := by
  refine ⟨_, rfl, h.1, h.2.1, h.2.2.1, h.2.2.2.1, h.2.2.2.2.1, fun k hk => ?_⟩
  have hz : ∀ (α : Type) (f g : Nat → α), va_cpy f g (0 : Int32).toNatClampNeg (0 : Int32).toNatClampNeg (16 : Int32).toNatClampNeg k = f k := by
    intro α f g
    rw [pk_cpy_in (by rw [k_c0]; omega) (by rw [k_c0, show (16 : Int32).toNatClampNeg = 16 from rfl]; omega), k_c0]
    show f (0 + (k - 0)) = f k
    rw [Nat.zero_add]
    rfl
  obtain ⟨l1, l2, l3, l4, l5, l6, l7⟩ := h.2.2.2.2.2 k hk
  exact ⟨(hz _ _ _).trans l1, (hz _ _ _).trans l2, (hz _ _ _).trans l3, (hz _ _ _).trans l4, (hz _ _ _).trans l5, fun z => (hz _ _ _).trans (l6 z), (hz _ _ _).trans l7⟩
theorem prep_ok {st : Nat → Nat} {C : KC} {q n : Nat} {H : KH} {S : KS} (hC : RC st C) (h16 : st 0 ≤ 16) (hq : q < 9) (hn : n ≤ 8) (hH : H = (nI q, nI n)) : ∃ c, fX2_prepare C H S = some (va_up S ((q + n) % 9) c) ∧ RC st c := by
  subst hH
  obtain ⟨c, h1, h2⟩ := copy_rc (d := S ((q + n) % 9)) hC h16
  refine ⟨c, ?_, h2⟩
  unfold fX2_prepare
  show (if kIn ((nI q + nI n) - (nI q + nI n) / (9 : Int32) * (9 : Int32)) 9 = true then _ else _) = _
  have e : (nI q + nI n) - (nI q + nI n) / (9 : Int32) * (9 : Int32) = nI ((q + n) % 9) := by
    rw [nI_add, show (9 : Int32) = nI 9 from rfl]
    exact pk_rem (by omega) (by omega) (by omega)
  rw [if_pos (k_in e (by omega) (by omega))]
  show ((fX0_copyFrom (S (((nI q + nI n) - (nI q + nI n) / (9 : Int32) * (9 : Int32)).toNatClampNeg)) C).bind fun r24 => some (va_up S (((nI q + nI n) - (nI q + nI n) / (9 : Int32) * (9 : Int32)).toNatClampNeg) r24)) = _
  rw [e, nI_clamp (by omega), h1, Option.bind_some]
/-- the log -/
def LogOk (pst : Nat → Nat → Nat) (n q : Nat) (S : KS) : Prop := ∀ r, r < n → RC (pst r) (S ((q + r) % 9)) ∧ Inv (pst r)
theorem log_prep {pst : Nat → Nat → Nat} {n q : Nat} {S : KS} {c : KC} (h : LogOk pst n q S) (hn : n ≤ 8) : LogOk pst n q (va_up S ((q + n) % 9) c) := by
  intro r hr
  have e : va_up S ((q + n) % 9) c ((q + r) % 9) = S ((q + r) % 9) := by
    unfold va_up
    rw [if_neg (by omega)]
  rw [e]
  exact h r hr
theorem log_push {st : Nat → Nat} {pst : Nat → Nat → Nat} {n q : Nat} {S : KS} {c : KC} (h : LogOk pst n q S) (hn : n ≤ 8) (hc : RC st c) (hI : Inv st) : LogOk (pushP n st pst) (min (n + 1) 8) (if n = 8 then (q + 1) % 9 else q) (va_up S ((q + n) % 9) c) := by
  intro r hr
  unfold pushP
  by_cases h8 : n = 8
  · subst h8
    rw [if_pos rfl, if_neg (by omega)]
    by_cases h7 : r = 7
    · subst h7
      rw [if_pos rfl, show ((q + 1) % 9 + 7) % 9 = (q + 8) % 9 by omega]
      unfold va_up
      rw [if_pos rfl]
      exact ⟨hc, hI⟩
    · rw [if_neg h7, show ((q + 1) % 9 + r) % 9 = (q + (r + 1)) % 9 by omega]
      unfold va_up
      rw [if_neg (by omega)]
      exact h (r + 1) (by omega)
  · rw [if_neg h8, if_pos (by omega)]
    by_cases hrn : r = n
    · subst hrn
      rw [if_pos rfl]
      unfold va_up
      rw [if_pos rfl]
      exact ⟨hc, hI⟩
    · rw [if_neg hrn]
      unfold va_up
      rw [if_neg (by omega)]
      exact h r (by omega)
theorem keep_ok {q n : Nat} (hq : q < 9) (hn : n ≤ 8) : fX2_keep (nI q, nI n) = some (nI (if n = 8 then (q + 1) % 9 else q), nI (min (n + 1) 8)) := by
  unfold fX2_keep
  show (if (8 : Int32) ≤ nI n then some (((nI q + (1 : Int32)) - (nI q + (1 : Int32)) / (9 : Int32) * (9 : Int32)), nI n) else some (nI q, nI n + (1 : Int32))) = _
  by_cases h8 : n = 8
  · subst h8
    rw [if_pos (by decide), if_pos rfl, nI_1, show (9 : Int32) = nI 9 from rfl, pk_rem (by omega) (by omega) (by omega)]
    rfl
  · rw [if_neg (by rw [show (8 : Int32) = nI 8 from rfl, k_le (by omega) (by omega)]; omega), if_neg h8, nI_1, show min (n + 1) 8 = n + 1 by omega]
/-! undo -/
