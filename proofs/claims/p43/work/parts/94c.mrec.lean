/-! ===== PURE: the reference's record, undo, and its row ===== -/
def mSet (u : KM) (w : Nat → Int32) : KM := (u.1, u.2.1, u.2.2.1, u.2.2.2.1, u.2.2.2.2.1, u.2.2.2.2.2.1, w, u.2.2.2.2.2.2.2)
def upN (st : Nat → Nat) (a v : Nat) : Nat → Nat := fun i => if i = a then v else st i
theorem rm_upd {st : Nat → Nat} {u : KM} (h : RM st u) {a v : Nat} : RM (upN st a v) (mSet u (upd u.2.2.2.2.2.2.1 a (nI v))) := by
  intro i hi
  show upd u.2.2.2.2.2.2.1 a (nI v) i = nI (upN st a v i)
  by_cases e : i = a
  · subst e
    rw [pk_us]
    simp [upN]
  · rw [pk_un e, h i hi]
    simp [upN, e]
/-- the recorded states' row -/
def RP (n : Nat) (pst : Nat → Nat → Nat) (past : Nat → Int32) : Prop := ∀ r, r < n → ∀ i, i < 133 → past (133 * r + i) = nI (pst r i)
def pushP (n : Nat) (st : Nat → Nat) (pst : Nat → Nat → Nat) : Nat → Nat → Nat := if n < 8 then (fun r => if r = n then st else pst r) else (fun r => if r = 7 then st else pst (r + 1))
theorem m_copy {ac ru tx fa wo : Int32} {now past th te : Nat → Int32} {sp : Nat → Int64} {nu : Nat → Int32} {n : Nat} (hn : n < 8) : kLoopC kFu (fun q nx72 => fX5_record_c72 q.1 q.2 nx72) ((ac, nI n, ru, tx, fa, wo, now, past, th, te, sp, nu), (0 : Int32)) = some (ac, nI (n + 1), ru, tx, fa, wo, now, (fun i => if 133 * n ≤ i ∧ i < 133 * n + 133 then now (i - 133 * n) else past i), th, te, sp, nu) := by
  refine kLoop_to (fun j => ((ac, nI n, ru, tx, fa, wo, now, (fun i => if 133 * n ≤ i ∧ i < 133 * n + j then now (i - 133 * n) else past i), th, te, sp, nu), nI j)) 133 ?_ (fun j hj nx => ?_) (fun nx => ?_) (by rw [kFu_eq]; omega)
  · have e : (fun i => if 133 * n ≤ i ∧ i < 133 * n + 0 then now (i - 133 * n) else past i) = past := by
      funext i
      rw [if_neg (by omega)]
    show _ = (_, _)
    rw [e]
    rfl
  · show fX5_record_c72 _ (nI j) nx = nx (_, nI (j + 1))
    unfold fX5_record_c72
    have e : ((133 : Int32) * nI n) + nI j = nI (133 * n + j) := by
      rw [show (133 : Int32) = nI 133 from rfl, pk_mul, nI_add]
    rw [if_neg (by rw [show (133 : Int32) = nI 133 from rfl, k_le (by omega) (by omega)]; omega), if_pos (k_in rfl hj (by omega))]
    dsimp only
    rw [e, if_pos (k_in rfl (by omega) (by omega)), nI_clamp (by omega), nI_clamp (by omega), nI_1]
    congr 1
    congr 1
    congr 1
    congr 1
    congr 1
    congr 1
    congr 1
    congr 1
    congr 1
    congr 1
    funext i
    by_cases hi : i = 133 * n + j
    · subst hi
      rw [pk_us, if_pos (by omega)]
      congr 1
      omega
    · rw [pk_un hi]
      by_cases h2 : 133 * n ≤ i ∧ i < 133 * n + j
      · rw [if_pos h2, if_pos (by omega)]
      · rw [if_neg h2, if_neg (by omega)]
  · show fX5_record_c72 _ (nI 133) nx = _
    unfold fX5_record_c72
    rw [if_pos (by rw [show (133 : Int32) = nI 133 from rfl, k_le (by omega) (by omega)]; omega)]
    dsimp only
    rw [nI_1]
theorem m_shift {ac ru tx fa wo : Int32} {now past th te : Nat → Int32} {sp : Nat → Int64} {nu : Nat → Int32} : kLoopC kFu (fun q nx31 => fX5_record_c31 q.1 q.2 nx31) ((ac, nI 8, ru, tx, fa, wo, now, past, th, te, sp, nu), (133 : Int32)) = some (ac, nI 8, ru, tx, fa, wo, now, (fun i => if 931 ≤ i ∧ i < 1064 then now (i - 931) else if i < 931 then past (i + 133) else past i), th, te, sp, nu) := by
  refine kLoop_to (fun j => ((ac, nI 8, ru, tx, fa, wo, now, (fun i => if i < j then past (i + 133) else past i), th, te, sp, nu), nI (133 + j))) 931 ?_ (fun j hj nx => ?_) (fun nx => ?_) (by rw [kFu_eq]; omega)
  · have e : past = (fun i => if i < 0 then past (i + 133) else past i) := by
      funext i
      rw [if_neg (by omega)]
    exact congrArg (fun f => (((ac, nI 8, ru, tx, fa, wo, now, f, th, te, sp, nu), (133 : Int32)) : KM × Int32)) e
  · show fX5_record_c31 _ (nI (133 + j)) nx = nx (_, nI (133 + (j + 1)))
    unfold fX5_record_c31
    rw [if_neg (by rw [show (1064 : Int32) = nI 1064 from rfl, k_le (by omega) (by omega)]; omega), if_pos (k_in rfl (by omega) (by omega))]
    have e : nI (133 + j) - (133 : Int32) = nI j := by
      rw [show (133 : Int32) = nI 133 from rfl, pk_sub (by omega), show 133 + j - 133 = j by omega]
    rw [e, if_pos (k_in rfl (by omega) (by omega))]
    rw [nI_clamp (by omega), nI_clamp (by omega), nI_1]
    have ef : upd (fun i => if i < j then past (i + 133) else past i) j ((fun i => if i < j then past (i + 133) else past i) (133 + j)) = (fun i => if i < j + 1 then past (i + 133) else past i) := by
      funext i
      by_cases hi : i = j
      · subst hi
        rw [pk_us, if_pos (Nat.lt_succ_self _)]
        show (if 133 + i < i then past (133 + i + 133) else past (133 + i)) = _
        rw [if_neg (by omega), Nat.add_comm]
      · rw [pk_un hi]
        by_cases h2 : i < j
        · rw [if_pos h2, if_pos (by omega)]
        · rw [if_neg h2, if_neg (by omega)]
    exact congrArg (fun f => nx ((ac, nI 8, ru, tx, fa, wo, now, f, th, te, sp, nu), nI (133 + j + 1))) ef
  · show fX5_record_c31 _ (nI (133 + 931)) nx = _
    unfold fX5_record_c31
    rw [if_pos (by rw [show (1064 : Int32) = nI 1064 from rfl, k_le (by omega) (by omega)]; omega)]
    dsimp only
    have e : nI 8 - (1 : Int32) = nI 7 := nI_pred 7
    rw [e, m_copy (by omega)]
/-- an act is recorded -/
theorem m_record {st : Nat → Nat} {pst : Nat → Nat → Nat} {u : KM} {n : Nat} (h : RM st u) (hr : u.2.2.1 = 0) (hn : u.2.1 = nI n) (h8 : n ≤ 8) (hp : RP n pst u.2.2.2.2.2.2.2.1) : ∃ past' : Nat → Int32, fX5_record u = some (u.1 + 1, nI (min (n + 1) 8), u.2.2.1, u.2.2.2.1, u.2.2.2.2.1, u.2.2.2.2.2.1, u.2.2.2.2.2.2.1, past', u.2.2.2.2.2.2.2.2) ∧ RP (min (n + 1) 8) (pushP n st pst) past' := by
  obtain ⟨ac, re, ru, tx, fa, wo, now, past, th, te, sp, nu⟩ := u
  dsimp only at hr hn hp
  subst hr
  subst hn
  have hnow : ∀ i, i < 133 → now i = nI (st i) := h
  unfold fX5_record
  dsimp only
  rw [if_pos rfl]
  by_cases e8 : n = 8
  · subst e8
    refine ⟨fun i => if 931 ≤ i ∧ i < 1064 then now (i - 931) else if i < 931 then past (i + 133) else past i, ?_, ?_⟩
    · rw [if_neg (fun z => z rfl)]
      exact m_shift
    · intro r hr i hi
      show (if 931 ≤ 133 * r + i ∧ 133 * r + i < 1064 then now (133 * r + i - 931) else if 133 * r + i < 931 then past (133 * r + i + 133) else past (133 * r + i)) = _
      have hr8 : r < 8 := hr
      have e : pushP 8 st pst r = if r = 7 then st else pst (r + 1) := by
        unfold pushP
        rw [if_neg (by omega)]
      rw [e]
      by_cases h7 : r = 7
      · subst h7
        rw [if_pos (by omega), if_pos rfl]
        rw [show 133 * 7 + i - 931 = i by omega]
        exact hnow i hi
      · rw [if_neg (by omega), if_pos (by omega), if_neg h7]
        rw [show 133 * r + i + 133 = 133 * (r + 1) + i by omega]
        exact hp (r + 1) (by omega) i hi
  · have hn8 : n < 8 := by omega
    have e1 : min (n + 1) 8 = n + 1 := by omega
    rw [e1]
    refine ⟨fun i => if 133 * n ≤ i ∧ i < 133 * n + 133 then now (i - 133 * n) else past i, ?_, ?_⟩
    · rw [if_pos (by rw [show (8 : Int32) = nI 8 from rfl, k_eq (by omega) (by omega)]; exact e8)]
      exact m_copy hn8
    · intro r hr i hi
      show (if 133 * n ≤ 133 * r + i ∧ 133 * r + i < 133 * n + 133 then now (133 * r + i - 133 * n) else past (133 * r + i)) = _
      unfold pushP
      rw [if_pos hn8]
      by_cases h7 : r = n
      · subst h7
        rw [if_pos (by omega), if_pos rfl]
        rw [show 133 * r + i - 133 * r = i by omega]
        exact hnow i hi
      · rw [if_neg (by omega), if_neg h7]
        exact hp r (by omega) i hi
theorem m_change {st : Nat → Nat} {u u1 : KM} (hrec : fX5_record u = some u1) (h1 : RM st u1) {x : Int32} {a v : Nat} (hx : x = nI a) (ha : a < 133) : fX5_change u x (nI v) = some (nI (st a), mSet u1 (upd u1.2.2.2.2.2.2.1 a (nI v))) := by
  subst hx
  unfold fX5_change
  rw [hrec, Option.bind_some, if_pos (k_in rfl ha (by omega)), if_pos (k_in rfl ha (by omega)), nI_clamp (by omega), h1 a ha]
  rfl
