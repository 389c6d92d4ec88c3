/-! ===== PURE: tuning, the reference; the whole act ===== -/
def ThOk (st : Nat → Nat) (u : KM) : Prop := ∀ k, k < st 0 → u.2.2.2.2.2.2.2.2.1 k = nI (thinN st (st 2) (st 3) k)
theorem m_yearsWith {st : Nat → Nat} {u : KM} (h : RM st u) (hI : Inv st) (hT : ThOk st u) {x y z : Int32} {a b v : Nat} (hx : x = nI a) (hy : y = nI b) (hz : z = nI v) (hab : a ≤ b) (hb : b < st 0) (h1 : 200 ≤ v) (h2 : v ≤ 5000) : fX5_yearsWith u x y z = some (lN (sumN (sgD st a) (sgF st a) v (b + 1 - a))) := by
  subst hx hy hz
  have h16 := hI.1
  unfold fX5_yearsWith
  refine kLoop_to (fun j => (lN (sumN (sgD st a) (sgF st a) v j), nI (a + j))) (b + 1 - a) rfl (fun j hj nx => ?_) (fun nx => ?_) (by rw [kFu_eq]; omega)
  · show fX5_yearsWith_c6 u (nI b) (nI v) (lN (sumN (sgD st a) (sgF st a) v j)) (nI (a + j)) nx = nx (lN (sumN (sgD st a) (sgF st a) v j + sgD st a j / (sgF st a j * v)), nI (a + (j + 1)))
    obtain ⟨l5, l6, -⟩ := hI.2.2.2.2.2.1 (a + j) (by omega)
    have htb := thinN_b hI (f := st 2) hI.2.2.2.1 (n := a + j) (by omega)
    have hp := k_prod l6 ⟨h1, h2⟩ htb
    have hq : 10000000 * st (8 * (a + j) + 5) / (st (8 * (a + j) + 6) * v * thinN st (st 2) (st 3) (a + j)) ≤ 2500000 := by
      refine Nat.div_le_of_le_mul ?_
      have : 20000 * 2500000 ≤ st (8 * (a + j) + 6) * v * thinN st (st 2) (st 3) (a + j) * 2500000 := Nat.mul_le_mul_right _ hp.1
      omega
    have e : sgD st a j / (sgF st a j * v) = 10000000 * st (8 * (a + j) + 5) / (st (8 * (a + j) + 6) * v * thinN st (st 2) (st 3) (a + j)) := by
      unfold sgD sgF
      rw [Nat.mul_right_comm]
    unfold fX5_yearsWith_c6
    rw [if_neg (by rw [k_lt (by omega) (by omega)]; omega), m_of5 h (by omega), Option.bind_some, m_of6 h (by omega), Option.bind_some, if_pos (k_in rfl (by omega) (by omega)), nI_clamp (by omega), hT _ (by omega), nI_l (by omega), nI_l (by omega), nI_l (by omega), nI_l (by omega), m_yearsBy (by omega) (by omega) (by omega), Option.bind_some, nI_l (by omega), lN_add, nI_1, e, Nat.add_assoc]
  · show fX5_yearsWith_c6 u (nI b) (nI v) _ (nI (a + (b + 1 - a))) nx = _
    unfold fX5_yearsWith_c6
    rw [if_pos (by rw [k_lt (by omega) (by omega)]; omega)]
def cN (st : Nat → Nat) (a r : Nat) : Nat → (Nat → Nat)
  | 0 => st
  | j + 1 => upN (cN st a r j) (8 * (a + j) + 7) r
def cW (w : Nat → Int32) (a r : Nat) : Nat → (Nat → Int32)
  | 0 => w
  | j + 1 => upd (cW w a r j) (8 * (a + j) + 7) (nI r)
theorem cN_rm {st : Nat → Nat} {u : KM} (h : RM st u) (a r : Nat) : ∀ j, RM (cN st a r j) (mSet u (cW u.2.2.2.2.2.2.1 a r j))
  | 0 => h
  | j + 1 => rm_updw (cN_rm h a r j)
theorem cN_eq (st : Nat → Nat) (a r : Nat) : ∀ j i, cN st a r j i = if i % 8 = 7 ∧ 8 * a + 7 ≤ i ∧ i < 8 * (a + j) + 7 then r else st i
  | 0, i => by
    rw [if_neg (by omega)]
    rfl
  | j + 1, i => by
    show upN (cN st a r j) (8 * (a + j) + 7) r i = _
    by_cases h : i = 8 * (a + j) + 7
    · rw [h, up_s, if_pos (by omega)]
    · rw [up_n h, cN_eq st a r j i]
      by_cases h2 : i % 8 = 7 ∧ 8 * a + 7 ≤ i ∧ i < 8 * (a + j) + 7
      · rw [if_pos h2, if_pos (by omega)]
      · rw [if_neg h2, if_neg (by omega)]
theorem m_tuneSegment {st : Nat → Nat} {u : KM} (h : RM st u) (hI : Inv st) (hT : ThOk st u) {x y : Int32} {z : Int64} {a b t : Nat} (hx : x = nI a) (hy : y = nI b) (hz : z = lN t) (hab : a ≤ b) (hb : b < st 0) (ht : t < 2 ^ 30) : ∃ w, fX5_tuneSegment u x y z = some (mSet u w) ∧ RM (setCor st a b (segB st a (b + 1 - a) t)) (mSet u w) := by
  subst hx hy hz
  have h16 := hI.1
  have hbD : ∀ v, sumN (sgD st a) (sgF st a) v (b + 1 - a) ≤ 50000000000 * (b + 1 - a) := fun v => sumN_le _ (fun i hi => (sg_b hI (a := a) (i := i) (by omega)).1)
  have hz : ∀ v, 200 ≤ v → v ≤ 5000 → (fX5_yearsWith u (nI a) (nI b) (nI v)).bind (fun r => fX5_size (r - lN t)) = some (lN (segD st a (b + 1 - a) t v)) := by
    intro v h1 h2
    have := hbD v
    rw [m_yearsWith h hI hT rfl rfl rfl hab hb h1 h2, Option.bind_some, m_size (by omega) (by omega)]
    rfl
  have hsD : ∀ v, segD st a (b + 1 - a) t v ≤ 50000000000 * 16 := by
    intro v
    have := hbD v
    exact adN_le (by omega) (by omega)
  refine ⟨cW u.2.2.2.2.2.2.1 a (segB st a (b + 1 - a) t) (b + 1 - a), ?_, rm_congr (cN_rm h a _ _) (fun i hi => ?_)⟩
  · have z200 := m_yearsWith h hI hT (x := nI a) (y := nI b) (z := 200) (v := 200) rfl rfl rfl hab hb (by omega) (by omega)
    have b200 := hbD 200
    unfold fX5_tuneSegment
    rw [z200, Option.bind_some, m_size (by omega) (by omega), Option.bind_some]
    refine kLoop_to (fun j => (nI (lmin (segD st a (b + 1 - a) t) 200 j), lN (segD st a (b + 1 - a) t (lmin (segD st a (b + 1 - a) t) 200 j)), nI (200 + (j + 1)))) 4800 rfl (fun j hj nx => ?_) (fun nx => ?_) (by rw [kFu_eq]; omega)
    · show fX5_tuneSegment_c26 u (nI a) (nI b) (lN t) (nI (lmin (segD st a (b + 1 - a) t) 200 j)) (lN (segD st a (b + 1 - a) t (lmin (segD st a (b + 1 - a) t) 200 j))) (nI (200 + (j + 1))) nx = nx (nI (if segD st a (b + 1 - a) t (lmin (segD st a (b + 1 - a) t) 200 j) ≤ segD st a (b + 1 - a) t (200 + (j + 1)) then lmin (segD st a (b + 1 - a) t) 200 j else 200 + (j + 1)), lN (segD st a (b + 1 - a) t (if segD st a (b + 1 - a) t (lmin (segD st a (b + 1 - a) t) 200 j) ≤ segD st a (b + 1 - a) t (200 + (j + 1)) then lmin (segD st a (b + 1 - a) t) 200 j else 200 + (j + 1))), nI (200 + (j + 1) + 1))
      have hyw := m_yearsWith h hI hT (x := nI a) (y := nI b) (z := nI (200 + (j + 1))) rfl rfl rfl hab hb (by omega) (by omega)
      have bw := hbD (200 + (j + 1))
      have b1 := hsD (200 + (j + 1))
      have b2 := hsD (lmin (segD st a (b + 1 - a) t) 200 j)
      have es : fX5_size (lN (sumN (sgD st a) (sgF st a) (200 + (j + 1)) (b + 1 - a)) - lN t) = some (lN (segD st a (b + 1 - a) t (200 + (j + 1)))) := m_size (by omega) (by omega)
      unfold fX5_tuneSegment_c26
      rw [if_neg (by rw [show (5000 : Int32) = nI 5000 from rfl, k_lt (by omega) (by omega)]; omega), hyw, Option.bind_some, es, Option.bind_some, nI_1]
      by_cases hc : segD st a (b + 1 - a) t (lmin (segD st a (b + 1 - a) t) 200 j) ≤ segD st a (b + 1 - a) t (200 + (j + 1))
      · have hc' := (pk_lLE (by omega) (by omega)).mpr hc
        rw [if_pos hc', if_pos hc', if_pos hc]
      · have hc' := (fun z => hc ((pk_lLE (by omega) (by omega)).mp z))
        rw [if_neg hc', if_neg hc', if_neg hc]
    · show fX5_tuneSegment_c26 u (nI a) (nI b) (lN t) (nI (segB st a (b + 1 - a) t)) _ (nI 5001) nx = _
      have hs := segB_b (st := st) (a := a) (n := b + 1 - a) (t := t)
      generalize segB st a (b + 1 - a) t = r at *
      unfold fX5_tuneSegment_c26
      rw [if_pos (by decide)]
      refine kLoop_to (fun j => (mSet u (cW u.2.2.2.2.2.2.1 a r j), nI (a + j))) (b + 1 - a) rfl (fun j hj nx => ?_) (fun nx => ?_) (by rw [kFu_eq]; omega)
      · show fX5_tuneSegment_c92 (mSet u (cW u.2.2.2.2.2.2.1 a r j)) (nI b) (nI r) (nI (a + j)) nx = nx (mSet u (upd (cW u.2.2.2.2.2.2.1 a r j) (8 * (a + j) + 7) (nI r)), nI (a + (j + 1)))
        have ix : ((8 : Int32) * nI (a + j)) + (7 : Int32) = nI (8 * (a + j) + 7) := m_ix (a + j) 7
        unfold fX5_tuneSegment_c92
        rw [if_neg (by rw [k_lt (by omega) (by omega)]; omega), ix, if_pos (k_in rfl (by omega) (by omega)), nI_clamp (by omega), nI_1]
        rfl
      · show fX5_tuneSegment_c92 (mSet u (cW u.2.2.2.2.2.2.1 a r (b + 1 - a))) (nI b) (nI r) (nI (a + (b + 1 - a))) nx = _
        unfold fX5_tuneSegment_c92
        rw [if_pos (by rw [k_lt (by omega) (by omega)]; omega)]
  · rw [cN_eq]
    unfold setCor
    by_cases c : i % 8 = 7 ∧ 8 * a + 7 ≤ i ∧ i ≤ 8 * b + 7
    · rw [if_pos c, if_pos (by omega)]
    · rw [if_neg c, if_neg (by omega)]
/-! all segments -/
def CorS (st st' : Nat → Nat) : Prop := ∀ i, i % 8 ≠ 7 → st' i = st i
theorem cs_top {st st' : Nat → Nat} (h : CorS st st') : ∀ n, topN st' n = topN st n := topN_same (fun k => h _ (by omega))
theorem cs_thin {st st' : Nat → Nat} (h : CorS st st') (f k n : Nat) : thinN st' f k n = thinN st f k n := by
  unfold thinN thQ yN hN
  rw [cs_top h, h 1 (by omega), h (8 * n + 5) (by omega), h (8 * n + 8) (by omega)]
theorem cs_segB {st st' : Nat → Nat} (h : CorS st st') (a n t : Nat) : segB st' a n t = segB st a n t := by
  have e1 : sgD st' a = sgD st a := by
    funext i
    unfold sgD
    rw [h _ (by omega)]
  have e2 : sgF st' a = sgF st a := by
    funext i
    unfold sgF
    rw [cs_thin h, h (8 * (a + i) + 6) (by omega), h 2 (by omega), h 3 (by omega)]
  have e3 : segD st' a n t = segD st a n t := by
    funext v
    unfold segD
    rw [e1, e2]
  unfold segB
  rw [e3]
def tnT (st : Nat → Nat) : Nat → (Nat → Nat) × Nat × Nat
  | 0 => (st, 0, 0)
  | j + 1 => if st (8 * j + 9) = 1 then (setCor (tnT st j).1 (tnT st j).2.1 j (segB st (tnT st j).2.1 (j + 1 - (tnT st j).2.1) (st (8 * j + 10) - (tnT st j).2.2)), j + 1, st (8 * j + 10)) else tnT st j
theorem tn_inv {st : Nat → Nat} (hI : Inv st) : ∀ j, j ≤ st 0 → Inv (tnT st j).1 ∧ CorS st (tnT st j).1 ∧ (tnT st j).2.1 ≤ j ∧ (tnT st j).2.2 = lastA st j
  | 0, _ => ⟨hI, fun _ _ => rfl, Nat.le_refl _, rfl⟩
  | j + 1, h => by
    obtain ⟨h1, h2, h3, h4⟩ := tn_inv hI j (by omega)
    unfold tnT lastA
    by_cases c : st (8 * j + 9) = 1
    · rw [if_pos c, if_pos c]
      have hb := segB_b (st := st) (a := (tnT st j).2.1) (n := j + 1 - (tnT st j).2.1) (t := st (8 * j + 10) - (tnT st j).2.2)
      exact ⟨sc_inv h1 hb.1 hb.2, fun i hi => (sc_o hi).trans (h2 i hi), Nat.le_refl _, rfl⟩
    · rw [if_neg c, if_neg c]
      exact ⟨h1, h2, by omega, h4⟩
theorem fitN_le {st : Nat → Nat} : ∀ j, fitN st j ≤ j
  | 0 => Nat.le_refl _
  | j + 1 => by
    have := fitN_le (st := st) j
    unfold fitN
    split <;> omega
theorem c_tune {st : Nat → Nat} {C : KC} {F : KF} (hC : RC st C) (hI : Inv st) (hT : CanT st) (h1 : fX0_canBeTuned C = some 1) : ∃ C' F', fX0_fitCorrections C F = some (nI (fitN (tnT st (st 0)).1 (st 0)), C', F') ∧ RC (tnT st (st 0)).1 C' := by
  have h16 := hI.1
  have K : ∃ r, (∃ C' F', r = (nI (fitN (tnT st (st 0)).1 (st 0)), C', F') ∧ RC (tnT st (st 0)).1 C') ∧ kLoopC kFu (fun (q : KC × KF × Int32 × Int32 × Int32) (nx17 : KC × KF × Int32 × Int32 × Int32 → Option (Int32 × KC × KF)) => fX0_fitCorrections_c17 q.1 q.2.1 q.2.2.1 q.2.2.2.1 q.2.2.2.2 nx17) (C, F, (0 : Int32), (0 : Int32), (0 : Int32)) = some r := by
    refine kLoop_ex (fun j (s : KC × KF × Int32 × Int32 × Int32) => RC (tnT st j).1 s.1 ∧ s.2.2 = (nI (tnT st j).2.1, nI (tnT st j).2.2, nI j)) _ (st 0) ⟨hC, rfl⟩ ?_ ?_ (by rw [kFu_eq]; omega)
    · rintro j hj ⟨c, f, x2, x3, x4⟩ ⟨hc, he⟩
      obtain ⟨i1, i2, i3, i4⟩ := tn_inv hI j (by omega)
      obtain ⟨l5, l6, l7, l8, l9, l10, l11, l12⟩ := hI.2.2.2.2.2.1 j hj
      have hA := lastA_le hI j (by omega)
      have hO := hT.1 j hj
      have hs0 : (tnT st j).1 0 = st 0 := i2 0 (by omega)
      have hs9 : (tnT st j).1 (8 * j + 9) = st (8 * j + 9) := i2 _ (by omega)
      have hs10 : (tnT st j).1 (8 * j + 10) = st (8 * j + 10) := i2 _ (by omega)
      replace hc : RC (tnT st j).1 c := hc
      have hl := hc.2.2.2.2.2 j (by omega)
      rw [hs9, hs10] at hl
      rw [← i4] at hA
      unfold OkA at hO
      rw [← i4] at hO
      have eT : tnT st (j + 1) = if st (8 * j + 9) = 1 then (setCor (tnT st j).1 (tnT st j).2.1 j (segB st (tnT st j).2.1 (j + 1 - (tnT st j).2.1) (st (8 * j + 10) - (tnT st j).2.2)), j + 1, st (8 * j + 10)) else tnT st j := rfl
      replace he : (x2, x3, x4) = (nI (tnT st j).2.1, nI (tnT st j).2.2, nI j) := he
      obtain ⟨rfl, rfl, rfl⟩ : x2 = nI (tnT st j).2.1 ∧ x3 = nI (tnT st j).2.2 ∧ x4 = nI j := by
        refine ⟨congrArg (fun p => p.1) he, congrArg (fun p => p.2.1) he, congrArg (fun p => p.2.2) he⟩
      have hle0 : ¬ c.1 ≤ nI j := by
        rw [hc.1, hs0, k_le (by omega) (by omega)]
        omega
      have cAsh := c_hasAsh hc i1 (x := nI j) (k := j) rfl (by omega)
      rw [hs9] at cAsh
      by_cases h9 : st (8 * j + 9) = 1
      · rw [if_pos h9] at eT
        have hle := hO h9
        obtain ⟨F2, e2⟩ := c_fitSegment (F := f) hc i1 (x := nI (tnT st j).2.1) (y := nI j) (z := nI (st (8 * j + 10)) - nI (tnT st j).2.2) (a := (tnT st j).2.1) (b := j) (t := st (8 * j + 10) - (tnT st j).2.2) rfl rfl (pk_sub hle) i3 (by omega) (by omega)
        rw [cs_segB i2] at e2
        refine ⟨((c.1, c.2.1, c.2.2.1, c.2.2.2.1, c.2.2.2.2.1, c.2.2.2.2.2.1, c.2.2.2.2.2.2.1, corR c.2.2.2.2.2.2.2.1 (tnT st j).2.1 (j + 1 - (tnT st j).2.1) (segB st (tnT st j).2.1 (j + 1 - (tnT st j).2.1) (st (8 * j + 10) - (tnT st j).2.2)), c.2.2.2.2.2.2.2.2), F2, nI (j + 1), nI (st (8 * j + 10)), nI (j + 1)), ?_, fun nx => ?_⟩
        · rw [eT]
          exact ⟨sc_rc hc i3, rfl⟩
        · show fX0_fitCorrections_c17 c f (nI (tnT st j).2.1) (nI (tnT st j).2.2) (nI j) nx = _
          unfold fX0_fitCorrections_c17
          rw [if_neg hle0, cAsh, Option.bind_some, h9, if_neg (by decide), if_pos (k_in rfl (by omega) (by omega)), nI_clamp (by omega), hl.2.2.2.2.1, if_pos h9, e2, Option.bind_some, if_pos (k_in rfl (by omega) (by omega))]
          show ((some (c.2.2.2.2.2.2.2.2.2.1 j)).bind fun y64 => _) = _
          rw [hl.2.2.2.2.1, if_pos h9, Option.bind_some, nI_1]
      · rw [if_neg h9] at eT
        refine ⟨(c, f, nI (tnT st j).2.1, nI (tnT st j).2.2, nI (j + 1)), ?_, fun nx => ?_⟩
        · rw [eT]
          exact ⟨hc, rfl⟩
        · show fX0_fitCorrections_c17 c f (nI (tnT st j).2.1) (nI (tnT st j).2.2) (nI j) nx = _
          unfold fX0_fitCorrections_c17
          rw [if_neg hle0, cAsh, Option.bind_some, show st (8 * j + 9) = 0 by omega, if_pos nI_0, nI_1]
    · rintro ⟨c, f, x2, x3, x4⟩ ⟨hc, he⟩
      obtain ⟨i1, i2, i3, i4⟩ := tn_inv hI (st 0) (Nat.le_refl _)
      have hs0 : (tnT st (st 0)).1 0 = st 0 := i2 0 (by omega)
      replace hc : RC (tnT st (st 0)).1 c := hc
      replace he : (x2, x3, x4) = (nI (tnT st (st 0)).2.1, nI (tnT st (st 0)).2.2, nI (st 0)) := he
      obtain rfl : x4 = nI (st 0) := congrArg (fun p => p.2.2) he
      have hf := c_fits hc i1
      rw [hs0] at hf
      refine ⟨_, ⟨c, f, rfl, hc⟩, fun nx => ?_⟩
      show fX0_fitCorrections_c17 c f x2 x3 (nI (st 0)) nx = _
      unfold fX0_fitCorrections_c17
      rw [hc.1, hs0, if_pos (by rw [k_le (by omega) (by omega)]; omega), hf, Option.bind_some]
  obtain ⟨r, ⟨C', F', rfl, hc⟩, he⟩ := K
  refine ⟨C', F', ?_, hc⟩
  unfold fX0_fitCorrections
  rw [h1, Option.bind_some, if_pos (by decide)]
  exact he
