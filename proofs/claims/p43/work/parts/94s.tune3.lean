/-! ===== PURE: tuning, both ===== -/
def thW (st : Nat → Nat) (th : Nat → Int32) (j : Nat) : Nat → Int32 := fun k => if k < j then nI (thinN st (st 2) (st 3) k) else th k
theorem m_tune {st : Nat → Nat} {M u1 : KM} (hI : Inv st) (hT : CanT st) (h1 : fX5_canTune M = some 1) (g1 : fX5_record M = some u1) (g2 : RM st u1) : ∃ w th, fX5_tune M = some (nI (fitN (tnT st (st 0)).1 (st 0)), mSet2 u1 w th) ∧ RM (tnT st (st 0)).1 (mSet2 u1 w th) := by
  have h16 := hI.1
  have hth : ∀ w k, k < st 0 → (mSet2 u1 w (thW st u1.2.2.2.2.2.2.2.2.1 (st 0))).2.2.2.2.2.2.2.2.1 k = nI (thinN st (st 2) (st 3) k) := by
    intro w k hk
    show thW st u1.2.2.2.2.2.2.2.2.1 (st 0) k = _
    unfold thW
    rw [if_pos hk]
  have K : ∃ r, (∃ w, r = (nI (fitN (tnT st (st 0)).1 (st 0)), mSet2 u1 w (thW st u1.2.2.2.2.2.2.2.2.1 (st 0))) ∧ RM (tnT st (st 0)).1 (mSet2 u1 w (thW st u1.2.2.2.2.2.2.2.2.1 (st 0)))) ∧ kLoopC kFu (fun (q : KM × Int32 × Int32 × Int32) (nx49 : KM × Int32 × Int32 × Int32 → Option (Int32 × KM)) => fX5_tune_c49 q.1 q.2.1 q.2.2.1 q.2.2.2 nx49) (mSet2 u1 u1.2.2.2.2.2.2.1 (thW st u1.2.2.2.2.2.2.2.2.1 (st 0)), (0 : Int32), (0 : Int32), (0 : Int32)) = some r := by
    refine kLoop_ex (fun j (s : KM × Int32 × Int32 × Int32) => ∃ w, s = (mSet2 u1 w (thW st u1.2.2.2.2.2.2.2.2.1 (st 0)), nI (tnT st j).2.1, nI (tnT st j).2.2, nI j) ∧ RM (tnT st j).1 (mSet2 u1 w (thW st u1.2.2.2.2.2.2.2.2.1 (st 0)))) _ (st 0) ⟨_, rfl, g2⟩ ?_ ?_ (by rw [kFu_eq]; omega)
    · rintro j hj s ⟨w, rfl, hm⟩
      obtain ⟨i1, i2, i3, i4⟩ := tn_inv hI j (by omega)
      obtain ⟨l5, l6, l7, l8, l9, l10, l11, l12⟩ := hI.2.2.2.2.2.1 j hj
      have hA := lastA_le hI j (by omega)
      have hO := hT.1 j hj
      have hs0 : (tnT st j).1 0 = st 0 := i2 0 (by omega)
      have hs9 : (tnT st j).1 (8 * j + 9) = st (8 * j + 9) := i2 _ (by omega)
      have hs10 : (tnT st j).1 (8 * j + 10) = st (8 * j + 10) := i2 _ (by omega)
      rw [← i4] at hA
      unfold OkA at hO
      rw [← i4] at hO
      have eT : tnT st (j + 1) = if st (8 * j + 9) = 1 then (setCor (tnT st j).1 (tnT st j).2.1 j (segB st (tnT st j).2.1 (j + 1 - (tnT st j).2.1) (st (8 * j + 10) - (tnT st j).2.2)), j + 1, st (8 * j + 10)) else tnT st j := rfl
      have z0 := hm 0 (by omega)
      rw [hs0] at z0
      have z9 := m_of9 hm (k := j) (by omega)
      rw [hs9] at z9
      have z10 := m_of10 hm (k := j) (by omega)
      rw [hs10] at z10
      have hTh : ThOk (tnT st j).1 (mSet2 u1 w (thW st u1.2.2.2.2.2.2.2.2.1 (st 0))) := by
        intro k hk
        rw [hs0] at hk
        rw [hth w k hk, cs_thin i2, i2 2 (by omega), i2 3 (by omega)]
      by_cases h9 : st (8 * j + 9) = 1
      · rw [if_pos h9] at eT
        have hle := hO h9
        have ez : (nI (st (8 * j + 10)) - nI (tnT st j).2.2).toInt64 = lN (st (8 * j + 10) - (tnT st j).2.2) := by
          rw [pk_sub hle, nI_l (by omega)]
        obtain ⟨w', e2, e3⟩ := m_tuneSegment hm i1 hTh (x := nI (tnT st j).2.1) (y := nI j) (z := (nI (st (8 * j + 10)) - nI (tnT st j).2.2).toInt64) (a := (tnT st j).2.1) (b := j) (t := st (8 * j + 10) - (tnT st j).2.2) rfl rfl ez i3 (by omega) (by omega)
        rw [cs_segB i2] at e3
        have z10' := m_of10 e3 (k := j) (by omega)
        rw [sc_o (by omega), hs10] at z10'
        refine ⟨(mSet2 u1 w' (thW st u1.2.2.2.2.2.2.2.2.1 (st 0)), nI (j + 1), nI (st (8 * j + 10)), nI (j + 1)), ⟨w', ?_, ?_⟩, fun nx => ?_⟩
        · rw [eT]
        · rw [eT]
          exact e3
        · show fX5_tune_c49 (mSet2 u1 w (thW st u1.2.2.2.2.2.2.2.2.1 (st 0))) (nI (tnT st j).2.1) (nI (tnT st j).2.2) (nI j) nx = _
          unfold fX5_tune_c49
          rw [if_pos k_i0, k_c0, z0, if_neg (by rw [k_le (by omega) (by omega)]; omega), z9, Option.bind_some, h9, if_neg (fun z => z rfl), z10, Option.bind_some, e2, Option.bind_some, z10', Option.bind_some, nI_1]
          rfl
      · rw [if_neg h9] at eT
        refine ⟨(mSet2 u1 w (thW st u1.2.2.2.2.2.2.2.2.1 (st 0)), nI (tnT st j).2.1, nI (tnT st j).2.2, nI (j + 1)), ⟨w, ?_, ?_⟩, fun nx => ?_⟩
        · rw [eT]
        · rw [eT]
          exact hm
        · show fX5_tune_c49 (mSet2 u1 w (thW st u1.2.2.2.2.2.2.2.2.1 (st 0))) (nI (tnT st j).2.1) (nI (tnT st j).2.2) (nI j) nx = _
          unfold fX5_tune_c49
          rw [if_pos k_i0, k_c0, z0, if_neg (by rw [k_le (by omega) (by omega)]; omega), z9, Option.bind_some, if_pos (by rw [show (1 : Int32) = nI 1 from rfl, k_eq (by omega) (by omega)]; exact h9), nI_1]
    · rintro s ⟨w, rfl, hm⟩
      obtain ⟨i1, i2, i3, i4⟩ := tn_inv hI (st 0) (Nat.le_refl _)
      have hs0 : (tnT st (st 0)).1 0 = st 0 := i2 0 (by omega)
      have z0 := hm 0 (by omega)
      rw [hs0] at z0
      have hf := m_fits hm i1
      rw [hs0] at hf
      refine ⟨_, ⟨w, rfl, hm⟩, fun nx => ?_⟩
      show fX5_tune_c49 (mSet2 u1 w (thW st u1.2.2.2.2.2.2.2.2.1 (st 0))) (nI (tnT st (st 0)).2.1) (nI (tnT st (st 0)).2.2) (nI (st 0)) nx = _
      unfold fX5_tune_c49
      rw [if_pos k_i0, k_c0, z0, if_pos (by rw [k_le (by omega) (by omega)]; omega), hf, Option.bind_some]
  obtain ⟨r, ⟨w, rfl, hm⟩, he⟩ := K
  refine ⟨w, thW st u1.2.2.2.2.2.2.2.2.1 (st 0), ?_, hm⟩
  unfold fX5_tune
  rw [h1, Option.bind_some, if_pos (by decide), g1, Option.bind_some]
  refine kLoop_to (fun j => (mSet2 u1 u1.2.2.2.2.2.2.1 (thW st u1.2.2.2.2.2.2.2.2.1 j), nI j)) (st 0) ?_ (fun j hj nx => ?_) (fun nx => ?_) (by rw [kFu_eq]; omega)
  · have e : thW st u1.2.2.2.2.2.2.2.2.1 0 = u1.2.2.2.2.2.2.2.2.1 := by
      funext k
      unfold thW
      rw [if_neg (by omega)]
    show (u1, _) = (mSet2 u1 u1.2.2.2.2.2.2.1 (thW st u1.2.2.2.2.2.2.2.2.1 0), nI 0)
    rw [e]
    rfl
  · show fX5_tune_c16 (mSet2 u1 u1.2.2.2.2.2.2.1 (thW st u1.2.2.2.2.2.2.2.2.1 j)) (nI j) nx = nx (mSet2 u1 u1.2.2.2.2.2.2.1 (thW st u1.2.2.2.2.2.2.2.2.1 (j + 1)), nI (j + 1))
    have hm : RM st (mSet2 u1 u1.2.2.2.2.2.2.1 (thW st u1.2.2.2.2.2.2.2.2.1 j)) := g2
    have z0 := hm 0 (by omega)
    have e : upd (thW st u1.2.2.2.2.2.2.2.2.1 j) j (nI (thinN st (st 2) (st 3) j)) = thW st u1.2.2.2.2.2.2.2.2.1 (j + 1) := by
      funext k
      by_cases ek : k = j
      · rw [ek, pk_us]
        unfold thW
        rw [if_pos (by omega)]
      · rw [pk_un ek]
        unfold thW
        by_cases c : k < j
        · rw [if_pos c, if_pos (by omega)]
        · rw [if_neg c, if_neg (by omega)]
    unfold fX5_tune_c16
    rw [if_pos k_i0, k_c0, z0, if_neg (by rw [k_le (by omega) (by omega)]; omega), m_thinningOf hm hI rfl hj, Option.bind_some, if_pos (k_in rfl (by omega) (by omega)), nI_clamp (by omega), nI_1, ← e]
    rfl
  · have hm : RM st (mSet2 u1 u1.2.2.2.2.2.2.1 (thW st u1.2.2.2.2.2.2.2.2.1 (st 0))) := g2
    have z0 := hm 0 (by omega)
    show fX5_tune_c16 (mSet2 u1 u1.2.2.2.2.2.2.1 (thW st u1.2.2.2.2.2.2.2.2.1 (st 0))) (nI (st 0)) nx = _
    unfold fX5_tune_c16
    rw [if_pos k_i0, k_c0, z0, if_pos (by rw [k_le (by omega) (by omega)]; omega)]
    exact he
theorem tune_core {st : Nat → Nat} {C : KC} {F : KF} {M : KM} (hM : RM st M) (hC : RC st C) (hI : Inv st) : (∃ e, Err e ∧ fX0_fitCorrections C F = some (e, C, F) ∧ fX5_tune M = some (e, M)) ∨ (∃ r st' C' F', Good r ∧ Inv st' ∧ RC st' C' ∧ fX0_fitCorrections C F = some (r, C', F') ∧ ∀ u1, fX5_record M = some u1 → RM st u1 → ∃ w th, fX5_tune M = some (r, mSet2 u1 w th) ∧ RM st' (mSet2 u1 w th)) := by
  have h16 := hI.1
  rcases can_both hM hC hI with ⟨hT, h1, h2⟩ | ⟨h1, h2⟩
  · obtain ⟨C', F', e1, e2⟩ := c_tune (F := F) hC hI hT h1
    have hf := fitN_le (st := (tnT st (st 0)).1) (st 0)
    exact Or.inr ⟨_, _, C', F', good_n (by omega), (tn_inv hI (st 0) (Nat.le_refl _)).1, e2, e1, fun u1 g1 g2 => m_tune hI hT h2 g1 g2⟩
  · refine Or.inl ⟨-1000000003, err3, ?_, ?_⟩
    · unfold fX0_fitCorrections
      rw [h1, Option.bind_some, if_neg (fun z => z rfl)]
    · unfold fX5_tune
      rw [h2, Option.bind_some, if_neg (fun z => z rfl)]
