/-! ===== PURE: the setters ===== -/
theorem topN_same {st st' : Nat → Nat} (h : ∀ k, st' (8 * k + 5) = st (8 * k + 5)) : ∀ n, topN st' n = topN st n
  | 0 => rfl
  | n + 1 => by
    unfold topN
    rw [topN_same h n, h n]
theorem inv_lay {st st' : Nat → Nat} (hI : Inv st) (h0 : ∀ i, i < 5 → st' i = st i) (h5 : ∀ k, st' (8 * k + 5) = st (8 * k + 5)) (hl : ∀ k, k < st 0 → LayOk st' k) : Inv st' := by
  unfold Inv
  rw [topN_same h5, h0 0 (by omega), h0 1 (by omega), h0 2 (by omega), h0 3 (by omega), h0 4 (by omega)]
  exact ⟨hI.1, hI.2.1, hI.2.2.1, hI.2.2.2.1, hI.2.2.2.2.1, hl, hI.2.2.2.2.2.2⟩
theorem err2 : Err (-1000000002) := Or.inr (Or.inl rfl)
theorem err1 : Err (-1000000001) := Or.inl rfl
theorem err3 : Err (-1000000003) := Or.inr (Or.inr (Or.inl rfl))
theorem err4 : Err (-1000000004) := Or.inr (Or.inr (Or.inr rfl))
theorem m_chg {st : Nat → Nat} {u u1 : KM} (hrec : fX5_record u = some u1) (h1 : RM st u1) {x y : Int32} {a v : Nat} (hx : x = nI a) (hy : y = nI v) (ha : a < 133) : ∃ w th, fX5_change u x y = some (nI (st a), mSet2 u1 w th) ∧ RM (upN st a v) (mSet2 u1 w th) := by
  subst hy
  exact ⟨_, _, m_change hrec h1 hx ha, rm_upd h1⟩
theorem act_setFunction (a1 : Int32) : Act (fun C => fX0_putFunction C a1) (fun M => fX5_setFunction M a1) := by
  intro st C M hM hC hI
  rcases k_range a1 (a := 0) (b := 2) (by omega) (by omega) with ⟨v, h1, h2, rfl⟩ | ⟨h1, -⟩
  · refine Or.inr ⟨nI (st 2), upN st 2 v, (C.1, C.2.1, nI v, C.2.2.2), good_n (by have := hI.2.2.1; omega), inv_up2 hI h2, ⟨hC.1, hC.2.1, by rw [up_s], hC.2.2.2.1, hC.2.2.2.2.1, fun k hk => ?_⟩, ?_, fun u1 g1 g2 => ?_⟩
    · rw [up_n (i := 8 * k + 5) (by omega), up_n (i := 8 * k + 6) (by omega), up_n (i := 8 * k + 7) (by omega), up_n (i := 8 * k + 8) (by omega), up_n (i := 8 * k + 9) (by omega), up_n (i := 8 * k + 10) (by omega), up_n (i := 8 * k + 11) (by omega), up_n (i := 8 * k + 12) (by omega)]
      exact hC.2.2.2.2.2 k hk
    · have e : fX4_isBetween (nI v) 0 2 = some 1 := fX4_isBetween_t (a := 0) (b := 2) rfl h1 h2 (by omega)
      show fX0_putFunction C (nI v) = _
      unfold fX0_putFunction
      rw [e, Option.bind_some, if_pos (by decide), hC.2.2.1]
    · have e : fX5_in (nI v) 0 2 = some 1 := fX5_in_t (a := 0) (b := 2) rfl h1 h2 (by omega)
      obtain ⟨w, th, e1, e2⟩ := m_chg g1 g2 (x := 2) (a := 2) (v := v) rfl rfl (by omega)
      refine ⟨w, th, ?_, e2⟩
      show fX5_setFunction M (nI v) = _
      unfold fX5_setFunction
      rw [e, Option.bind_some, if_neg (by decide), e1, Option.bind_some]
  · have e : fX4_isBetween a1 0 2 = some 0 := fX4_isBetween_f (a := 0) (b := 2) h1
    have e' : fX5_in a1 0 2 = some 0 := fX5_in_f (a := 0) (b := 2) h1
    refine Or.inl ⟨-1000000002, err2, ?_, ?_⟩
    · show fX0_putFunction C a1 = _
      unfold fX0_putFunction
      rw [e, Option.bind_some, if_neg (fun z => z rfl)]
    · show fX5_setFunction M a1 = _
      unfold fX5_setFunction
      rw [e', Option.bind_some, if_pos rfl]
theorem act_setKink (a1 : Int32) : Act (fun C => fX0_putKink C a1) (fun M => fX5_setKink M a1) := by
  intro st C M hM hC hI
  rcases k_range a1 (a := 0) (b := 900) (by omega) (by omega) with ⟨v, h1, h2, rfl⟩ | ⟨h1, -⟩
  · refine Or.inr ⟨nI (st 3), upN st 3 v, (C.1, C.2.1, C.2.2.1, nI v, C.2.2.2.2), good_n (by have := hI.2.2.2.1; omega), inv_up3 hI h2, ⟨hC.1, hC.2.1, hC.2.2.1, by rw [up_s], hC.2.2.2.2.1, fun k hk => ?_⟩, ?_, fun u1 g1 g2 => ?_⟩
    · rw [up_n (i := 8 * k + 5) (by omega), up_n (i := 8 * k + 6) (by omega), up_n (i := 8 * k + 7) (by omega), up_n (i := 8 * k + 8) (by omega), up_n (i := 8 * k + 9) (by omega), up_n (i := 8 * k + 10) (by omega), up_n (i := 8 * k + 11) (by omega), up_n (i := 8 * k + 12) (by omega)]
      exact hC.2.2.2.2.2 k hk
    · have e : fX4_isBetween (nI v) 0 900 = some 1 := fX4_isBetween_t (a := 0) (b := 900) rfl h1 h2 (by omega)
      show fX0_putKink C (nI v) = _
      unfold fX0_putKink
      rw [e, Option.bind_some, if_pos (by decide), hC.2.2.2.1]
    · have e : fX5_in (nI v) 0 900 = some 1 := fX5_in_t (a := 0) (b := 900) rfl h1 h2 (by omega)
      obtain ⟨w, th, e1, e2⟩ := m_chg g1 g2 (x := 3) (a := 3) (v := v) rfl rfl (by omega)
      refine ⟨w, th, ?_, e2⟩
      show fX5_setKink M (nI v) = _
      unfold fX5_setKink
      rw [e, Option.bind_some, if_neg (by decide), e1, Option.bind_some]
  · have e : fX4_isBetween a1 0 900 = some 0 := fX4_isBetween_f (a := 0) (b := 900) h1
    have e' : fX5_in a1 0 900 = some 0 := fX5_in_f (a := 0) (b := 900) h1
    refine Or.inl ⟨-1000000002, err2, ?_, ?_⟩
    · show fX0_putKink C a1 = _
      unfold fX0_putKink
      rw [e, Option.bind_some, if_neg (fun z => z rfl)]
    · show fX5_setKink M a1 = _
      unfold fX5_setKink
      rw [e', Option.bind_some, if_pos rfl]
theorem act_setCloseOff (a1 : Int32) : Act (fun C => fX0_putCloseOff C a1) (fun M => fX5_setCloseOff M a1) := by
  intro st C M hM hC hI
  rcases k_range a1 (a := 0) (b := 15000) (by omega) (by omega) with ⟨v, h1, h2, rfl⟩ | ⟨h1, -⟩
  · refine Or.inr ⟨nI (st 4), upN st 4 v, (C.1, C.2.1, C.2.2.1, C.2.2.2.1, nI v, C.2.2.2.2.2), good_n (by have := hI.2.2.2.2.1; omega), inv_up4 hI h2, ⟨hC.1, hC.2.1, hC.2.2.1, hC.2.2.2.1, by rw [up_s], fun k hk => ?_⟩, ?_, fun u1 g1 g2 => ?_⟩
    · rw [up_n (i := 8 * k + 5) (by omega), up_n (i := 8 * k + 6) (by omega), up_n (i := 8 * k + 7) (by omega), up_n (i := 8 * k + 8) (by omega), up_n (i := 8 * k + 9) (by omega), up_n (i := 8 * k + 10) (by omega), up_n (i := 8 * k + 11) (by omega), up_n (i := 8 * k + 12) (by omega)]
      exact hC.2.2.2.2.2 k hk
    · have e : fX4_isBetween (nI v) 0 15000 = some 1 := fX4_isBetween_t (a := 0) (b := 15000) rfl h1 h2 (by omega)
      show fX0_putCloseOff C (nI v) = _
      unfold fX0_putCloseOff
      rw [e, Option.bind_some, if_pos (by decide), hC.2.2.2.2.1]
    · have e : fX5_in (nI v) 0 15000 = some 1 := fX5_in_t (a := 0) (b := 15000) rfl h1 h2 (by omega)
      obtain ⟨w, th, e1, e2⟩ := m_chg g1 g2 (x := 4) (a := 4) (v := v) rfl rfl (by omega)
      refine ⟨w, th, ?_, e2⟩
      show fX5_setCloseOff M (nI v) = _
      unfold fX5_setCloseOff
      rw [e, Option.bind_some, if_neg (by decide), e1, Option.bind_some]
  · have e : fX4_isBetween a1 0 15000 = some 0 := fX4_isBetween_f (a := 0) (b := 15000) h1
    have e' : fX5_in a1 0 15000 = some 0 := fX5_in_f (a := 0) (b := 15000) h1
    refine Or.inl ⟨-1000000002, err2, ?_, ?_⟩
    · show fX0_putCloseOff C a1 = _
      unfold fX0_putCloseOff
      rw [e, Option.bind_some, if_neg (fun z => z rfl)]
    · show fX5_setCloseOff M a1 = _
      unfold fX5_setCloseOff
      rw [e', Option.bind_some, if_pos rfl]
theorem act_setBed (a1 : Int32) : Act (fun C => fX0_putBed C a1) (fun M => fX5_setBed M a1) := by
  intro st C M hM hC hI
  have hb1 := hI.2.1
  have hb2 := hI.2.2.2.2.2.2
  rcases k_range a1 (a := 1000) (b := 200000) (by omega) (by omega) with ⟨v, h1, h2, rfl⟩ | ⟨h1, -⟩
  · have e : fX4_isBetween (nI v) 1000 200000 = some 1 := fX4_isBetween_t (a := 1000) (b := 200000) rfl h1 h2 (by omega)
    have e' : fX5_in (nI v) 1000 200000 = some 1 := fX5_in_t (a := 1000) (b := 200000) rfl h1 h2 (by omega)
    by_cases hv : topN st (st 0) ≤ v
    · have hT : ∀ n, topN (upN st 1 v) n = topN st n := topN_same (fun k => up_n (by omega))
      refine Or.inr ⟨nI (st 1), upN st 1 v, (C.1, nI v, C.2.2), good_n (by omega), ⟨hI.1, ⟨h1, h2⟩, hI.2.2.1, hI.2.2.2.1, hI.2.2.2.2.1, fun k hk => ?_, ?_⟩, ⟨hC.1, by rw [up_s], hC.2.2.1, hC.2.2.2.1, hC.2.2.2.2.1, fun k hk => ?_⟩, ?_, fun u1 g1 g2 => ?_⟩
      · unfold LayOk
        rw [up_n (i := 8 * k + 5) (by omega), up_n (i := 8 * k + 6) (by omega), up_n (i := 8 * k + 7) (by omega), up_n (i := 8 * k + 8) (by omega), up_n (i := 8 * k + 9) (by omega), up_n (i := 8 * k + 10) (by omega), up_n (i := 8 * k + 11) (by omega), up_n (i := 8 * k + 12) (by omega)]
        exact hI.2.2.2.2.2.1 k hk
      · rw [hT]
        exact hv
      · rw [up_n (i := 8 * k + 5) (by omega), up_n (i := 8 * k + 6) (by omega), up_n (i := 8 * k + 7) (by omega), up_n (i := 8 * k + 8) (by omega), up_n (i := 8 * k + 9) (by omega), up_n (i := 8 * k + 10) (by omega), up_n (i := 8 * k + 11) (by omega), up_n (i := 8 * k + 12) (by omega)]
        exact hC.2.2.2.2.2 k hk
      · show fX0_putBed C (nI v) = _
        unfold fX0_putBed
        rw [e, Option.bind_some, if_pos (by decide), c_bottom hC hI.1, Option.bind_some, if_pos ((k_le (by omega) (by omega)).mpr hv), hC.2.1]
      · obtain ⟨w, th, e1, e2⟩ := m_chg g1 g2 (x := 1) (a := 1) (v := v) rfl rfl (by omega)
        refine ⟨w, th, ?_, e2⟩
        show fX5_setBed M (nI v) = _
        unfold fX5_setBed
        rw [e', Option.bind_some, if_pos (by decide), m_bottom hM hI.1, Option.bind_some, if_pos ((k_le (by omega) (by omega)).mpr hv), e1, Option.bind_some]
    · refine Or.inl ⟨-1000000003, err3, ?_, ?_⟩
      · show fX0_putBed C (nI v) = _
        unfold fX0_putBed
        rw [e, Option.bind_some, if_pos (by decide), c_bottom hC hI.1, Option.bind_some, if_neg (by rw [k_le (by omega) (by omega)]; exact hv)]
      · show fX5_setBed M (nI v) = _
        unfold fX5_setBed
        rw [e', Option.bind_some, if_pos (by decide), m_bottom hM hI.1, Option.bind_some, if_neg (by rw [k_le (by omega) (by omega)]; exact hv)]
  · have e : fX4_isBetween a1 1000 200000 = some 0 := fX4_isBetween_f (a := 1000) (b := 200000) h1
    have e' : fX5_in a1 1000 200000 = some 0 := fX5_in_f (a := 1000) (b := 200000) h1
    refine Or.inl ⟨-1000000002, err2, ?_, ?_⟩
    · show fX0_putBed C a1 = _
      unfold fX0_putBed
      rw [e, Option.bind_some, if_neg (fun z => z rfl)]
    · show fX5_setBed M a1 = _
      unfold fX5_setBed
      rw [e', Option.bind_some, if_neg (fun z => z rfl)]
theorem act_tellThinning (a1 a2 : Int32) : Act (fun C => fX0_putTold C a1 a2) (fun M => fX5_tellThinning M a1 a2) := by
  intro st C M hM hC hI
  have h16 := hI.1
  by_cases hx : ∃ k, k < st 0 ∧ a1 = nI k
  · obtain ⟨j, hj, rfl⟩ := hx
    obtain ⟨l5, l6, l7, l8, l9, l10, l11, l12⟩ := hI.2.2.2.2.2.1 j hj
    rcases k_range a2 (a := 10) (b := 1000) (by omega) (by omega) with ⟨v, h1, h2, rfl⟩ | ⟨h1, -⟩
    · have e : fX4_isBetween (nI v) 10 1000 = some 1 := fX4_isBetween_t (a := 10) (b := 1000) rfl h1 h2 (by omega)
      have e' : fX5_in (nI v) 10 1000 = some 1 := fX5_in_t (a := 10) (b := 1000) rfl h1 h2 (by omega)
      have hy := yrN_le hI (f := st 2) hI.2.2.2.1 hj
      have hI' : Inv (upN st (8 * j + 8) v) := by
        refine inv_lay hI (fun i hi => up_n (by omega)) (fun k => up_n (by omega)) (fun k hk0 => ?_)
        have hk := hI.2.2.2.2.2.1 k hk0
        unfold LayOk
        rw [up_n (i := 8 * k + 5) (by omega), up_n (i := 8 * k + 6) (by omega), up_n (i := 8 * k + 7) (by omega), up_n (i := 8 * k + 9) (by omega), up_n (i := 8 * k + 10) (by omega), up_n (i := 8 * k + 11) (by omega), up_n (i := 8 * k + 12) (by omega)]
        by_cases ek : k = j
        · subst ek
          rw [up_s]
          exact ⟨hk.1, hk.2.1, hk.2.2.1, ⟨h1, h2⟩, hk.2.2.2.2.1, hk.2.2.2.2.2.1, hk.2.2.2.2.2.2.1, hk.2.2.2.2.2.2.2⟩
        · rw [up_n (i := 8 * k + 8) (by omega)]
          exact hk
      have hC' : RC (upN st (8 * j + 8) v) (C.1, C.2.1, C.2.2.1, C.2.2.2.1, C.2.2.2.2.1, C.2.2.2.2.2.1, C.2.2.2.2.2.2.1, C.2.2.2.2.2.2.2.1, upd C.2.2.2.2.2.2.2.2.1 j (nI v), C.2.2.2.2.2.2.2.2.2.1, C.2.2.2.2.2.2.2.2.2.2.1, C.2.2.2.2.2.2.2.2.2.2.2) := by
        refine ⟨?_, ?_, ?_, ?_, ?_, fun k hk => ?_⟩
        · rw [up_n (by omega)]; exact hC.1
        · rw [up_n (by omega)]; exact hC.2.1
        · rw [up_n (by omega)]; exact hC.2.2.1
        · rw [up_n (by omega)]; exact hC.2.2.2.1
        · rw [up_n (by omega)]; exact hC.2.2.2.2.1
        · rw [up_n (by omega)] at hk
          have hl := hC.2.2.2.2.2 k hk
          rw [up_n (i := 8 * k + 5) (by omega), up_n (i := 8 * k + 6) (by omega), up_n (i := 8 * k + 7) (by omega), up_n (i := 8 * k + 9) (by omega), up_n (i := 8 * k + 10) (by omega), up_n (i := 8 * k + 11) (by omega), up_n (i := 8 * k + 12) (by omega)]
          by_cases ek : k = j
          · subst ek
            rw [up_s]
            exact ⟨hl.1, hl.2.1, hl.2.2.1, pk_us, hl.2.2.2.2.1, hl.2.2.2.2.2.1, hl.2.2.2.2.2.2⟩
          · rw [up_n (i := 8 * k + 8) (by omega)]
            exact ⟨hl.1, hl.2.1, hl.2.2.1, (pk_un ek).trans (hl.2.2.2.1), hl.2.2.2.2.1, hl.2.2.2.2.2.1, hl.2.2.2.2.2.2⟩
      refine Or.inr ⟨nI (st (8 * j + 8)), upN st (8 * j + 8) v, _, good_n (by omega), hI', hC', ?_, fun u1 g1 g2 => ?_⟩
      · have hl := hC.2.2.2.2.2 j hj
        show fX0_putTold C (nI j) (nI v) = _
        unfold fX0_putTold
        rw [c_has_t hC h16 rfl hj, Option.bind_some, if_pos (by decide), e, Option.bind_some, if_pos (by decide), if_pos (k_in rfl (by omega) (by omega)), if_pos (k_in rfl (by omega) (by omega)), nI_clamp (by omega), hl.2.2.2.1]
      · obtain ⟨w, th, e1, e2⟩ := m_chg g1 g2 (x := ((8 : Int32) * nI j) + (8 : Int32)) (a := 8 * j + 8) (v := v) (m_ix j 8) rfl (by omega)
        refine ⟨w, th, ?_, e2⟩
        show fX5_tellThinning M (nI j) (nI v) = _
        unfold fX5_tellThinning
        rw [m_isLayer_t hM h16 rfl hj, Option.bind_some, if_pos (by decide), e', Option.bind_some, if_neg (by decide), e1, Option.bind_some]
    · have e : fX4_isBetween a2 10 1000 = some 0 := fX4_isBetween_f (a := 10) (b := 1000) h1
      have e' : fX5_in a2 10 1000 = some 0 := fX5_in_f (a := 10) (b := 1000) h1
      refine Or.inl ⟨-1000000002, err2, ?_, ?_⟩
      · show fX0_putTold C (nI j) a2 = _
        unfold fX0_putTold
        rw [c_has_t hC h16 rfl hj, Option.bind_some, if_pos (by decide), e, Option.bind_some, if_neg (fun z => z rfl)]
      · show fX5_tellThinning M (nI j) a2 = _
        unfold fX5_tellThinning
        rw [m_isLayer_t hM h16 rfl hj, Option.bind_some, if_pos (by decide), e', Option.bind_some, if_pos rfl]
  · refine Or.inl ⟨-1000000001, err1, ?_, ?_⟩
    · show fX0_putTold C a1 a2 = _
      unfold fX0_putTold
      rw [c_has_f hC h16 hx, Option.bind_some, if_neg (fun z => z rfl)]
    · show fX5_tellThinning M a1 a2 = _
      unfold fX5_tellThinning
      rw [m_isLayer_f hM h16 hx, Option.bind_some, if_neg (fun z => z rfl)]
theorem act_correct (a1 a2 : Int32) : Act (fun C => fX0_putCorrection C a1 a2) (fun M => fX5_correct M a1 a2) := by
  intro st C M hM hC hI
  have h16 := hI.1
  by_cases hx : ∃ k, k < st 0 ∧ a1 = nI k
  · obtain ⟨j, hj, rfl⟩ := hx
    obtain ⟨l5, l6, l7, l8, l9, l10, l11, l12⟩ := hI.2.2.2.2.2.1 j hj
    rcases k_range a2 (a := 200) (b := 5000) (by omega) (by omega) with ⟨v, h1, h2, rfl⟩ | ⟨h1, -⟩
    · have e : fX4_isBetween (nI v) 200 5000 = some 1 := fX4_isBetween_t (a := 200) (b := 5000) rfl h1 h2 (by omega)
      have e' : fX5_in (nI v) 200 5000 = some 1 := fX5_in_t (a := 200) (b := 5000) rfl h1 h2 (by omega)
      have hy := yrN_le hI (f := st 2) hI.2.2.2.1 hj
      have hI' : Inv (upN st (8 * j + 7) v) := by
        refine inv_lay hI (fun i hi => up_n (by omega)) (fun k => up_n (by omega)) (fun k hk0 => ?_)
        have hk := hI.2.2.2.2.2.1 k hk0
        unfold LayOk
        rw [up_n (i := 8 * k + 5) (by omega), up_n (i := 8 * k + 6) (by omega), up_n (i := 8 * k + 8) (by omega), up_n (i := 8 * k + 9) (by omega), up_n (i := 8 * k + 10) (by omega), up_n (i := 8 * k + 11) (by omega), up_n (i := 8 * k + 12) (by omega)]
        by_cases ek : k = j
        · subst ek
          rw [up_s]
          exact ⟨hk.1, hk.2.1, ⟨h1, h2⟩, hk.2.2.2.1, hk.2.2.2.2.1, hk.2.2.2.2.2.1, hk.2.2.2.2.2.2.1, hk.2.2.2.2.2.2.2⟩
        · rw [up_n (i := 8 * k + 7) (by omega)]
          exact hk
      have hC' : RC (upN st (8 * j + 7) v) (C.1, C.2.1, C.2.2.1, C.2.2.2.1, C.2.2.2.2.1, C.2.2.2.2.2.1, C.2.2.2.2.2.2.1, upd C.2.2.2.2.2.2.2.1 j (nI v), C.2.2.2.2.2.2.2.2.1, C.2.2.2.2.2.2.2.2.2.1, C.2.2.2.2.2.2.2.2.2.2.1, C.2.2.2.2.2.2.2.2.2.2.2) := by
        refine ⟨?_, ?_, ?_, ?_, ?_, fun k hk => ?_⟩
        · rw [up_n (by omega)]; exact hC.1
        · rw [up_n (by omega)]; exact hC.2.1
        · rw [up_n (by omega)]; exact hC.2.2.1
        · rw [up_n (by omega)]; exact hC.2.2.2.1
        · rw [up_n (by omega)]; exact hC.2.2.2.2.1
        · rw [up_n (by omega)] at hk
          have hl := hC.2.2.2.2.2 k hk
          rw [up_n (i := 8 * k + 5) (by omega), up_n (i := 8 * k + 6) (by omega), up_n (i := 8 * k + 8) (by omega), up_n (i := 8 * k + 9) (by omega), up_n (i := 8 * k + 10) (by omega), up_n (i := 8 * k + 11) (by omega), up_n (i := 8 * k + 12) (by omega)]
          by_cases ek : k = j
          · subst ek
            rw [up_s]
            exact ⟨hl.1, hl.2.1, pk_us, hl.2.2.2.1, hl.2.2.2.2.1, hl.2.2.2.2.2.1, hl.2.2.2.2.2.2⟩
          · rw [up_n (i := 8 * k + 7) (by omega)]
            exact ⟨hl.1, hl.2.1, (pk_un ek).trans (hl.2.2.1), hl.2.2.2.1, hl.2.2.2.2.1, hl.2.2.2.2.2.1, hl.2.2.2.2.2.2⟩
      refine Or.inr ⟨nI (st (8 * j + 7)), upN st (8 * j + 7) v, _, good_n (by omega), hI', hC', ?_, fun u1 g1 g2 => ?_⟩
      · have hl := hC.2.2.2.2.2 j hj
        show fX0_putCorrection C (nI j) (nI v) = _
        unfold fX0_putCorrection
        rw [c_has_t hC h16 rfl hj, Option.bind_some, if_pos (by decide), e, Option.bind_some, if_pos (by decide), if_pos (k_in rfl (by omega) (by omega)), if_pos (k_in rfl (by omega) (by omega)), nI_clamp (by omega), hl.2.2.1]
      · obtain ⟨w, th, e1, e2⟩ := m_chg g1 g2 (x := ((8 : Int32) * nI j) + (7 : Int32)) (a := 8 * j + 7) (v := v) (m_ix j 7) rfl (by omega)
        refine ⟨w, th, ?_, e2⟩
        show fX5_correct M (nI j) (nI v) = _
        unfold fX5_correct
        rw [m_isLayer_t hM h16 rfl hj, Option.bind_some, if_pos (by decide), e', Option.bind_some, if_neg (by decide), e1, Option.bind_some]
    · have e : fX4_isBetween a2 200 5000 = some 0 := fX4_isBetween_f (a := 200) (b := 5000) h1
      have e' : fX5_in a2 200 5000 = some 0 := fX5_in_f (a := 200) (b := 5000) h1
      refine Or.inl ⟨-1000000002, err2, ?_, ?_⟩
      · show fX0_putCorrection C (nI j) a2 = _
        unfold fX0_putCorrection
        rw [c_has_t hC h16 rfl hj, Option.bind_some, if_pos (by decide), e, Option.bind_some, if_neg (fun z => z rfl)]
      · show fX5_correct M (nI j) a2 = _
        unfold fX5_correct
        rw [m_isLayer_t hM h16 rfl hj, Option.bind_some, if_pos (by decide), e', Option.bind_some, if_pos rfl]
  · refine Or.inl ⟨-1000000001, err1, ?_, ?_⟩
    · show fX0_putCorrection C a1 a2 = _
      unfold fX0_putCorrection
      rw [c_has_f hC h16 hx, Option.bind_some, if_neg (fun z => z rfl)]
    · show fX5_correct M a1 a2 = _
      unfold fX5_correct
      rw [m_isLayer_f hM h16 hx, Option.bind_some, if_neg (fun z => z rfl)]
theorem yr_cnt {st : Nat → Nat} {f k n j v : Nat} : yrN (upN st (8 * j + 12) v) f k n = yrN st f k n := by
  have hT : ∀ n, topN (upN st (8 * j + 12) v) n = topN st n := topN_same (fun k => up_n (by omega))
  unfold yrN thinN thQ yN hN
  rw [hT, up_n (i := 1) (by omega), up_n (i := 8 * n + 5) (by omega), up_n (i := 8 * n + 6) (by omega), up_n (i := 8 * n + 7) (by omega), up_n (i := 8 * n + 8) (by omega)]
theorem act_setCount (a1 a2 : Int32) : Act (fun C => fX0_putCount C a1 a2) (fun M => fX5_setCount M a1 a2) := by
  intro st C M hM hC hI
  have h16 := hI.1
  by_cases hx : ∃ k, k < st 0 ∧ a1 = nI k
  · obtain ⟨j, hj, rfl⟩ := hx
    obtain ⟨l5, l6, l7, l8, l9, l10, l11, l12⟩ := hI.2.2.2.2.2.1 j hj
    rcases k_range a2 (a := 1) (b := 1000000) (by omega) (by omega) with ⟨v, h1, h2, rfl⟩ | ⟨h1, -⟩
    · have e : fX4_isBetween (nI v) 1 1000000 = some 1 := fX4_isBetween_t (a := 1) (b := 1000000) rfl h1 h2 (by omega)
      have e' : fX5_in (nI v) 1 1000000 = some 1 := fX5_in_t (a := 1) (b := 1000000) rfl h1 h2 (by omega)
      have hy := yrN_le hI (f := st 2) hI.2.2.2.1 hj
      have hI' : Inv (upN st (8 * j + 12) v) := by
        refine inv_lay hI (fun i hi => up_n (by omega)) (fun k => up_n (by omega)) (fun k hk0 => ?_)
        have hk := hI.2.2.2.2.2.1 k hk0
        unfold LayOk
        rw [up_n (i := 8 * k + 5) (by omega), up_n (i := 8 * k + 6) (by omega), up_n (i := 8 * k + 7) (by omega), up_n (i := 8 * k + 8) (by omega), up_n (i := 8 * k + 9) (by omega), up_n (i := 8 * k + 10) (by omega), up_n (i := 8 * k + 11) (by omega)]
        by_cases ek : k = j
        · subst ek
          rw [up_s]
          exact ⟨hk.1, hk.2.1, hk.2.2.1, hk.2.2.2.1, hk.2.2.2.2.1, hk.2.2.2.2.2.1, hk.2.2.2.2.2.2.1, h2⟩
        · rw [up_n (i := 8 * k + 12) (by omega)]
          exact hk
      have hC' : RC (upN st (8 * j + 12) v) (C.1, C.2.1, C.2.2.1, C.2.2.2.1, C.2.2.2.2.1, C.2.2.2.2.2.1, C.2.2.2.2.2.2.1, C.2.2.2.2.2.2.2.1, C.2.2.2.2.2.2.2.2.1, C.2.2.2.2.2.2.2.2.2.1, C.2.2.2.2.2.2.2.2.2.2.1, upd C.2.2.2.2.2.2.2.2.2.2.2 j (nI v)) := by
        refine ⟨?_, ?_, ?_, ?_, ?_, fun k hk => ?_⟩
        · rw [up_n (by omega)]; exact hC.1
        · rw [up_n (by omega)]; exact hC.2.1
        · rw [up_n (by omega)]; exact hC.2.2.1
        · rw [up_n (by omega)]; exact hC.2.2.2.1
        · rw [up_n (by omega)]; exact hC.2.2.2.2.1
        · rw [up_n (by omega)] at hk
          have hl := hC.2.2.2.2.2 k hk
          rw [up_n (i := 8 * k + 5) (by omega), up_n (i := 8 * k + 6) (by omega), up_n (i := 8 * k + 7) (by omega), up_n (i := 8 * k + 8) (by omega), up_n (i := 8 * k + 9) (by omega), up_n (i := 8 * k + 10) (by omega), up_n (i := 8 * k + 11) (by omega)]
          by_cases ek : k = j
          · subst ek
            rw [up_s]
            exact ⟨hl.1, hl.2.1, hl.2.2.1, hl.2.2.2.1, hl.2.2.2.2.1, hl.2.2.2.2.2.1, pk_us⟩
          · rw [up_n (i := 8 * k + 12) (by omega)]
            exact ⟨hl.1, hl.2.1, hl.2.2.1, hl.2.2.2.1, hl.2.2.2.2.1, hl.2.2.2.2.2.1, (pk_un ek).trans (hl.2.2.2.2.2.2)⟩
      refine Or.inr ⟨nI (yrN st (st 2) (st 3) j) - nI v, upN st (8 * j + 12) v, _, good_s (by omega) (by omega), hI', hC', ?_, fun u1 g1 g2 => ?_⟩
      · show fX0_putCount C (nI j) (nI v) = _
        unfold fX0_putCount
        have g := c_countErrorOf hC' hI' (x := nI j) (k := j) rfl (by rw [up_n (by omega)]; exact hj)
        rw [up_s, up_n (by omega), up_n (by omega)] at g
        rw [c_has_t hC h16 rfl hj, Option.bind_some, if_pos (by decide), e, Option.bind_some, if_pos (by decide), if_pos (k_in rfl (by omega) (by omega)), nI_clamp (by omega), g, Option.bind_some, yr_cnt]
      · have g3 : RM (upN st (8 * j + 12) v) (mSet u1 (upd u1.2.2.2.2.2.2.1 (8 * j + 12) (nI v))) := rm_upd g2
        refine ⟨upd u1.2.2.2.2.2.2.1 (8 * j + 12) (nI v), u1.2.2.2.2.2.2.2.2.1, ?_, g3⟩
        have g := m_yearsOf g3 hI' (x := nI j) (n := j) rfl (by rw [up_n (by omega)]; exact hj)
        rw [up_n (by omega), up_n (by omega), yr_cnt] at g
        have eix : ((8 : Int32) * nI j) + (12 : Int32) = nI (8 * j + 12) := m_ix j 12
        show fX5_setCount M (nI j) (nI v) = _
        unfold fX5_setCount
        rw [m_isLayer_t hM h16 rfl hj, Option.bind_some, if_pos (by decide), e', Option.bind_some, if_pos (by decide), g1, Option.bind_some, eix, if_pos (k_in rfl (by omega) (by omega)), nI_clamp (by omega)]
        show (fX5_yearsOf (mSet u1 (upd u1.2.2.2.2.2.2.1 (8 * j + 12) (nI v))) (nI j)).bind _ = _
        rw [g, Option.bind_some]
        rfl
    · have e : fX4_isBetween a2 1 1000000 = some 0 := fX4_isBetween_f (a := 1) (b := 1000000) h1
      have e' : fX5_in a2 1 1000000 = some 0 := fX5_in_f (a := 1) (b := 1000000) h1
      refine Or.inl ⟨-1000000002, err2, ?_, ?_⟩
      · show fX0_putCount C (nI j) a2 = _
        unfold fX0_putCount
        rw [c_has_t hC h16 rfl hj, Option.bind_some, if_pos (by decide), e, Option.bind_some, if_neg (fun z => z rfl)]
      · show fX5_setCount M (nI j) a2 = _
        unfold fX5_setCount
        rw [m_isLayer_t hM h16 rfl hj, Option.bind_some, if_pos (by decide), e', Option.bind_some, if_neg (fun z => z rfl)]
  · refine Or.inl ⟨-1000000001, err1, ?_, ?_⟩
    · show fX0_putCount C a1 a2 = _
      unfold fX0_putCount
      rw [c_has_f hC h16 hx, Option.bind_some, if_neg (fun z => z rfl)]
    · show fX5_setCount M a1 a2 = _
      unfold fX5_setCount
      rw [m_isLayer_f hM h16 hx, Option.bind_some, if_neg (fun z => z rfl)]
