/-! ===== PURE: the ashes ===== -/
def asN (st : Nat → Nat) (j v t : Nat) : Nat → Nat := upN (upN (upN st (8 * j + 9) 1) (8 * j + 10) v) (8 * j + 11) t
theorem as_o {st : Nat → Nat} {j v t i : Nat} (h1 : i ≠ 8 * j + 9) (h2 : i ≠ 8 * j + 10) (h3 : i ≠ 8 * j + 11) : asN st j v t i = st i := by
  unfold asN
  rw [up_n h3, up_n h2, up_n h1]
theorem as_9 (st : Nat → Nat) (j v t : Nat) : asN st j v t (8 * j + 9) = 1 := by
  unfold asN
  rw [up_n (by omega), up_n (by omega), up_s]
theorem as_10 (st : Nat → Nat) (j v t : Nat) : asN st j v t (8 * j + 10) = v := by
  unfold asN
  rw [up_n (by omega), up_s]
theorem as_11 (st : Nat → Nat) (j v t : Nat) : asN st j v t (8 * j + 11) = t := up_s _ _ _
theorem act_setAsh (a1 a2 a3 : Int32) : Act (fun C => fX0_putAsh C a1 a2 a3) (fun M => fX5_setAsh M a1 a2 a3) := by
  intro st C M hM hC hI
  have h16 := hI.1
  by_cases hx : ∃ k, k < st 0 ∧ a1 = nI k
  · obtain ⟨j, hj, rfl⟩ := hx
    rcases k_range a2 (a := 0) (b := 100000000) (by omega) (by omega) with ⟨v, -, h2, rfl⟩ | ⟨h1, -⟩
    · have e : fX4_isBetween (nI v) 0 100000000 = some 1 := fX4_isBetween_t (a := 0) (b := 100000000) rfl (by omega) h2 (by omega)
      have e' : fX5_in (nI v) 0 100000000 = some 1 := fX5_in_t (a := 0) (b := 100000000) rfl (by omega) h2 (by omega)
      rcases k_range a3 (a := 0) (b := 10000) (by omega) (by omega) with ⟨t, -, h3, rfl⟩ | ⟨h1, -⟩
      · have d : fX4_isBetween (nI t) 0 10000 = some 1 := fX4_isBetween_t (a := 0) (b := 10000) rfl (by omega) h3 (by omega)
        have d' : fX5_in (nI t) 0 10000 = some 1 := fX5_in_t (a := 0) (b := 10000) rfl (by omega) h3 (by omega)
        have hI' : Inv (asN st j v t) := by
          refine inv_lay hI (fun i hi => as_o (by omega) (by omega) (by omega)) (fun k => as_o (by omega) (by omega) (by omega)) (fun k hk0 => ?_)
          have hk := hI.2.2.2.2.2.1 k hk0
          unfold LayOk
          rw [as_o (i := 8 * k + 5) (by omega) (by omega) (by omega), as_o (i := 8 * k + 6) (by omega) (by omega) (by omega), as_o (i := 8 * k + 7) (by omega) (by omega) (by omega), as_o (i := 8 * k + 8) (by omega) (by omega) (by omega), as_o (i := 8 * k + 12) (by omega) (by omega) (by omega)]
          by_cases ek : k = j
          · subst ek
            rw [as_9, as_10, as_11]
            exact ⟨hk.1, hk.2.1, hk.2.2.1, hk.2.2.2.1, Nat.le_refl _, h2, h3, hk.2.2.2.2.2.2.2⟩
          · rw [as_o (i := 8 * k + 9) (by omega) (by omega) (by omega), as_o (i := 8 * k + 10) (by omega) (by omega) (by omega), as_o (i := 8 * k + 11) (by omega) (by omega) (by omega)]
            exact hk
        have hC' : RC (asN st j v t) (C.1, C.2.1, C.2.2.1, C.2.2.2.1, C.2.2.2.2.1, C.2.2.2.2.2.1, C.2.2.2.2.2.2.1, C.2.2.2.2.2.2.2.1, C.2.2.2.2.2.2.2.2.1, upd C.2.2.2.2.2.2.2.2.2.1 j (nI v), upd C.2.2.2.2.2.2.2.2.2.2.1 j (nI t), C.2.2.2.2.2.2.2.2.2.2.2) := by
          refine ⟨?_, ?_, ?_, ?_, ?_, fun k hk => ?_⟩
          · rw [as_o (i := 0) (by omega) (by omega) (by omega)]; exact hC.1
          · rw [as_o (i := 1) (by omega) (by omega) (by omega)]; exact hC.2.1
          · rw [as_o (i := 2) (by omega) (by omega) (by omega)]; exact hC.2.2.1
          · rw [as_o (i := 3) (by omega) (by omega) (by omega)]; exact hC.2.2.2.1
          · rw [as_o (i := 4) (by omega) (by omega) (by omega)]; exact hC.2.2.2.2.1
          · rw [as_o (i := 0) (by omega) (by omega) (by omega)] at hk
            have hl := hC.2.2.2.2.2 k hk
            rw [as_o (i := 8 * k + 5) (by omega) (by omega) (by omega), as_o (i := 8 * k + 6) (by omega) (by omega) (by omega), as_o (i := 8 * k + 7) (by omega) (by omega) (by omega), as_o (i := 8 * k + 8) (by omega) (by omega) (by omega), as_o (i := 8 * k + 12) (by omega) (by omega) (by omega)]
            by_cases ek : k = j
            · subst ek
              rw [as_9, as_10, as_11, if_pos rfl]
              exact ⟨hl.1, hl.2.1, hl.2.2.1, hl.2.2.2.1, pk_us, fun _ => pk_us, hl.2.2.2.2.2.2⟩
            · rw [as_o (i := 8 * k + 9) (by omega) (by omega) (by omega), as_o (i := 8 * k + 10) (by omega) (by omega) (by omega), as_o (i := 8 * k + 11) (by omega) (by omega) (by omega)]
              exact ⟨hl.1, hl.2.1, hl.2.2.1, hl.2.2.2.1, (pk_un ek).trans hl.2.2.2.2.1, fun z => (pk_un ek).trans (hl.2.2.2.2.2.1 z), hl.2.2.2.2.2.2⟩
        have hal := ashN_le hI' _ (Nat.le_refl _)
        have hi0 := hI'.1
        refine Or.inr ⟨nI (ashN (asN st j v t) (asN st j v t 0)), asN st j v t, _, good_n (by omega), hI', hC', ?_, fun u1 g1 g2 => ?_⟩
        · show fX0_putAsh C (nI j) (nI v) (nI t) = _
          unfold fX0_putAsh
          rw [c_has_t hC h16 rfl hj, Option.bind_some, if_pos (by decide), e, Option.bind_some, if_neg (by decide), d, Option.bind_some, if_pos (by decide), if_pos (k_in rfl (by omega) (by omega)), if_pos (k_in rfl (by omega) (by omega)), nI_clamp (by omega), c_ashBeds hC' hI', Option.bind_some]
        · have g3 : RM (asN st j v t) (mSet u1 (upd (upd (upd u1.2.2.2.2.2.2.1 (8 * j + 9) (nI 1)) (8 * j + 10) (nI v)) (8 * j + 11) (nI t))) := rm_upd (rm_upd (rm_upd g2))
          refine ⟨upd (upd (upd u1.2.2.2.2.2.2.1 (8 * j + 9) (nI 1)) (8 * j + 10) (nI v)) (8 * j + 11) (nI t), u1.2.2.2.2.2.2.2.2.1, ?_, g3⟩
          have g := m_ashes g3 hI'
          have e9 : ((8 : Int32) * nI j) + (9 : Int32) = nI (8 * j + 9) := m_ix j 9
          have e10 : ((8 : Int32) * nI j) + (10 : Int32) = nI (8 * j + 10) := m_ix j 10
          have e11 : ((8 : Int32) * nI j) + (11 : Int32) = nI (8 * j + 11) := m_ix j 11
          show fX5_setAsh M (nI j) (nI v) (nI t) = _
          unfold fX5_setAsh
          rw [m_isLayer_t hM h16 rfl hj, Option.bind_some, if_pos (by decide), e', Option.bind_some, if_neg (by decide), d', Option.bind_some, if_pos (by decide), g1, Option.bind_some, e9, e10, e11, if_pos (k_in rfl (by omega) (by omega)), if_pos (k_in rfl (by omega) (by omega)), if_pos (k_in rfl (by omega) (by omega)), nI_clamp (by omega), nI_clamp (by omega), nI_clamp (by omega)]
          show (fX5_ashes (mSet u1 (upd (upd (upd u1.2.2.2.2.2.2.1 (8 * j + 9) (nI 1)) (8 * j + 10) (nI v)) (8 * j + 11) (nI t)))).bind _ = _
          rw [g, Option.bind_some]
          rfl
      · have d : fX4_isBetween a3 0 10000 = some 0 := fX4_isBetween_f (a := 0) (b := 10000) h1
        have d' : fX5_in a3 0 10000 = some 0 := fX5_in_f (a := 0) (b := 10000) h1
        refine Or.inl ⟨-1000000002, err2, ?_, ?_⟩
        · show fX0_putAsh C (nI j) (nI v) a3 = _
          unfold fX0_putAsh
          rw [c_has_t hC h16 rfl hj, Option.bind_some, if_pos (by decide), e, Option.bind_some, if_neg (by decide), d, Option.bind_some, if_neg (fun z => z rfl)]
        · show fX5_setAsh M (nI j) (nI v) a3 = _
          unfold fX5_setAsh
          rw [m_isLayer_t hM h16 rfl hj, Option.bind_some, if_pos (by decide), e', Option.bind_some, if_neg (by decide), d', Option.bind_some, if_neg (fun z => z rfl)]
    · have e : fX4_isBetween a2 0 100000000 = some 0 := fX4_isBetween_f (a := 0) (b := 100000000) h1
      have e' : fX5_in a2 0 100000000 = some 0 := fX5_in_f (a := 0) (b := 100000000) h1
      refine Or.inl ⟨-1000000002, err2, ?_, ?_⟩
      · show fX0_putAsh C (nI j) a2 a3 = _
        unfold fX0_putAsh
        rw [c_has_t hC h16 rfl hj, Option.bind_some, if_pos (by decide), e, Option.bind_some, if_pos rfl]
      · show fX5_setAsh M (nI j) a2 a3 = _
        unfold fX5_setAsh
        rw [m_isLayer_t hM h16 rfl hj, Option.bind_some, if_pos (by decide), e', Option.bind_some, if_pos rfl]
  · refine Or.inl ⟨-1000000001, err1, ?_, ?_⟩
    · show fX0_putAsh C a1 a2 a3 = _
      unfold fX0_putAsh
      rw [c_has_f hC h16 hx, Option.bind_some, if_neg (fun z => z rfl)]
    · show fX5_setAsh M a1 a2 a3 = _
      unfold fX5_setAsh
      rw [m_isLayer_f hM h16 hx, Option.bind_some, if_neg (fun z => z rfl)]
theorem act_removeAsh (a1 : Int32) : Act (fun C => fX0_dropAsh C a1) (fun M => fX5_removeAsh M a1) := by
  intro st C M hM hC hI
  have h16 := hI.1
  by_cases hx : ∃ k, k < st 0 ∧ a1 = nI k
  · obtain ⟨j, hj, rfl⟩ := hx
    have h9 := (hI.2.2.2.2.2.1 j hj).2.2.2.2.1
    by_cases h1 : st (8 * j + 9) = 0
    · refine Or.inl ⟨-1000000003, err3, ?_, ?_⟩
      · show fX0_dropAsh C (nI j) = _
        unfold fX0_dropAsh
        rw [c_has_t hC h16 rfl hj, Option.bind_some, if_pos (by decide), c_hasAsh hC hI rfl hj, Option.bind_some, h1, if_neg (fun z => z rfl)]
      · show fX5_removeAsh M (nI j) = _
        unfold fX5_removeAsh
        rw [m_isLayer_t hM h16 rfl hj, Option.bind_some, if_pos (by decide), m_of9 hM (by omega), Option.bind_some, h1, if_neg (fun z => z rfl)]
    · have hI' : Inv (upN st (8 * j + 9) 0) := by
        refine inv_lay hI (fun i hi => up_n (by omega)) (fun k => up_n (by omega)) (fun k hk0 => ?_)
        have hk := hI.2.2.2.2.2.1 k hk0
        unfold LayOk
        rw [up_n (i := 8 * k + 5) (by omega), up_n (i := 8 * k + 6) (by omega), up_n (i := 8 * k + 7) (by omega), up_n (i := 8 * k + 8) (by omega), up_n (i := 8 * k + 10) (by omega), up_n (i := 8 * k + 11) (by omega), up_n (i := 8 * k + 12) (by omega)]
        by_cases ek : k = j
        · subst ek
          rw [up_s]
          exact ⟨hk.1, hk.2.1, hk.2.2.1, hk.2.2.2.1, by omega, hk.2.2.2.2.2⟩
        · rw [up_n (i := 8 * k + 9) (by omega)]
          exact hk
      have hC' : RC (upN st (8 * j + 9) 0) (C.1, C.2.1, C.2.2.1, C.2.2.2.1, C.2.2.2.2.1, C.2.2.2.2.2.1, C.2.2.2.2.2.2.1, C.2.2.2.2.2.2.2.1, C.2.2.2.2.2.2.2.2.1, upd C.2.2.2.2.2.2.2.2.2.1 j (-1), C.2.2.2.2.2.2.2.2.2.2) := by
        refine ⟨?_, ?_, ?_, ?_, ?_, fun k hk => ?_⟩
        · rw [up_n (by omega)]; exact hC.1
        · rw [up_n (by omega)]; exact hC.2.1
        · rw [up_n (by omega)]; exact hC.2.2.1
        · rw [up_n (by omega)]; exact hC.2.2.2.1
        · rw [up_n (by omega)]; exact hC.2.2.2.2.1
        · rw [up_n (by omega)] at hk
          have hl := hC.2.2.2.2.2 k hk
          rw [up_n (i := 8 * k + 5) (by omega), up_n (i := 8 * k + 6) (by omega), up_n (i := 8 * k + 7) (by omega), up_n (i := 8 * k + 8) (by omega), up_n (i := 8 * k + 10) (by omega), up_n (i := 8 * k + 11) (by omega), up_n (i := 8 * k + 12) (by omega)]
          by_cases ek : k = j
          · subst ek
            rw [up_s, if_neg (by omega)]
            exact ⟨hl.1, hl.2.1, hl.2.2.1, hl.2.2.2.1, pk_us, fun z => absurd z (by omega), hl.2.2.2.2.2.2⟩
          · rw [up_n (i := 8 * k + 9) (by omega)]
            exact ⟨hl.1, hl.2.1, hl.2.2.1, hl.2.2.2.1, (pk_un ek).trans hl.2.2.2.2.1, hl.2.2.2.2.2.1, hl.2.2.2.2.2.2⟩
      have hal := ashN_le hI' _ (Nat.le_refl _)
      have hi0 := hI'.1
      refine Or.inr ⟨nI (ashN (upN st (8 * j + 9) 0) (upN st (8 * j + 9) 0 0)), upN st (8 * j + 9) 0, _, good_n (by omega), hI', hC', ?_, fun u1 g1 g2 => ?_⟩
      · show fX0_dropAsh C (nI j) = _
        unfold fX0_dropAsh
        rw [c_has_t hC h16 rfl hj, Option.bind_some, if_pos (by decide), c_hasAsh hC hI rfl hj, Option.bind_some, if_pos (nI_ne0 (by omega) (by omega)), if_pos (k_in rfl (by omega) (by omega)), nI_clamp (by omega), c_ashBeds hC' hI', Option.bind_some]
      · have g3 : RM (upN st (8 * j + 9) 0) (mSet u1 (upd u1.2.2.2.2.2.2.1 (8 * j + 9) (nI 0))) := rm_upd g2
        refine ⟨upd u1.2.2.2.2.2.2.1 (8 * j + 9) (nI 0), u1.2.2.2.2.2.2.2.2.1, ?_, g3⟩
        have g := m_ashes g3 hI'
        have e9 : ((8 : Int32) * nI j) + (9 : Int32) = nI (8 * j + 9) := m_ix j 9
        show fX5_removeAsh M (nI j) = _
        unfold fX5_removeAsh
        rw [m_isLayer_t hM h16 rfl hj, Option.bind_some, if_pos (by decide), m_of9 hM (by omega), Option.bind_some, if_pos (nI_ne0 (by omega) (by omega)), g1, Option.bind_some, e9, if_pos (k_in rfl (by omega) (by omega)), nI_clamp (by omega)]
        show (fX5_ashes (mSet u1 (upd u1.2.2.2.2.2.2.1 (8 * j + 9) (nI 0)))).bind _ = _
        rw [g, Option.bind_some]
        rfl
  · refine Or.inl ⟨-1000000001, err1, ?_, ?_⟩
    · show fX0_dropAsh C a1 = _
      unfold fX0_dropAsh
      rw [c_has_f hC h16 hx, Option.bind_some, if_neg (fun z => z rfl)]
    · show fX5_removeAsh M a1 = _
      unfold fX5_removeAsh
      rw [m_isLayer_f hM h16 hx, Option.bind_some, if_neg (fun z => z rfl)]
