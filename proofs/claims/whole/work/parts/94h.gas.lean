/-! ===== PURE: the least depth of a gas age ===== -/
theorem c_max1 {v : Nat} (hv : v < 2 ^ 31) : (if (1 : Int32) < nI v then nI v else (1 : Int32)) = nI (if v ≤ 1 then 1 else v) := by
  by_cases h : v ≤ 1
  · rw [if_pos h, if_neg (by rw [show (1 : Int32) = nI 1 from rfl, k_lt (by omega) (by omega)]; omega)]
    rfl
  · rw [if_neg h, if_pos (by rw [show (1 : Int32) = nI 1 from rfl, k_lt (by omega) (by omega)]; omega)]
theorem hr_gasDepthOf : hop_gasDepthOf RR := by
  intro X M C F H T S hR a1
  refine RR_read hR (fun st hM hC hI => ?_)
  have h16 := hI.1
  rcases k_of a1 with hn | ⟨a, ha, rfl⟩
  · have hn' : ¬ (0 : Int32) ≤ a1 := by
      rw [Int32.lt_iff_toInt_lt] at hn
      rw [Int32.le_iff_toInt_le]
      omega
    refine ⟨-1000000002, ?_, ?_⟩
    · unfold fX4_gasDepthOf
      rw [if_neg hn']
    · unfold fX5_gasDepthOf
      rw [if_neg hn']
  · have hge : (0 : Int32) ≤ nI a := nI_pos' ha
    by_cases ha0 : a = 0
    · subst ha0
      by_cases h0 : st 0 = 0
      · refine ⟨-1000000005, ?_, ?_⟩
        · unfold fX4_gasDepthOf fX0_leastGasDepthOf
          rw [if_pos hge, if_neg (fun z => z nI_0), hC.1, h0, if_neg (fun z => z nI_0), Option.bind_some]
        · unfold fX5_gasDepthOf
          rw [if_pos hge, show (1 : Int32) = gI true from rfl, m_leastDepth0 (g := true) hM hI ha (fun j hj => absurd hj (by omega)), Option.bind_some]
      · refine ⟨nI 0, ?_, ?_⟩
        · unfold fX4_gasDepthOf fX0_leastGasDepthOf
          rw [if_pos hge, if_neg (fun z => z nI_0), hC.1, if_pos (nI_ne0 (by omega) (by omega)), Option.bind_some]
          rfl
        · unfold fX5_gasDepthOf
          rw [if_pos hge, show (1 : Int32) = gI true from rfl, m_leastDepth (g := true) (k := 0) (o := 0) hM hI ha (by omega) (fun j hj => absurd hj (by omega)) (Nat.le_refl 0) (by omega) (fun p _ hp => absurd hp (by omega)) (Nat.zero_le _), Option.bind_some]
          rfl
    · have hne : ¬ nI a = 0 := nI_ne0 (by omega) ha
      -- a layer's condition, as the class asks it
      have cond : ∀ j, j < st 0 → (a ≤ ageN st (st 2) (st 3) (j + 1) - delN st j ↔ a + delN st j ≤ ageN st (st 2) (st 3) j + yrN st (st 2) (st 3) j) := by
        intro j hj
        have : ageN st (st 2) (st 3) (j + 1) = ageN st (st 2) (st 3) j + yrN st (st 2) (st 3) j := rfl
        omega
      have cmp : ∀ j, j < st 0 → (((lN (yrN st (st 2) (st 3) j)) < (lN a + lN (delN st j)) - lN (ageN st (st 2) (st 3) j)) ↔ ¬ a ≤ ageN st (st 2) (st 3) (j + 1) - delN st j) := by
        intro j hj
        have q2 := ageN_le hI (f := st 2) hI.2.2.2.1 j (by omega)
        have q3 := yrN_le hI (f := st 2) hI.2.2.2.1 (n := j) hj
        have q5 := delN_le hI hj
        rw [cond j hj, lN_add, Int64.lt_iff_toInt_lt, k_subL_toInt (by omega) (by omega), pk_lT (by omega)]
        omega
      have step : ∀ (j : Nat) (nx : Int32 × Int64 × Int32 → Option Int32), j < st 0 → (¬ a ≤ ageN st (st 2) (st 3) (j + 1) - delN st j) → fX0_leastGasDepthOf_c25 C (nI a) (nI (topN st j)) (lN (ageN st (st 2) (st 3) j)) (nI j) nx = nx (nI (topN st (j + 1)), lN (ageN st (st 2) (st 3) (j + 1)), nI (j + 1)) := by
        intro j nx hj hlt
        have q3 := yrN_le hI (f := st 2) hI.2.2.2.1 (n := j) hj
        have q5 := delN_le hI hj
        unfold fX0_leastGasDepthOf_c25
        rw [hC.1, if_neg (by rw [k_le (by omega) (by omega)]; omega), c_years hC hI rfl hj, Option.bind_some, c_delayOf hC hI rfl hj, Option.bind_some, nI_l (n := yrN st (st 2) (st 3) j) (by omega), nI_l ha, nI_l (n := delN st j) (by omega), if_pos ((cmp j hj).mpr hlt), if_pos (k_in rfl (by omega) (by omega)), nI_clamp (by omega), (hC.2.2.2.2.2 j hj).1, nI_add, nI_1, lN_add]
        rfl
      rcases least_or (P := fun k => a ≤ ageN st (st 2) (st 3) (k + 1) - delN st k) (st 0) with ⟨k, hk, hy, hl⟩ | hl
      · have q2 := ageN_le hI (f := st 2) hI.2.2.2.1 k (by omega)
        have q3 := yrN_le hI (f := st 2) hI.2.2.2.1 (n := k) hk
        have q4 := (hI.2.2.2.2.2.1 k hk).1
        have q5 := delN_le hI hk
        have hy' := (cond k hk).mp hy
        -- the offset
        obtain ⟨o, ho⟩ : ∃ o, o = (if (if a + delN st k ≤ ageN st (st 2) (st 3) k then 0 else ceilN (a + delN st k - ageN st (st 2) (st 3) k) (st (8 * k + 5)) (yrN st (st 2) (st 3) k)) ≤ 1 then 1 else (if a + delN st k ≤ ageN st (st 2) (st 3) k then 0 else ceilN (a + delN st k - ageN st (st 2) (st 3) k) (st (8 * k + 5)) (yrN st (st 2) (st 3) k))) := ⟨_, rfl⟩
        have hold : ∀ p, OldAt st true a k p ↔ a + delN st k ≤ ageN st (st 2) (st 3) k + yrN st (st 2) (st 3) k * p / st (8 * k + 5) := by
          intro p
          unfold OldAt dlN
          simp only [if_true]
          omega
        have hprop : 1 ≤ o ∧ o ≤ st (8 * k + 5) ∧ OldAt st true a k o ∧ ∀ p, 1 ≤ p → p < o → ¬ OldAt st true a k p := by
          by_cases hc : a + delN st k ≤ ageN st (st 2) (st 3) k
          · have e1 : o = 1 := by rw [ho, if_pos hc, if_pos (by omega)]
            rw [e1]
            refine ⟨Nat.le_refl 1, by omega, (hold 1).mpr (Nat.le_trans hc (Nat.le_add_right _ _)), fun p h1 h2 => absurd h2 (by omega)⟩
          · have hy0 : 0 < yrN st (st 2) (st 3) k := by omega
            have hci := fun o => ceil_iff (o := o) (nd := a + delN st k - ageN st (st 2) (st 3) k) (th := st (8 * k + 5)) hy0 (by omega) (by omega)
            have hcp := ceil_pos (nd := a + delN st k - ageN st (st 2) (st 3) k) (th := st (8 * k + 5)) hy0 (by omega) (by omega)
            have e1 : o = ceilN (a + delN st k - ageN st (st 2) (st 3) k) (st (8 * k + 5)) (yrN st (st 2) (st 3) k) := by
              rw [ho, if_neg hc]
              split <;> omega
            rw [e1]
            refine ⟨hcp, (hci _).mpr ?_, (hold _).mpr ?_, fun p h1 h2 hp => ?_⟩
            · rw [Nat.mul_div_cancel _ (by omega)]
              omega
            · have := (hci _).mp (Nat.le_refl _)
              omega
            · have h3 := (hold p).mp hp
              have := (hci p).mpr (by omega)
              omega
        refine ⟨nI (topN st k + o), ?_, ?_⟩
        · have e : fX0_leastGasDepthOf C (nI a) = some (nI (topN st k + o)) := by
            unfold fX0_leastGasDepthOf
            rw [if_pos hne]
            refine kLoop_to (fun j => (nI (topN st j), lN (ageN st (st 2) (st 3) j), nI j)) k rfl (fun j hj nx => step j nx (by omega) (hl j hj)) (fun nx => ?_) (by rw [kFu_eq]; omega)
            show fX0_leastGasDepthOf_c25 C (nI a) (nI (topN st k)) (lN (ageN st (st 2) (st 3) k)) (nI k) nx = _
            unfold fX0_leastGasDepthOf_c25
            have hcl : ceilN (a + delN st k - ageN st (st 2) (st 3) k) (st (8 * k + 5)) (yrN st (st 2) (st 3) k) < 2 ^ 31 ∨ a + delN st k ≤ ageN st (st 2) (st 3) k := by
              by_cases hc : a + delN st k ≤ ageN st (st 2) (st 3) k
              · exact Or.inr hc
              · have := (ceil_iff (o := st (8 * k + 5)) (nd := a + delN st k - ageN st (st 2) (st 3) k) (th := st (8 * k + 5)) (yr := yrN st (st 2) (st 3) k) (by omega) (by omega) (by omega)).mpr (by rw [Nat.mul_div_cancel _ (by omega)]; omega)
                exact Or.inl (by omega)
            rw [hC.1, if_neg (by rw [k_le (by omega) (by omega)]; omega), c_years hC hI rfl hk, Option.bind_some, c_delayOf hC hI rfl hk, Option.bind_some, nI_l (n := yrN st (st 2) (st 3) k) (by omega), nI_l ha, nI_l (n := delN st k) (by omega), if_neg (fun z => (cmp k hk).mp z hy), if_pos (k_in rfl (by omega) (by omega)), nI_clamp (by omega), (hC.2.2.2.2.2 k hk).1, lN_add, c_steps (by omega) (by omega) (by omega) q4.2 (by omega), Option.bind_some, c_max1 (by split <;> omega), nI_add, ← ho]
          unfold fX4_gasDepthOf
          rw [if_pos hge, e, Option.bind_some]
        · unfold fX5_gasDepthOf
          rw [if_pos hge, show (1 : Int32) = gI true from rfl, m_leastDepth (g := true) (k := k) (o := o) hM hI ha hk (fun j hj => ?_) (by split <;> omega) hprop.2.1 (fun p hp0 hp1 hp => ?_) hprop.2.2.1, Option.bind_some]
          · have := hl j hj
            unfold dlN
            simp only [if_true]
            exact this
          · by_cases hp2 : 1 ≤ p
            · exact hprop.2.2.2 p hp2 hp1 hp
            · have hk0 : k = 0 := by
                by_cases hk0 : k = 0
                · exact hk0
                · rw [if_neg hk0] at hp0
                  omega
              subst hk0
              have hp3 : p = 0 := by omega
              subst hp3
              have := (hold 0).mp hp
              rw [Nat.mul_zero, Nat.zero_div] at this
              have h0 : ageN st (st 2) (st 3) 0 = 0 := rfl
              omega
      · refine ⟨-1000000005, ?_, ?_⟩
        · have e : fX0_leastGasDepthOf C (nI a) = some (-1000000005) := by
            unfold fX0_leastGasDepthOf
            rw [if_pos hne]
            refine kLoop_to (fun j => (nI (topN st j), lN (ageN st (st 2) (st 3) j), nI j)) (st 0) rfl (fun j hj nx => step j nx hj (hl j hj)) (fun nx => ?_) (by rw [kFu_eq]; omega)
            show fX0_leastGasDepthOf_c25 C (nI a) (nI (topN st (st 0))) (lN (ageN st (st 2) (st 3) (st 0))) (nI (st 0)) nx = _
            unfold fX0_leastGasDepthOf_c25
            rw [hC.1, if_pos (by rw [k_le (by omega) (by omega)]; omega)]
          unfold fX4_gasDepthOf
          rw [if_pos hge, e, Option.bind_some]
        · unfold fX5_gasDepthOf
          rw [if_pos hge, show (1 : Int32) = gI true from rfl, m_leastDepth0 (g := true) hM hI ha (fun j hj => ?_), Option.bind_some]
          have := hl j hj
          unfold dlN
          simp only [if_true]
          exact this
