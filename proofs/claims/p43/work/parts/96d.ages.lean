/-! ===== PURE: the law's areAges ===== -/
theorem ne_none {n : Nat} (h : n < 2 ^ 31) : ¬ nI n = (-1000000005 : Int32) := by
  intro e
  have := congrArg Int32.toInt e
  rw [nI_toInt h, show (-1000000005 : Int32).toInt = -1000000005 from rfl] at this
  omega
theorem ne_noneS {a b : Nat} (ha : a < 2 ^ 29) (hb : b < 2 ^ 29) : ¬ nI a - nI b = (-1000000005 : Int32) := by
  intro e
  have := congrArg Int32.toInt e
  rw [pk_sub_toInt (by omega) (by omega), show (-1000000005 : Int32).toInt = -1000000005 from rfl] at this
  omega
theorem fit_ash {st : Nat → Nat} : ∀ j, fitN st j ≤ ashN st j
  | 0 => Nat.le_refl _
  | j + 1 => by
    have h := fit_ash (st := st) j
    unfold fitN ashN
    by_cases h1 : st (8 * j + 9) = 1
    · split <;> omega
    · rw [if_neg (fun z => h1 z.1)]
      omega
theorem sub_ss (a b : Int32) : a - (a - b) = b := by
  rw [Int32.sub_eq_add_neg, Int32.neg_sub, Int32.sub_eq_add_neg, Int32.add_comm b, ← Int32.add_assoc, Int32.add_right_neg, Int32.zero_add]
section AGES
variable {st : Nat → Nat} {X : KX} {C : KC}
theorem ages_242 (h : RC st C) (hI : Inv st) {j : Nat} (hj : j < st 0) (x1 x2 x3 : Int32) (nx : Int32 × Int32 × Int32 × Int32 × Int32 × Int32 → Option Int32) : fL_areAges_c242 X C x1 x2 x3 (nI (ashN st j)) (nI j) 1 nx = nx (x1, x2, x3, nI (ashN st (j + 1)), 1, nI (j + 1)) := by
  have h16 := hI.1
  have hl := (hI.2.2.2.2.2.1 j hj).2.2.2.2
  have hA := ageN_lt hI (j := j + 1) (by omega)
  unfold fL_areAges_c242
  by_cases h1 : st (8 * j + 9) = 1
  · rw [x_resid1 h hI hj h1, Option.bind_some, if_pos (ne_noneS (by omega) (by omega)), nI_1, nI_1]
    show _ = nx (x1, x2, x3, nI (ashN st j + st (8 * j + 9)), 1, nI (j + 1))
    rw [h1]
  · rw [x_resid0 h hI hj h1, Option.bind_some, if_neg (fun z => z rfl), nI_1]
    show _ = nx (x1, x2, x3, nI (ashN st j + st (8 * j + 9)), 1, nI (j + 1))
    rw [show st (8 * j + 9) = 0 by omega]
    rfl
theorem ages_198 (h : RC st C) (hI : Inv st) {j : Nat} (hj : j < st 0) (x1 x2 x3 : Int32) (nx : Int32 × Int32 × Int32 × Int32 × Int32 × Int32 → Option Int32) : fL_areAges_c198 X C x1 x2 x3 (nI (ashN st j)) (nI j) (nI (yrN st (st 2) (st 3) j)) 1 nx = nx (x1, x2, x3, nI (ashN st (j + 1)), 1, nI (j + 1)) := by
  have h16 := hI.1
  have hl := (hI.2.2.2.2.2.1 j hj).2.2.2.2
  have hy := yrN_le hI (f := st 2) hI.2.2.2.1 hj
  unfold fL_areAges_c198
  by_cases h1 : st (8 * j + 12) = 0
  · rw [x_count0 h hI hj h1, Option.bind_some, if_neg (by decide), if_pos rfl]
    unfold fL_areAges_c237
    exact ages_242 h hI hj x1 x2 x3 nx
  · rw [x_count1 h hI hj h1, Option.bind_some, if_neg (by decide), if_neg (ne_noneS (by omega) (by omega)), if_neg, if_neg]
    · unfold fL_areAges_c237
      exact ages_242 h hI hj x1 x2 x3 nx
    · rw [sub_ss, show (1000000 : Int32) = nI 1000000 from rfl, k_lt (by omega) (by omega)]
      omega
    · rw [Int32.le_iff_toInt_le, pk_sub_toInt (by omega) (by omega), nI_toInt (by omega)]
      omega
theorem ages_115 (h : RC st C) (hI : Inv st) {j : Nat} (hj : j < st 0) (nx : Int32 × Int32 × Int32 × Int32 × Int32 × Int32 → Option Int32) : fL_areAges_c115 X C (nI (topN st j)) (nI (ageN st (st 2) (st 3) j)) (sealN st j) (nI (ashN st j)) (nI j) (nI (st (8 * j + 5))) (nI (yrN st (st 2) (st 3) j)) 1 nx = nx (nI (topN st (j + 1)), nI (ageN st (st 2) (st 3) (j + 1)), sealN st (j + 1), nI (ashN st (j + 1)), 1, nI (j + 1)) := by
  have h16 := hI.1
  have hA := ageN_lt hI (j := j + 1) (by omega)
  have hd := delN_le hI hj
  have eT : nI (topN st j) + nI (st (8 * j + 5)) = nI (topN st (j + 1)) := nI_add _ _
  have eA : nI (ageN st (st 2) (st 3) j) + nI (yrN st (st 2) (st 3) j) = nI (ageN st (st 2) (st 3) (j + 1)) := nI_add _ _
  have eS : ((31 : Int32) * sealN st j) + nI (ageN st (st 2) (st 3) (j + 1)) = sealN st (j + 1) := rfl
  have eG : gasN st (topN st (j + 1)) j = ageN st (st 2) (st 3) (j + 1) - delN st j := by
    unfold gasN
    rw [agN_border hI hj]
  have fin : ∀ s : Int32, s = nI (ageN st (st 2) (st 3) (j + 1) - delN st j) → fL_areAges_c174 X C (nI (topN st (j + 1))) (nI (ageN st (st 2) (st 3) (j + 1))) (sealN st (j + 1)) (nI (ashN st j)) (nI j) (nI (yrN st (st 2) (st 3) j)) (nI (ageN st (st 2) (st 3) (j + 1) - delN st j)) s nx = nx (nI (topN st (j + 1)), nI (ageN st (st 2) (st 3) (j + 1)), sealN st (j + 1), nI (ashN st (j + 1)), 1, nI (j + 1)) := by
    intro s hs
    subst hs
    unfold fL_areAges_c174
    rw [if_neg (fun z => z rfl), x_lead h hI (lay_border hI hj), Option.bind_some, x_gas h hI (lay_border hI hj), Option.bind_some, agN_border hI hj, if_neg (fun z => z rfl)]
    exact ages_198 h hI hj _ _ _ nx
  unfold fL_areAges_c115
  rw [x_delay h hI hj, Option.bind_some, if_neg (by decide), eT, eA, eS, x_age h hI (lay_border hI hj), Option.bind_some, agN_border hI hj, if_neg (fun z => z rfl), x_gas h hI (lay_border hI hj), Option.bind_some, eG]
  by_cases c : delN st j ≤ ageN st (st 2) (st 3) (j + 1)
  · rw [if_pos ((k_ge0I (by omega) (by omega)).mpr c)]
    exact fin _ (pk_sub c)
  · rw [if_neg (fun z => c ((k_ge0I (by omega) (by omega)).mp z))]
    exact fin _ (by rw [show ageN st (st 2) (st 3) (j + 1) - delN st j = 0 by omega]; rfl)
/-- a layer is as it must be -/
theorem ages_step (h : RC st C) (hI : Inv st) {j : Nat} (hj : j < st 0) (nx : Int32 × Int32 × Int32 × Int32 × Int32 × Int32 → Option Int32) : fL_areAges_c16 X C (nI (topN st j)) (nI (ageN st (st 2) (st 3) j)) (sealN st j) (nI (ashN st j)) 1 (nI j) nx = nx (nI (topN st (j + 1)), nI (ageN st (st 2) (st 3) (j + 1)), sealN st (j + 1), nI (ashN st (j + 1)), 1, nI (j + 1)) := by
  have h16 := hI.1
  have hl := (hI.2.2.2.2.2.1 j hj).1
  have hA := ageN_lt hI (j := j + 1) (by omega)
  have hA0 := ageN_lt hI (j := j) (by omega)
  have ht := thinN_b hI (f := st 2) hI.2.2.2.1 hj
  obtain ⟨a, ea, h1, h2⟩ := x_mid (X := X) h hI hj
  have eA : nI (ageN st (st 2) (st 3) j) + nI (yrN st (st 2) (st 3) j) = nI (ageN st (st 2) (st 3) (j + 1)) := nI_add _ _
  have eM : nI (topN st j) + nI (st (8 * j + 5)) / (2 : Int32) = nI (topN st j + st (8 * j + 5) / 2) := by
    rw [show (2 : Int32) = nI 2 from rfl, k_div (by omega) (by omega) (by omega), nI_add]
  unfold fL_areAges_c16
  rw [x_layers h, Option.bind_some, if_neg (by rw [k_le (by omega) (by omega)]; omega), x_thick h hI hj, Option.bind_some, x_years h hI hj, Option.bind_some, eM, ea, Option.bind_some, if_neg (by decide), if_neg, x_thin h hI hj, Option.bind_some, if_neg, Option.bind_some, if_neg, x_ageTop h hI (by omega) (by omega), Option.bind_some, if_neg (fun z => z rfl), if_neg, eA, if_neg]
  · exact ages_115 h hI hj nx
  · rw [k_lt (by omega) (by omega)]
    omega
  · rw [k_lt (by omega) (by omega)]
    omega
  · rw [show (1000 : Int32) = nI 1000 from rfl, k_lt (by omega) (by omega)]
    omega
  · rw [show (10 : Int32) = nI 10 from rfl, k_lt (by omega) (by omega)]
    omega
  · rw [show (0 : Int32) = nI 0 from rfl, k_le (by omega) (by omega)]
    omega
theorem ages_end (h : RC st C) (hI : Inv st) (nx : Int32 × Int32 × Int32 × Int32 × Int32 × Int32 → Option Int32) : fL_areAges_c16 X C (nI (topN st (st 0))) (nI (ageN st (st 2) (st 3) (st 0))) (sealN st (st 0)) (nI (ashN st (st 0))) 1 (nI (st 0)) nx = some 1 := by
  have h16 := hI.1
  have hal := ashN_le hI (st 0) (Nat.le_refl _)
  have hfa := fit_ash (st := st) (st 0)
  have fin : ∀ s : Int32, fL_areAges_c343 X C (nI (topN st (st 0))) (sealN st (st 0)) s s = some 1 := by
    intro s
    unfold fL_areAges_c343
    rw [if_neg (fun z => z rfl), nI_1, x_ageBad h hI, Option.bind_some, if_neg (fun z => z rfl)]
    unfold fL_areAges_c363
    rw [if_neg (by decide), x_seal h hI, Option.bind_some, if_neg (fun z => z rfl)]
  unfold fL_areAges_c16
  rw [x_layers h, Option.bind_some, if_pos (by rw [k_le (by omega) (by omega)]; omega), if_neg (by decide), x_depth h hI, Option.bind_some, if_neg (fun z => z rfl), x_fitting h hI, Option.bind_some, if_neg (by rw [k_lt (by omega) (by omega)]; omega), Option.bind_some, x_thick0 h hI, Option.bind_some, if_neg (fun z => z rfl)]
  unfold fL_areAges_c312
  rw [if_neg (by decide)]
  by_cases c : ashN st (st 0) = 0
  · rw [x_best0 h hI c, Option.bind_some, if_neg (fun z => z rfl)]
    unfold fL_areAges_c333
    rw [c, if_neg (fun z => z rfl)]
    exact fin 1
  · have hb := amin_le (g := fun f => misN st f (st 3) (st 0)) 2
    rw [c_bestFunction h hI (by omega), Option.bind_some, if_pos (ne_none (by omega))]
    unfold fL_areAges_c333
    rw [if_pos (nI_ne0 (by omega) (by omega))]
    exact fin 0
theorem ages_ok (h : RC st C) (hI : Inv st) : fL_areAges X C = some 1 := by
  have h16 := hI.1
  unfold fL_areAges
  refine kLoop_to (fun j => (nI (topN st j), nI (ageN st (st 2) (st 3) j), sealN st j, nI (ashN st j), 1, nI j)) (st 0) rfl (fun j hj nx => ?_) (fun nx => ?_) (by rw [kFu_eq]; omega)
  · exact ages_step h hI hj nx
  · exact ages_end h hI nx
end AGES
/-! ===== PURE: the law's isDepth ===== -/
theorem m1_eq (x : Int32) : x + (-1) = x - nI 1 := by
  rw [Int32.sub_eq_add_neg]
  rfl
section DEPTH
variable {st : Nat → Nat} {X : KX} {C : KC}
theorem dep_165 (h : RC st C) (hI : Inv st) {a : Nat} (ha : a < 2 ^ 31) (x3 x4 : Int32) (hx : ((0 : Int32) ≤ x3) ∨ (x3 = -1000000005 ∧ (x4 < 0 ∨ (0 < st 0 ∧ ∀ j, j < st 0 → ¬ a ≤ ageN st (st 2) (st 3) (j + 1) - delN st j)))) : fL_isDepth_c165 X C (nI a) x3 x4 1 = some 1 := by
  have h16 := hI.1
  unfold fL_isDepth_c165
  rw [if_neg (by decide)]
  rcases hx with c | ⟨e3, c⟩
  · rw [if_pos c]
  · rw [e3, if_neg (by decide), if_neg (fun z => z rfl)]
    by_cases c4 : x4 < 0
    · rw [if_pos c4]
    · obtain ⟨h0, hl⟩ := c.resolve_left c4
      obtain ⟨i, hi⟩ : ∃ i, st 0 = i + 1 := ⟨st 0 - 1, by omega⟩
      have hL := lay_border hI (i := i) (by omega)
      have hg : gasN st (topN st (i + 1)) i = ageN st (st 2) (st 3) (i + 1) - delN st i := by
        unfold gasN
        rw [agN_border hI (by omega)]
      have hlt := gasN_lt hI hL
      have hn := hl i (by omega)
      rw [if_neg c4, x_depth h hI, Option.bind_some, hi, x_gas h hI hL, Option.bind_some, if_neg]
      rw [k_le (by omega) (by omega), hg]
      exact hn
theorem dep_loop (h : RC st C) (hI : Inv st) {a G : Nat} (ha : a < 2 ^ 31) (hG : G ≤ 200000) (hb : G ≤ topN st (st 0)) (h0 : 0 < st 0) (hl : ∀ d k', LayAt st d k' → d < G → gasN st d k' < a) (x4 : Int32) : kLoopC kFu (fun q nx123 => fL_isDepth_c123 X C (nI a) (nI G) x4 q.1 q.2 nx123) ((1 : Int32), (nI G - (1 : Int32))) = some 1 := by
  have h16 := hI.1
  have e165 : fL_isDepth_c165 X C (nI a) (nI G) x4 1 = some 1 := dep_165 h hI ha _ _ (Or.inl (nI_pos' (by omega)))
  rcases Nat.eq_zero_or_pos G with hz | hp
  · subst hz
    refine kLoop_to (fun _ => ((1 : Int32), (nI 0 - (1 : Int32)))) 0 rfl (fun j hj nx => absurd hj (by omega)) (fun nx => ?_) (by rw [kFu_eq]; omega)
    show fL_isDepth_c123 X C (nI a) (nI 0) x4 1 (nI 0 - (1 : Int32)) nx = _
    unfold fL_isDepth_c123
    rw [if_pos (by decide)]
    exact e165
  · have gd : ∀ (d : Nat) (nx : Int32 × Int32 → Option Int32), d < G → G < d + 6 → fL_isDepth_c123 X C (nI a) (nI G) x4 1 (nI d) nx = nx (1, nI d + (-1)) := by
      intro d nx hd h6
      obtain ⟨k, hk⟩ := lay_ex (st := st) (d := d) h0 (by omega)
      have hlt := hl d k hk hd
      have hgl := gasN_lt hI hk
      unfold fL_isDepth_c123
      rw [if_neg (nI_pos (by omega)), if_neg, if_neg (by decide), x_gas h hI hk, Option.bind_some, if_neg (by rw [k_le (by omega) (by omega)]; omega)]
      rw [Int32.le_iff_toInt_le, show (6 : Int32) = nI 6 from rfl, pk_sub_toInt (by omega) (by omega), nI_toInt (by omega)]
      omega
    have out : ∀ (x : Int32) (nx : Int32 × Int32 → Option Int32), (x < 0 ∨ x ≤ nI G - 6) → fL_isDepth_c123 X C (nI a) (nI G) x4 1 x nx = some 1 := by
      intro x nx hx
      unfold fL_isDepth_c123
      by_cases c : x < 0
      · rw [if_pos c]
        exact e165
      · rw [if_neg c, if_pos (hx.resolve_left c)]
        exact e165
    -- the number of steps
    obtain ⟨n, hn⟩ : ∃ n, n = if G < 5 then G else 5 := ⟨_, rfl⟩
    have hn5 : n ≤ 5 ∧ n ≤ G ∧ (n = G ∨ n = 5) := by
      rw [hn]
      split <;> omega
    refine kLoop_to (fun j => ((1 : Int32), nI G - nI (j + 1))) n rfl (fun j hj nx => ?_) (fun nx => ?_) (by rw [kFu_eq]; omega)
    · show fL_isDepth_c123 X C (nI a) (nI G) x4 1 (nI G - nI (j + 1)) nx = nx (1, nI G - nI (j + 1 + 1))
      have e : nI (G - (j + 1)) + (-1) = nI G - nI (j + 1 + 1) := by
        apply Int32.toInt_inj.mp
        rw [m1_eq, pk_sub_toInt (by omega) (by omega), pk_sub_toInt (by omega) (by omega)]
        omega
      rw [pk_sub (show j + 1 ≤ G by omega), gd (G - (j + 1)) nx (by omega) (by omega)]
      rw [e]
    · show fL_isDepth_c123 X C (nI a) (nI G) x4 1 (nI G - nI (n + 1)) nx = _
      refine out _ nx ?_
      rcases hn5.2.2 with e | e
      · refine Or.inl ?_
        rw [Int32.lt_iff_toInt_lt, pk_sub_toInt (by omega) (by omega), show (0 : Int32).toInt = 0 from rfl]
        omega
      · refine Or.inr ?_
        rw [e]
        exact Int32.le_refl _
theorem dep_86 (h : RC st C) (hI : Inv st) {a : Nat} (ha : a < 2 ^ 31) (x2 x4 : Int32) (hx4 : x4 < 0 ∨ 0 < st 0) (hx2 : ∀ (G k : Nat), LayAt st G k → a ≤ gasN st G k → x2 ≤ nI G) : ((fX4_gasDepthOf X C (nI a)).bind fun r8 => fL_isDepth_c86 X C (nI a) x2 r8 x4 1) = some 1 := by
  rcases x_gasDepthOf (X := X) h hI ha with ⟨G, k, hk, h1, h2, e⟩ | ⟨hl, e⟩
  · have hk0 := hk.1
    have hG1 := topN_le (st := st) (n := k + 1) (m := st 0) hk.1
    have hG : G ≤ 200000 := Nat.le_trans hk.2.1 (topN_16 hI hk.1)
    have hg := gasN_lt hI hk
    have hle := hx2 G k hk h1
    rw [e, Option.bind_some]
    unfold fL_isDepth_c86
    rw [if_neg (nI_pos (by omega)), if_neg (by decide), x_gas h hI hk, Option.bind_some, if_neg (by rw [k_lt (by omega) (by omega)]; omega), if_neg (Int32.not_lt.mpr hle)]
    exact dep_loop h hI ha hG (Nat.le_trans hk.2.1 hG1) (by omega) h2 x4
  · rw [e, Option.bind_some]
    unfold fL_isDepth_c86
    rw [if_pos (by decide)]
    exact dep_165 h hI ha _ _ (Or.inr ⟨rfl, hx4.imp_right (fun z => ⟨z, hl⟩)⟩)
theorem dep_31 (h : RC st C) (hI : Inv st) {a : Nat} (ha : a < 2 ^ 31) (x4 : Int32) (hx4 : (x4 < 0 ∧ st 0 = 0) ∨ (0 < st 0 ∧ x4 = nI (ageN st (st 2) (st 3) (st 0)))) (r8 : Int32) (h8 : fX4_gasDepthOf X C (nI a) = some r8) : ∃ r2, fX4_depthOf X C (nI a) = some r2 ∧ fL_isDepth_c31 X C (nI a) r2 r8 x4 = some 1 := by
  have h16 := hI.1
  have hx4' : x4 < 0 ∨ 0 < st 0 := hx4.imp (fun z => z.1) (fun z => z.1)
  have fin : ∀ x2 : Int32, (∀ (G k : Nat), LayAt st G k → a ≤ gasN st G k → x2 ≤ nI G) → fL_isDepth_c86 X C (nI a) x2 r8 x4 1 = some 1 := by
    intro x2 hx2
    have := dep_86 (X := X) h hI ha x2 x4 hx4' hx2
    rw [h8, Option.bind_some] at this
    exact this
  rcases x_depthOf (X := X) h hI ha with ⟨D, k, hk, h1, h2, e⟩ | ⟨hl, e⟩
  · have hk0 := hk.1
    have hD1 := topN_le (st := st) (n := k + 1) (m := st 0) hk.1
    have hDb := hk.2.1
    have hD : D ≤ 200000 := Nat.le_trans hk.2.1 (topN_16 hI hk.1)
    have hag := agN_lt hI hk
    have hmin : ∀ (G k : Nat), LayAt st G k → a ≤ gasN st G k → nI D ≤ nI G := by
      intro G k' hG hg
      have hGb : G ≤ 200000 := Nat.le_trans hG.2.1 (topN_16 hI hG.1)
      rw [k_le (by omega) (by omega)]
      refine Nat.le_of_not_lt (fun hlt => ?_)
      have := h2 G k' hG hlt
      unfold gasN at hg
      omega
    refine ⟨_, e, ?_⟩
    unfold fL_isDepth_c31
    rw [if_neg (nI_pos (by omega)), x_age h hI hk, Option.bind_some, if_neg (by rw [k_lt (by omega) (by omega)]; omega)]
    by_cases c : D = 0
    · rw [if_pos (by rw [c]; rfl)]
      unfold fL_isDepth_c61
      exact fin _ hmin
    · obtain ⟨k', hk'⟩ := lay_ex (st := st) (d := D - 1) (by omega) (by omega)
      have hlt := h2 (D - 1) k' hk' (by omega)
      have hag' := agN_lt hI hk'
      have eD : nI D - (1 : Int32) = nI (D - 1) := by rw [show (1 : Int32) = nI 1 from rfl, pk_sub (by omega)]
      rw [if_neg (nI_ne0 (by omega) (by omega)), eD, x_age h hI hk', Option.bind_some, if_neg (by rw [k_le (by omega) (by omega)]; omega)]
      unfold fL_isDepth_c61
      exact fin _ hmin
  · refine ⟨_, e, ?_⟩
    unfold fL_isDepth_c31
    rw [if_pos (by decide), if_neg (fun z => z rfl), if_neg]
    · refine fin _ (fun G k hG _ => ?_)
      have hGb : G ≤ 200000 := Nat.le_trans hG.2.1 (topN_16 hI hG.1)
      rw [Int32.le_iff_toInt_le, nI_toInt (by omega), show (-1000000005 : Int32).toInt = -1000000005 from rfl]
      omega
    · rcases hx4 with ⟨c, -⟩ | ⟨c, c4⟩
      · rw [Int32.le_iff_toInt_le, nI_toInt ha]
        rw [Int32.lt_iff_toInt_lt, show (0 : Int32).toInt = 0 from rfl] at c
        omega
      · have hA := ageN_lt hI (Nat.le_refl (st 0))
        have hn := hl (st 0 - 1) (by omega)
        rw [Nat.sub_add_cancel c] at hn
        rw [c4, k_le ha (by omega)]
        exact hn
theorem dep_ok (h : RC st C) (hI : Inv st) {a : Nat} (ha : a < 2 ^ 31) : fL_isDepth X C (nI a) = some 1 := by
  have h16 := hI.1
  obtain ⟨r8, h8⟩ : ∃ r8, fX4_gasDepthOf X C (nI a) = some r8 := by
    rcases x_gasDepthOf (X := X) h hI ha with ⟨G, k, -, -, -, e⟩ | ⟨-, e⟩
    · exact ⟨_, e⟩
    · exact ⟨_, e⟩
  unfold fL_isDepth
  by_cases h0 : st 0 = 0
  · obtain ⟨r2, e2, e⟩ := dep_31 (X := X) h hI ha (-1) (Or.inl ⟨by decide, h0⟩) r8 h8
    rw [e2, Option.bind_some, h8, Option.bind_some, x_layers h, Option.bind_some, if_neg (by rw [h0]; exact fun z => z rfl)]
    exact e
  · obtain ⟨r2, e2, e⟩ := dep_31 (X := X) h hI ha _ (Or.inr ⟨by omega, rfl⟩) r8 h8
    rw [e2, Option.bind_some, h8, Option.bind_some, x_layers h, Option.bind_some, if_pos (nI_ne0 (by omega) (by omega)), x_depth h hI, Option.bind_some, x_ageTop h hI (by omega) (Nat.le_refl _), Option.bind_some]
    exact e
end DEPTH
