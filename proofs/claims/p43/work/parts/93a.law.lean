def fL_law_c159 (L : Nat) (xs : Nat → Int32) (uX : KX) (uC : KC) (uF : KF) (uH : KH) (uS : KS) (uG : KG) (x3 : Int32) (s0 : Int32) (s1 : Int32) (s2 : Int32) (nx14 : KX × KC × KF × KH × KS × KG × Int32 → Option (Int32)) : Option (Int32) := if s0 = (s1 + s2) then (nx14 (uX, uC, uF, uH, uS, uG, (x3 + 1))) else (some (0 : Int32))
def fL_law_c80 (L : Nat) (xs : Nat → Int32) (uX : KX) (uC : KC) (uF : KF) (uH : KH) (uS : KS) (uG : KG) (x3 : Int32) (x5 : Int32) (s0 : Int32) (nx14 : KX × KC × KF × KH × KS × KG × Int32 → Option (Int32)) : Option (Int32) := (fL_low (x5 >>> ((5 : Int32) &&& 31)) (s0 + (2 : Int32))).bind fun r91 => (fL_isDepth uX uC r91).bind fun r94 => if r94 = (0 : Int32) then (some (0 : Int32)) else ((fL_isDepth uX uC s0).bind fun r103 => if ¬ r103 = (0 : Int32) then (if ¬ (x3 - x3 / (4 : Int32) * (4 : Int32)) = (3 : Int32) then (nx14 (uX, uC, uF, uH, uS, uG, (x3 + 1))) else ((fX4_acts uX).bind fun r119 => (fL_isBest uX uC uH uS).bind fun r125 => (fX4_acts r125.2.1).bind fun r133 => if kIn (0 : Int32) 1 = true then (if r125.1 = (0 : Int32) then (some (0 : Int32)) else (if kIn (0 : Int32) 1 = true then ((fX4_bestFunction r125.2.1 r125.2.2.1).bind fun r148 => if (0 : Int32) ≤ r148 then (fL_law_c159 L xs r125.2.1 r125.2.2.1 uF r125.2.2.2.1 r125.2.2.2.2 ((upd uG (0 : Int32).toNatClampNeg r133)) x3 ((upd uG (0 : Int32).toNatClampNeg r133) (0 : Int32).toNatClampNeg) r119 (4 : Int32) nx14) else (fL_law_c159 L xs r125.2.1 r125.2.2.1 uF r125.2.2.2.1 r125.2.2.2.2 ((upd uG (0 : Int32).toNatClampNeg r133)) x3 ((upd uG (0 : Int32).toNatClampNeg r133) (0 : Int32).toNatClampNeg) r119 (1 : Int32) nx14)) else none)) else none)) else (some (0 : Int32)))
def fL_law_c14 (L : Nat) (xs : Nat → Int32) (uX : KX) (uC : KC) (uF : KF) (uH : KH) (uS : KS) (uG : KG) (x3 : Int32) (nx14 : KX × KC × KF × KH × KS × KG × Int32 → Option (Int32)) : Option (Int32) := if (24 : Int32) ≤ x3 then ((fX4_acts uX).bind fun r172 => (fX4_undo uX uC uH uS).bind fun r177 => (fX4_acts uX).bind fun r183 => if ¬ r183 = r172 then (some (0 : Int32)) else (if (0 : Int32) ≤ r177.1 then (some (1 : Int32)) else (if ¬ r177.1 = (-1000000005 : Int32) then (some (0 : Int32)) else (some (1 : Int32))))) else ((fL_cell L xs ((2 : Int32) * x3)).bind fun r24 => (fL_cell L xs (((2 : Int32) * x3) + (1 : Int32))).bind fun r35 => (fL_change uX uC uF uH uS uG r24 r35).bind fun r46 => if r46.1 = (0 : Int32) then (some (0 : Int32)) else ((fL_areAges r46.2.1 r46.2.2.1).bind fun r53 => if ¬ r53 = (0 : Int32) then ((fX4_layers r46.2.1 r46.2.2.1).bind fun r62 => if ¬ r62 = (0 : Int32) then ((fX4_depth r46.2.1 r46.2.2.1).bind fun r74 => (fX4_age r46.2.1 r46.2.2.1 r74).bind fun r77 => fL_law_c80 L xs r46.2.1 r46.2.2.1 r46.2.2.2.1 r46.2.2.2.2.1 r46.2.2.2.2.2.1 r46.2.2.2.2.2.2 x3 r35 r77 nx14) else (fL_law_c80 L xs r46.2.1 r46.2.2.1 r46.2.2.2.1 r46.2.2.2.2.1 r46.2.2.2.2.2.1 r46.2.2.2.2.2.2 x3 r35 (0 : Int32) nx14)) else (some (0 : Int32))))
def fL_law (L : Nat) (xs : Nat → Int32) (vX : KX) (vC : KC) (vF : KF) (vH : KH) (vS : KS) (vG : KG) (p3 : Int32) : Option Int32 := kLoopC kFu (fun q nx14 => fL_law_c14 L xs q.1 q.2.1 q.2.2.1 q.2.2.2.1 q.2.2.2.2.1 q.2.2.2.2.2.1 q.2.2.2.2.2.2 nx14) (vX, vC, vF, vH, vS, vG, p3)
set_option maxHeartbeats 4000000 in
set_option maxRecDepth 100000 in
theorem lw_run {p : Program} {e : Env} {s : State} {m : MethodId} {below : List Frame} {meth : Method} {c : Code} (l : Launch) {b L : Nat} {xs : Nat → Int32} (C0 : lw_At p s m meth c b L xs) (D : va_G) (ty : kTy) (aX : Nat) (adC adF adH adT : Nat → Nat) (adS : Nat → Nat → Nat) (aG : Nat) (hK : kK D ty s) (vX : KX) (vC : KC) (vF : KF) (vH : KH) (vS : KS) (vG : KG) (p3 : Int32) (res : Int32) (hres : (some res : Option Int32) = some 1) (h : fL_law L xs vX vC vF vH vS vG p3 = some res) (A : Nat → Prop) (hAe : A = fun q : Nat => s.heap.size ≤ q) : ∀ (H : Heap) (locs : List Loc) (ls : Array Slot), va_P D vwCl (wX aX adC adH adF adT vX ++ (wC ty adC vC ++ (wF ty adF vF ++ (wH ty adH adS vH ++ (wS ty adS vS ++ wG ty aG vG))))) H → va_D A (wX aX adC adH adF adT vX ++ (wC ty adC vC ++ (wF ty adF vF ++ (wH ty adH adS vH ++ (wS ty adS vS ++ wG ty aG vG))))) → va_S A s.heap H locs → lv_has ls 9 [(3, .int p3), (2, .ref aG), (1, .ref aX), (0, .ref b)] → W p l e room_1 s m #[Value.ref b] below meth c H locs 600000 7302250 (lw_Z below #[Value.ref b] s) (F0 m 14 ls []) := by
  obtain ⟨hx, hb, hr, hml, hown, hts0, hX, hbl, hlocks, hgv⟩ := id C0
  have hts : ∀ w ∈ wsL_law, w.before #[Value.ref b] s = true := fun w h => hts0 w (wsL_law_in w h)
  have hA : ∀ q : Nat, s.heap.size ≤ q → A q := fun q h => by rw [hAe]; exact h
  have hbA : ¬ A b := by rw [hAe]; exact Nat.not_le.mpr hbl
  have hcell := cL_cell_ok l D ty b L xs
  have wf0 := hts (.constant RL 95 (-1000000005)) (by decide +kernel)
  have J159 : ∀ (uX : KX) (uC : KC) (uF : KF) (uH : KH) (uS : KS) (uG : KG) (x3 : Int32) (s0 : Int32) (s1 : Int32) (s2 : Int32) (nx14 : KX × KC × KF × KH × KS × KG × Int32 → Option (Int32)) (hn14 : ∀ (uX : KX) (uC : KC) (uF : KF) (uH : KH) (uS : KS) (uG : KG) (x3 : Int32), nx14 (uX, uC, uF, uH, uS, uG, x3) = some res → ∀ (H : Heap) (locs : List Loc) (ls : Array Slot), va_P D vwCl (wX aX adC adH adF adT uX ++ (wC ty adC uC ++ (wF ty adF uF ++ (wH ty adH adS uH ++ (wS ty adS uS ++ wG ty aG uG))))) H → va_D A (wX aX adC adH adF adT uX ++ (wC ty adC uC ++ (wF ty adF uF ++ (wH ty adH adS uH ++ (wS ty adS uS ++ wG ty aG uG))))) → va_S A s.heap H locs → lv_has ls 9 [(0, .ref b), (1, .ref aX), (2, .ref aG), (3, .int x3)] → W p l e room_1 s m #[Value.ref b] below meth c H locs 600000 7302250 (lw_Z below #[Value.ref b] s) (F0 m 14 ls [])), fL_law_c159 L xs uX uC uF uH uS uG x3 s0 s1 s2 nx14 = some res → ∀ (H : Heap) (locs : List Loc) (ls : Array Slot), va_P D vwCl (wX aX adC adH adF adT uX ++ (wC ty adC uC ++ (wF ty adF uF ++ (wH ty adH adS uH ++ (wS ty adS uS ++ wG ty aG uG))))) H → va_D A (wX aX adC adH adF adT uX ++ (wC ty adC uC ++ (wF ty adF uF ++ (wH ty adH adS uH ++ (wS ty adS uS ++ wG ty aG uG))))) → va_S A s.heap H locs → lv_has ls 9 [(0, .ref b), (1, .ref aX), (2, .ref aG), (3, .int x3)] → W p l e room_1 s m #[Value.ref b] below meth c H locs 600000 7302250 (lw_Z below #[Value.ref b] s) (F0 m 159 ls [.int s2, .int s1, .int s0]) := by
    intro uX uC uF uH uS uG x3 s0 s1 s2 nx14 hn14 h H locs ls hP hD hS hl
    unfold fL_law_c159 at h
    refine lv_iadd hx hb dL_law_159 ?_
    refine lv_icmp_eq (tgt := 165) hx hb dL_law_160 (by decide) (fun c160 => ?_) (fun c160 => ?_)
    · have h := kT h c160
      refine lv_iinc (v := (x3 + 1)) (lv' := [(3, .int (x3 + 1)), (0, .ref b), (1, .ref aX), (2, .ref aG)]) hx hb dL_law_165 hl (k := 3) rfl rfl (by decide) rfl (fun ls hl => ?_)
      refine lv_goto (tgt := 14) hx hb dL_law_168 (by decide) ?_
      exact hn14 uX uC uF uH uS uG (x3 + 1) h H locs ls hP hD hS (lv_sub hl [1, 2, 3, 0] rfl)
    · have h := kF h c160
      refine lv_iconst (v := 0) hx hb dL_law_163 (by decide) ?_
      exact absurd (Option.some.inj (h.trans hres)) (by decide)
  have J80 : ∀ (uX : KX) (uC : KC) (uF : KF) (uH : KH) (uS : KS) (uG : KG) (x3 : Int32) (x5 : Int32) (s0 : Int32) (nx14 : KX × KC × KF × KH × KS × KG × Int32 → Option (Int32)) (hn14 : ∀ (uX : KX) (uC : KC) (uF : KF) (uH : KH) (uS : KS) (uG : KG) (x3 : Int32), nx14 (uX, uC, uF, uH, uS, uG, x3) = some res → ∀ (H : Heap) (locs : List Loc) (ls : Array Slot), va_P D vwCl (wX aX adC adH adF adT uX ++ (wC ty adC uC ++ (wF ty adF uF ++ (wH ty adH adS uH ++ (wS ty adS uS ++ wG ty aG uG))))) H → va_D A (wX aX adC adH adF adT uX ++ (wC ty adC uC ++ (wF ty adF uF ++ (wH ty adH adS uH ++ (wS ty adS uS ++ wG ty aG uG))))) → va_S A s.heap H locs → lv_has ls 9 [(0, .ref b), (1, .ref aX), (2, .ref aG), (3, .int x3)] → W p l e room_1 s m #[Value.ref b] below meth c H locs 600000 7302250 (lw_Z below #[Value.ref b] s) (F0 m 14 ls [])), fL_law_c80 L xs uX uC uF uH uS uG x3 x5 s0 nx14 = some res → ∀ (H : Heap) (locs : List Loc) (ls : Array Slot), va_P D vwCl (wX aX adC adH adF adT uX ++ (wC ty adC uC ++ (wF ty adF uF ++ (wH ty adH adS uH ++ (wS ty adS uS ++ wG ty aG uG))))) H → va_D A (wX aX adC adH adF adT uX ++ (wC ty adC uC ++ (wF ty adF uF ++ (wH ty adH adS uH ++ (wS ty adS uS ++ wG ty aG uG))))) → va_S A s.heap H locs → lv_has ls 9 [(0, .ref b), (1, .ref aX), (2, .ref aG), (3, .int x3), (5, .int x5)] → W p l e room_1 s m #[Value.ref b] below meth c H locs 600000 7302250 (lw_Z below #[Value.ref b] s) (F0 m 80 ls [.int s0]) := by
    intro uX uC uF uH uS uG x3 x5 s0 nx14 hn14 h H locs ls hP hD hS hl
    unfold fL_law_c80 at h
    refine lv_istore (lv' := [(6, .int s0), (0, .ref b), (1, .ref aX), (2, .ref aG), (3, .int x3), (5, .int x5)]) hx hb dL_law_80 hl (by decide) rfl (fun ls hl => ?_)
    refine lv_aload_n hx hb dL_law_82 rfl (lv_at hl 2 rfl) ?_
    refine lv_iload hx hb dL_law_83 (lv_at hl 5 rfl) ?_
    refine lv_iconst (v := 5) hx hb dL_law_85 (by decide) ?_
    refine lv_ishr hx hb dL_law_86 ?_
    refine lv_iload hx hb dL_law_87 (lv_at hl 0 rfl) ?_
    refine lv_iconst (v := 2) hx hb dL_law_89 (by decide) ?_
    refine lv_iadd hx hb dL_law_90 ?_
    obtain ⟨r91, e91, h⟩ := kBd h
    refine kCallSI (As := [.int (x5 >>> ((5 : Int32) &&& 31)), .int (s0 + (2 : Int32))]) (rest := [.ref aX]) ⟨hx, hb, hml, hown, hts⟩ (cL_low_ok l D ty  H.size (x5 >>> ((5 : Int32) &&& 31)) (s0 + (2 : Int32))  r91 e91) (va_cwS 2 hts gL_law_L_low rfl rfl rfl (by decide +kernel) ⟨Nat.le_of_ble_eq_true rfl, Nat.le_of_ble_eq_true rfl⟩) hP hK hD hS hA rfl hl.1 rfl (Nat.le_of_ble_eq_true rfl) dL_law_91 ⟨Nat.le_of_ble_eq_true rfl, Nat.le_of_ble_eq_true rfl⟩ (fun H locs hP hS => ?_)
    obtain ⟨r94, e94, h⟩ := kBd h
    refine kCallTI (As := [.ref aX, .int r91]) (rest := []) (sg := [wX aX adC adH adF adT uX, wC ty adC uC, wF ty adF uF, wH ty adH adS uH, wS ty adS uS, wG ty aG uG]) (sc := [wX aX adC adH adF adT uX, wC ty adC uC]) (s1 := [wX aX adC adH adF adT uX, wC ty adC uC]) (sn := [wX aX adC adH adF adT uX, wC ty adC uC, wF ty adF uF, wH ty adH adS uH, wS ty adS uS, wG ty aG uG]) ⟨hx, hb, hml, hown, hts⟩ (cL_isDepth_ok l D ty aX adC adF adH adT H.size uX uC r91  r94 e94) (va_cwS 2 hts gL_law_L_isDepth rfl rfl rfl (by decide +kernel) ⟨Nat.le_of_ble_eq_true rfl, Nat.le_of_ble_eq_true rfl⟩) hP hK hD hS hA [0, 1] (by decide) rfl rfl hl.1 rfl (Nat.le_of_ble_eq_true rfl) dL_law_94 ⟨Nat.le_of_ble_eq_true rfl, Nat.le_of_ble_eq_true rfl⟩ rfl rfl (fun H locs hP hD hS => ?_)
    have hP : va_P D vwCl (wX aX adC adH adF adT uX ++ (wC ty adC uC ++ (wF ty adF uF ++ (wH ty adH adS uH ++ (wS ty adS uS ++ wG ty aG uG))))) H := hP
    have hD : va_D A (wX aX adC adH adF adT uX ++ (wC ty adC uC ++ (wF ty adF uF ++ (wH ty adH adS uH ++ (wS ty adS uS ++ wG ty aG uG))))) := hD
    refine lv_if_eq (tgt := 109) hx hb dL_law_97 (by decide) (fun c97 => ?_) (fun c97 => ?_)
    · have h := kT h c97
      refine lv_iconst (v := 0) hx hb dL_law_109 (by decide) ?_
      exact absurd (Option.some.inj (h.trans hres)) (by decide)
    · have h := kF h c97
      refine lv_aload_n hx hb dL_law_100 rfl (lv_at hl 2 rfl) ?_
      refine lv_iload hx hb dL_law_101 (lv_at hl 0 rfl) ?_
      obtain ⟨r103, e103, h⟩ := kBd h
      refine kCallTI (As := [.ref aX, .int s0]) (rest := []) (sg := [wX aX adC adH adF adT uX, wC ty adC uC, wF ty adF uF, wH ty adH adS uH, wS ty adS uS, wG ty aG uG]) (sc := [wX aX adC adH adF adT uX, wC ty adC uC]) (s1 := [wX aX adC adH adF adT uX, wC ty adC uC]) (sn := [wX aX adC adH adF adT uX, wC ty adC uC, wF ty adF uF, wH ty adH adS uH, wS ty adS uS, wG ty aG uG]) ⟨hx, hb, hml, hown, hts⟩ (cL_isDepth_ok l D ty aX adC adF adH adT H.size uX uC s0  r103 e103) (va_cwS 2 hts gL_law_L_isDepth rfl rfl rfl (by decide +kernel) ⟨Nat.le_of_ble_eq_true rfl, Nat.le_of_ble_eq_true rfl⟩) hP hK hD hS hA [0, 1] (by decide) rfl rfl hl.1 rfl (Nat.le_of_ble_eq_true rfl) dL_law_103 ⟨Nat.le_of_ble_eq_true rfl, Nat.le_of_ble_eq_true rfl⟩ rfl rfl (fun H locs hP hD hS => ?_)
      have hP : va_P D vwCl (wX aX adC adH adF adT uX ++ (wC ty adC uC ++ (wF ty adF uF ++ (wH ty adH adS uH ++ (wS ty adS uS ++ wG ty aG uG))))) H := hP
      have hD : va_D A (wX aX adC adH adF adT uX ++ (wC ty adC uC ++ (wF ty adF uF ++ (wH ty adH adS uH ++ (wS ty adS uS ++ wG ty aG uG))))) := hD
      refine lv_if_ne (tgt := 111) hx hb dL_law_106 (by decide) (fun c106 => ?_) (fun c106 => ?_)
      · have h := kT h c106
        refine lv_iload_n hx hb dL_law_111 rfl (lv_at hl 4 rfl) ?_
        refine lv_iconst (v := 4) hx hb dL_law_112 (by decide) ?_
        refine lv_irem hx hb dL_law_113 (by decide) ?_
        refine lv_iconst (v := 3) hx hb dL_law_114 (by decide) ?_
        refine lv_icmp_ne (tgt := 165) hx hb dL_law_115 (by decide) (fun c115 => ?_) (fun c115 => ?_)
        · have h := kT h c115
          refine lv_iinc (v := (x3 + 1)) (lv' := [(3, .int (x3 + 1)), (6, .int s0), (0, .ref b), (1, .ref aX), (2, .ref aG), (5, .int x5)]) hx hb dL_law_165 hl (k := 4) rfl rfl (by decide) rfl (fun ls hl => ?_)
          refine lv_goto (tgt := 14) hx hb dL_law_168 (by decide) ?_
          exact hn14 uX uC uF uH uS uG (x3 + 1) h H locs ls hP hD hS (lv_sub hl [2, 3, 4, 0] rfl)
        · have h := kF h (fun z => z c115)
          refine lv_aload_n hx hb dL_law_118 rfl (lv_at hl 2 rfl) ?_
          obtain ⟨r119, e119, h⟩ := kBd h
          refine kCallWI (As := []) (rest := []) (sg := [wX aX adC adH adF adT uX, wC ty adC uC, wF ty adF uF, wH ty adH adS uH, wS ty adS uS, wG ty aG uG]) (sc := [wX aX adC adH adF adT uX]) (s1 := [wX aX adC adH adF adT uX]) (sn := [wX aX adC adH adF adT uX, wC ty adC uC, wF ty adF uF, wH ty adH adS uH, wS ty adS uS, wG ty aG uG]) ⟨hx, hb, hml, hown, hts⟩ (cX4_acts_ok l D ty aX adC adF adH adT H.size uX  r119 e119) (cwV 0 hts gL_law_X4_acts rfl rfl rfl (by decide +kernel) ⟨Nat.le_of_ble_eq_true rfl, Nat.le_of_ble_eq_true rfl⟩) hP hK hD hS hA [0] (by decide) rfl 4 0 rfl rfl rfl rfl hl.1 rfl (Nat.le_of_ble_eq_true rfl) dL_law_119 ⟨Nat.le_of_ble_eq_true rfl, Nat.le_of_ble_eq_true rfl⟩ rfl rfl (fun H locs hP hD hS => ?_)
          have hP : va_P D vwCl (wX aX adC adH adF adT uX ++ (wC ty adC uC ++ (wF ty adF uF ++ (wH ty adH adS uH ++ (wS ty adS uS ++ wG ty aG uG))))) H := hP
          have hD : va_D A (wX aX adC adH adF adT uX ++ (wC ty adC uC ++ (wF ty adF uF ++ (wH ty adH adS uH ++ (wS ty adS uS ++ wG ty aG uG))))) := hD
          refine lv_istore (lv' := [(7, .int r119), (6, .int s0), (0, .ref b), (1, .ref aX), (2, .ref aG), (3, .int x3), (5, .int x5)]) hx hb dL_law_122 hl (by decide) rfl (fun ls hl => ?_)
          refine lv_aload_n hx hb dL_law_124 rfl (lv_at hl 3 rfl) ?_
          obtain ⟨r125, e125, h⟩ := kBd h
          refine kCallTI (As := [.ref aX]) (rest := []) (sg := [wX aX adC adH adF adT uX, wC ty adC uC, wF ty adF uF, wH ty adH adS uH, wS ty adS uS, wG ty aG uG]) (sc := [wX aX adC adH adF adT uX, wC ty adC uC, wH ty adH adS uH, wS ty adS uS]) (s1 := [wX aX adC adH adF adT r125.2.1, wC ty adC r125.2.2.1, wH ty adH adS r125.2.2.2.1, wS ty adS r125.2.2.2.2]) (sn := [wX aX adC adH adF adT r125.2.1, wC ty adC r125.2.2.1, wF ty adF uF, wH ty adH adS r125.2.2.2.1, wS ty adS r125.2.2.2.2, wG ty aG uG]) ⟨hx, hb, hml, hown, hts⟩ (cL_isBest_ok l D ty aX adC adF adH adT adS H.size uX uC uH uS  r125 e125) (va_cwS 1 hts gL_law_L_isBest rfl rfl rfl (by decide +kernel) ⟨Nat.le_of_ble_eq_true rfl, Nat.le_of_ble_eq_true rfl⟩) hP hK hD hS hA [0, 1, 3, 4] (by decide) rfl rfl hl.1 rfl (Nat.le_of_ble_eq_true rfl) dL_law_125 ⟨Nat.le_of_ble_eq_true rfl, Nat.le_of_ble_eq_true rfl⟩ rfl rfl (fun H locs hP hD hS => ?_)
          have hP : va_P D vwCl (wX aX adC adH adF adT r125.2.1 ++ (wC ty adC r125.2.2.1 ++ (wF ty adF uF ++ (wH ty adH adS r125.2.2.2.1 ++ (wS ty adS r125.2.2.2.2 ++ wG ty aG uG))))) H := hP
          have hD : va_D A (wX aX adC adH adF adT r125.2.1 ++ (wC ty adC r125.2.2.1 ++ (wF ty adF uF ++ (wH ty adH adS r125.2.2.2.1 ++ (wS ty adS r125.2.2.2.2 ++ wG ty aG uG))))) := hD
          refine lv_istore (lv' := [(8, .int r125.1), (7, .int r119), (6, .int s0), (0, .ref b), (1, .ref aX), (2, .ref aG), (3, .int x3), (5, .int x5)]) hx hb dL_law_128 hl (by decide) rfl (fun ls hl => ?_)
          refine lv_aload_n hx hb dL_law_130 rfl (lv_at hl 5 rfl) ?_
          refine lv_iconst (v := 0) hx hb dL_law_131 (by decide) ?_
          refine lv_aload_n hx hb dL_law_132 rfl (lv_at hl 4 rfl) ?_
          obtain ⟨r133, e133, h⟩ := kBd h
          refine kCallWI (As := []) (rest := [.int (0 : Int32), .ref aG]) (sg := [wX aX adC adH adF adT r125.2.1, wC ty adC r125.2.2.1, wF ty adF uF, wH ty adH adS r125.2.2.2.1, wS ty adS r125.2.2.2.2, wG ty aG uG]) (sc := [wX aX adC adH adF adT r125.2.1]) (s1 := [wX aX adC adH adF adT r125.2.1]) (sn := [wX aX adC adH adF adT r125.2.1, wC ty adC r125.2.2.1, wF ty adF uF, wH ty adH adS r125.2.2.2.1, wS ty adS r125.2.2.2.2, wG ty aG uG]) ⟨hx, hb, hml, hown, hts⟩ (cX4_acts_ok l D ty aX adC adF adH adT H.size r125.2.1  r133 e133) (cwV 0 hts gL_law_X4_acts rfl rfl rfl (by decide +kernel) ⟨Nat.le_of_ble_eq_true rfl, Nat.le_of_ble_eq_true rfl⟩) hP hK hD hS hA [0] (by decide) rfl 4 0 rfl rfl rfl rfl hl.1 rfl (Nat.le_of_ble_eq_true rfl) dL_law_133 ⟨Nat.le_of_ble_eq_true rfl, Nat.le_of_ble_eq_true rfl⟩ rfl rfl (fun H locs hP hD hS => ?_)
          have hP : va_P D vwCl (wX aX adC adH adF adT r125.2.1 ++ (wC ty adC r125.2.2.1 ++ (wF ty adF uF ++ (wH ty adH adS r125.2.2.2.1 ++ (wS ty adS r125.2.2.2.2 ++ wG ty aG uG))))) H := hP
          have hD : va_D A (wX aX adC adH adF adT r125.2.1 ++ (wC ty adC r125.2.2.1 ++ (wF ty adF uF ++ (wH ty adH adS r125.2.2.2.1 ++ (wS ty adS r125.2.2.2.2 ++ wG ty aG uG))))) := hD
          obtain ⟨b136, h⟩ := kIf h
          refine va_iast (f := uG) (n := 1) hx hb hK.1 hP hD hS 86 0 rfl rfl (kIn_ok b136) dL_law_136 (fun H locs hP hD hS => ?_)
          have hP : va_P D vwCl (wX aX adC adH adF adT r125.2.1 ++ (wC ty adC r125.2.2.1 ++ (wF ty adF uF ++ (wH ty adH adS r125.2.2.2.1 ++ (wS ty adS r125.2.2.2.2 ++ wG ty aG ((upd uG (0 : Int32).toNatClampNeg r133))))))) H := hP
          have hD : va_D A (wX aX adC adH adF adT r125.2.1 ++ (wC ty adC r125.2.2.1 ++ (wF ty adF uF ++ (wH ty adH adS r125.2.2.2.1 ++ (wS ty adS r125.2.2.2.2 ++ wG ty aG ((upd uG (0 : Int32).toNatClampNeg r133))))))) := hD
          refine lv_iload hx hb dL_law_137 (lv_at hl 0 rfl) ?_
          refine lv_if_eq (tgt := 163) hx hb dL_law_139 (by decide) (fun c139 => ?_) (fun c139 => ?_)
          · have h := kT h c139
            refine lv_iconst (v := 0) hx hb dL_law_163 (by decide) ?_
            exact absurd (Option.some.inj (h.trans hres)) (by decide)
          · have h := kF h c139
            refine lv_aload_n hx hb dL_law_142 rfl (lv_at hl 5 rfl) ?_
            refine lv_iconst (v := 0) hx hb dL_law_143 (by decide) ?_
            obtain ⟨b144, h⟩ := kIf h
            refine va_iald (f := (upd uG (0 : Int32).toNatClampNeg r133)) (n := 1) hx hb hK.1 hP 86 0 rfl rfl (kIn_ok b144) dL_law_144 ?_
            refine lv_iload hx hb dL_law_145 (lv_at hl 1 rfl) ?_
            refine lv_aload_n hx hb dL_law_147 rfl (lv_at hl 4 rfl) ?_
            obtain ⟨r148, e148, h⟩ := kBd h
            refine kCallWI (As := []) (rest := [.int r119, .int ((upd uG (0 : Int32).toNatClampNeg r133) (0 : Int32).toNatClampNeg)]) (sg := [wX aX adC adH adF adT r125.2.1, wC ty adC r125.2.2.1, wF ty adF uF, wH ty adH adS r125.2.2.2.1, wS ty adS r125.2.2.2.2, wG ty aG ((upd uG (0 : Int32).toNatClampNeg r133))]) (sc := [wX aX adC adH adF adT r125.2.1, wC ty adC r125.2.2.1]) (s1 := [wX aX adC adH adF adT r125.2.1, wC ty adC r125.2.2.1]) (sn := [wX aX adC adH adF adT r125.2.1, wC ty adC r125.2.2.1, wF ty adF uF, wH ty adH adS r125.2.2.2.1, wS ty adS r125.2.2.2.2, wG ty aG ((upd uG (0 : Int32).toNatClampNeg r133))]) ⟨hx, hb, hml, hown, hts⟩ (cX4_bestFunction_ok l D ty aX adC adF adH adT H.size r125.2.1 r125.2.2.1  r148 e148) (cwV 0 hts gL_law_X4_bestFunction rfl rfl rfl (by decide +kernel) ⟨Nat.le_of_ble_eq_true rfl, Nat.le_of_ble_eq_true rfl⟩) hP hK hD hS hA [0, 1] (by decide) rfl 4 0 rfl rfl rfl rfl hl.1 rfl (Nat.le_of_ble_eq_true rfl) dL_law_148 ⟨Nat.le_of_ble_eq_true rfl, Nat.le_of_ble_eq_true rfl⟩ rfl rfl (fun H locs hP hD hS => ?_)
            have hP : va_P D vwCl (wX aX adC adH adF adT r125.2.1 ++ (wC ty adC r125.2.2.1 ++ (wF ty adF uF ++ (wH ty adH adS r125.2.2.2.1 ++ (wS ty adS r125.2.2.2.2 ++ wG ty aG ((upd uG (0 : Int32).toNatClampNeg r133))))))) H := hP
            have hD : va_D A (wX aX adC adH adF adT r125.2.1 ++ (wC ty adC r125.2.2.1 ++ (wF ty adF uF ++ (wH ty adH adS r125.2.2.2.1 ++ (wS ty adS r125.2.2.2.2 ++ wG ty aG ((upd uG (0 : Int32).toNatClampNeg r133))))))) := hD
            refine lv_if_ge (tgt := 158) hx hb dL_law_151 (by decide) (fun c151 => ?_) (fun c151 => ?_)
            · have h := kT h c151
              refine lv_iconst (v := 4) hx hb dL_law_158 (by decide) ?_
              exact J159 r125.2.1 r125.2.2.1 uF r125.2.2.2.1 r125.2.2.2.2 ((upd uG (0 : Int32).toNatClampNeg r133)) x3 ((upd uG (0 : Int32).toNatClampNeg r133) (0 : Int32).toNatClampNeg) r119 (4 : Int32) nx14 hn14 h H locs ls hP hD hS (lv_sub hl [3, 4, 5, 6] rfl)
            · have h := kF h c151
              refine lv_iconst (v := 1) hx hb dL_law_154 (by decide) ?_
              refine lv_goto (tgt := 159) hx hb dL_law_155 (by decide) ?_
              exact J159 r125.2.1 r125.2.2.1 uF r125.2.2.2.1 r125.2.2.2.2 ((upd uG (0 : Int32).toNatClampNeg r133)) x3 ((upd uG (0 : Int32).toNatClampNeg r133) (0 : Int32).toNatClampNeg) r119 (1 : Int32) nx14 hn14 h H locs ls hP hD hS (lv_sub hl [3, 4, 5, 6] rfl)
      · have h := kF h (fun z => z c106)
        refine lv_iconst (v := 0) hx hb dL_law_109 (by decide) ?_
        exact absurd (Option.some.inj (h.trans hres)) (by decide)
  have B14 : ∀ (nx14 : KX × KC × KF × KH × KS × KG × Int32 → Option (Int32)) (hn14 : ∀ (uX : KX) (uC : KC) (uF : KF) (uH : KH) (uS : KS) (uG : KG) (x3 : Int32), nx14 (uX, uC, uF, uH, uS, uG, x3) = some res → ∀ (H : Heap) (locs : List Loc) (ls : Array Slot), va_P D vwCl (wX aX adC adH adF adT uX ++ (wC ty adC uC ++ (wF ty adF uF ++ (wH ty adH adS uH ++ (wS ty adS uS ++ wG ty aG uG))))) H → va_D A (wX aX adC adH adF adT uX ++ (wC ty adC uC ++ (wF ty adF uF ++ (wH ty adH adS uH ++ (wS ty adS uS ++ wG ty aG uG))))) → va_S A s.heap H locs → lv_has ls 9 [(0, .ref b), (1, .ref aX), (2, .ref aG), (3, .int x3)] → W p l e room_1 s m #[Value.ref b] below meth c H locs 600000 7302250 (lw_Z below #[Value.ref b] s) (F0 m 14 ls [])) (uX : KX) (uC : KC) (uF : KF) (uH : KH) (uS : KS) (uG : KG) (x3 : Int32), fL_law_c14 L xs uX uC uF uH uS uG x3 nx14 = some res → ∀ (H : Heap) (locs : List Loc) (ls : Array Slot), va_P D vwCl (wX aX adC adH adF adT uX ++ (wC ty adC uC ++ (wF ty adF uF ++ (wH ty adH adS uH ++ (wS ty adS uS ++ wG ty aG uG))))) H → va_D A (wX aX adC adH adF adT uX ++ (wC ty adC uC ++ (wF ty adF uF ++ (wH ty adH adS uH ++ (wS ty adS uS ++ wG ty aG uG))))) → va_S A s.heap H locs → lv_has ls 9 [(0, .ref b), (1, .ref aX), (2, .ref aG), (3, .int x3)] → W p l e room_1 s m #[Value.ref b] below meth c H locs 600000 7302250 (lw_Z below #[Value.ref b] s) (F0 m 14 ls []) := by
    intro nx14 hn14 uX uC uF uH uS uG x3 h H locs ls hP hD hS hl
    unfold fL_law_c14 at h
    refine lv_iload_n hx hb dL_law_14 rfl (lv_at hl 3 rfl) ?_
    refine lv_bipush (v := 24) hx hb dL_law_15 (by decide) ?_
    refine lv_icmp_ge (tgt := 171) hx hb dL_law_17 (by decide) (fun c17 => ?_) (fun c17 => ?_)
    · have h := kT h c17
      refine lv_aload_n hx hb dL_law_171 rfl (lv_at hl 1 rfl) ?_
      obtain ⟨r172, e172, h⟩ := kBd h
      refine kCallWI (As := []) (rest := []) (sg := [wX aX adC adH adF adT uX, wC ty adC uC, wF ty adF uF, wH ty adH adS uH, wS ty adS uS, wG ty aG uG]) (sc := [wX aX adC adH adF adT uX]) (s1 := [wX aX adC adH adF adT uX]) (sn := [wX aX adC adH adF adT uX, wC ty adC uC, wF ty adF uF, wH ty adH adS uH, wS ty adS uS, wG ty aG uG]) ⟨hx, hb, hml, hown, hts⟩ (cX4_acts_ok l D ty aX adC adF adH adT H.size uX  r172 e172) (cwV 0 hts gL_law_X4_acts rfl rfl rfl (by decide +kernel) ⟨Nat.le_of_ble_eq_true rfl, Nat.le_of_ble_eq_true rfl⟩) hP hK hD hS hA [0] (by decide) rfl 4 0 rfl rfl rfl rfl hl.1 rfl (Nat.le_of_ble_eq_true rfl) dL_law_172 ⟨Nat.le_of_ble_eq_true rfl, Nat.le_of_ble_eq_true rfl⟩ rfl rfl (fun H locs hP hD hS => ?_)
      have hP : va_P D vwCl (wX aX adC adH adF adT uX ++ (wC ty adC uC ++ (wF ty adF uF ++ (wH ty adH adS uH ++ (wS ty adS uS ++ wG ty aG uG))))) H := hP
      have hD : va_D A (wX aX adC adH adF adT uX ++ (wC ty adC uC ++ (wF ty adF uF ++ (wH ty adH adS uH ++ (wS ty adS uS ++ wG ty aG uG))))) := hD
      refine lv_istore_n (lv' := [(3, .int r172), (0, .ref b), (1, .ref aX), (2, .ref aG)]) hx hb dL_law_175 rfl hl (by decide) rfl (fun ls hl => ?_)
      refine lv_aload_n hx hb dL_law_176 rfl (lv_at hl 2 rfl) ?_
      obtain ⟨r177, e177, h⟩ := kBd h
      refine kCallWI (As := []) (rest := []) (sg := [wX aX adC adH adF adT uX, wC ty adC uC, wF ty adF uF, wH ty adH adS uH, wS ty adS uS, wG ty aG uG]) (sc := [wX aX adC adH adF adT uX, wC ty adC uC, wH ty adH adS uH, wS ty adS uS]) (s1 := [wX aX adC adH adF adT uX, wC ty adC r177.2.1, wH ty adH adS r177.2.2, wS ty adS uS]) (sn := [wX aX adC adH adF adT uX, wC ty adC r177.2.1, wF ty adF uF, wH ty adH adS r177.2.2, wS ty adS uS, wG ty aG uG]) ⟨hx, hb, hml, hown, hts⟩ (cX4_undo_ok l D ty aX adC adF adH adT adS H.size uX uC uH uS  r177 e177) (cwV 0 hts gL_law_X4_undo rfl rfl rfl (by decide +kernel) ⟨Nat.le_of_ble_eq_true rfl, Nat.le_of_ble_eq_true rfl⟩) hP hK hD hS hA [0, 1, 3, 4] (by decide) rfl 4 0 rfl rfl rfl rfl hl.1 rfl (Nat.le_of_ble_eq_true rfl) dL_law_177 ⟨Nat.le_of_ble_eq_true rfl, Nat.le_of_ble_eq_true rfl⟩ rfl rfl (fun H locs hP hD hS => ?_)
      have hP : va_P D vwCl (wX aX adC adH adF adT uX ++ (wC ty adC r177.2.1 ++ (wF ty adF uF ++ (wH ty adH adS r177.2.2 ++ (wS ty adS uS ++ wG ty aG uG))))) H := hP
      have hD : va_D A (wX aX adC adH adF adT uX ++ (wC ty adC r177.2.1 ++ (wF ty adF uF ++ (wH ty adH adS r177.2.2 ++ (wS ty adS uS ++ wG ty aG uG))))) := hD
      refine lv_istore (lv' := [(4, .int r177.1), (3, .int r172), (0, .ref b), (1, .ref aX), (2, .ref aG)]) hx hb dL_law_180 hl (by decide) rfl (fun ls hl => ?_)
      refine lv_aload_n hx hb dL_law_182 rfl (lv_at hl 3 rfl) ?_
      obtain ⟨r183, e183, h⟩ := kBd h
      refine kCallWI (As := []) (rest := []) (sg := [wX aX adC adH adF adT uX, wC ty adC r177.2.1, wF ty adF uF, wH ty adH adS r177.2.2, wS ty adS uS, wG ty aG uG]) (sc := [wX aX adC adH adF adT uX]) (s1 := [wX aX adC adH adF adT uX]) (sn := [wX aX adC adH adF adT uX, wC ty adC r177.2.1, wF ty adF uF, wH ty adH adS r177.2.2, wS ty adS uS, wG ty aG uG]) ⟨hx, hb, hml, hown, hts⟩ (cX4_acts_ok l D ty aX adC adF adH adT H.size uX  r183 e183) (cwV 0 hts gL_law_X4_acts rfl rfl rfl (by decide +kernel) ⟨Nat.le_of_ble_eq_true rfl, Nat.le_of_ble_eq_true rfl⟩) hP hK hD hS hA [0] (by decide) rfl 4 0 rfl rfl rfl rfl hl.1 rfl (Nat.le_of_ble_eq_true rfl) dL_law_183 ⟨Nat.le_of_ble_eq_true rfl, Nat.le_of_ble_eq_true rfl⟩ rfl rfl (fun H locs hP hD hS => ?_)
      have hP : va_P D vwCl (wX aX adC adH adF adT uX ++ (wC ty adC r177.2.1 ++ (wF ty adF uF ++ (wH ty adH adS r177.2.2 ++ (wS ty adS uS ++ wG ty aG uG))))) H := hP
      have hD : va_D A (wX aX adC adH adF adT uX ++ (wC ty adC r177.2.1 ++ (wF ty adF uF ++ (wH ty adH adS r177.2.2 ++ (wS ty adS uS ++ wG ty aG uG))))) := hD
      refine lv_iload_n hx hb dL_law_186 rfl (lv_at hl 1 rfl) ?_
      refine lv_icmp_ne (tgt := 206) hx hb dL_law_187 (by decide) (fun c187 => ?_) (fun c187 => ?_)
      · have h := kT h c187
        refine lv_iconst (v := 0) hx hb dL_law_206 (by decide) ?_
        exact absurd (Option.some.inj (h.trans hres)) (by decide)
      · have h := kF h (fun z => z c187)
        refine lv_iload hx hb dL_law_190 (lv_at hl 0 rfl) ?_
        refine lv_if_ge (tgt := 202) hx hb dL_law_192 (by decide) (fun c192 => ?_) (fun c192 => ?_)
        · have h := kT h c192
          refine lv_iconst (v := 1) hx hb dL_law_202 (by decide) ?_
          refine lv_goto (tgt := 207) hx hb dL_law_203 (by decide) ?_
          have hv : (1 : Int32) = 1 := Option.some.inj (h.trans hres)
          rw [hv]
          refine va_forget (fun q hq => by have z := hS.2.2 q hq; rw [hAe] at z; exact z) ?_
          exact lw_ret hx hb hr hlocks dL_law_207
        · have h := kF h c192
          refine lv_iload hx hb dL_law_195 (lv_at hl 0 rfl) ?_
          refine lv_ldc hx hb hown wf0 dL_law_197 ?_
          refine lv_icmp_ne (tgt := 206) hx hb dL_law_199 (by decide) (fun c199 => ?_) (fun c199 => ?_)
          · have h := kT h c199
            refine lv_iconst (v := 0) hx hb dL_law_206 (by decide) ?_
            exact absurd (Option.some.inj (h.trans hres)) (by decide)
          · have h := kF h (fun z => z c199)
            refine lv_iconst (v := 1) hx hb dL_law_202 (by decide) ?_
            refine lv_goto (tgt := 207) hx hb dL_law_203 (by decide) ?_
            have hv : (1 : Int32) = 1 := Option.some.inj (h.trans hres)
            rw [hv]
            refine va_forget (fun q hq => by have z := hS.2.2 q hq; rw [hAe] at z; exact z) ?_
            exact lw_ret hx hb hr hlocks dL_law_207
    · have h := kF h c17
      refine lv_aload_n hx hb dL_law_20 rfl (lv_at hl 0 rfl) ?_
      refine lv_iconst (v := 2) hx hb dL_law_21 (by decide) ?_
      refine lv_iload_n hx hb dL_law_22 rfl (lv_at hl 3 rfl) ?_
      refine lv_imul hx hb dL_law_23 ?_
      obtain ⟨r24, e24, h⟩ := kBd h
      refine kCallCell (rest := []) hcell ⟨hx, hb, hml, hown, hts⟩ r24 ((2 : Int32) * x3) e24 (va_cwS 2 hts gL_law_L_cell rfl rfl rfl (by decide +kernel) ⟨Nat.le_of_ble_eq_true rfl, Nat.le_of_ble_eq_true rfl⟩) hP hK hD hS hA hX hbl hbA rfl hl.1 (Nat.le_of_ble_eq_true rfl) dL_law_24 ⟨Nat.le_of_ble_eq_true rfl, Nat.le_of_ble_eq_true rfl⟩ (fun H locs hP hS => ?_)
      refine lv_istore (lv' := [(4, .int r24), (0, .ref b), (1, .ref aX), (2, .ref aG), (3, .int x3)]) hx hb dL_law_27 hl (by decide) rfl (fun ls hl => ?_)
      refine lv_aload_n hx hb dL_law_29 rfl (lv_at hl 1 rfl) ?_
      refine lv_iconst (v := 2) hx hb dL_law_30 (by decide) ?_
      refine lv_iload_n hx hb dL_law_31 rfl (lv_at hl 4 rfl) ?_
      refine lv_imul hx hb dL_law_32 ?_
      refine lv_iconst (v := 1) hx hb dL_law_33 (by decide) ?_
      refine lv_iadd hx hb dL_law_34 ?_
      obtain ⟨r35, e35, h⟩ := kBd h
      refine kCallCell (rest := []) hcell ⟨hx, hb, hml, hown, hts⟩ r35 (((2 : Int32) * x3) + (1 : Int32)) e35 (va_cwS 2 hts gL_law_L_cell rfl rfl rfl (by decide +kernel) ⟨Nat.le_of_ble_eq_true rfl, Nat.le_of_ble_eq_true rfl⟩) hP hK hD hS hA hX hbl hbA rfl hl.1 (Nat.le_of_ble_eq_true rfl) dL_law_35 ⟨Nat.le_of_ble_eq_true rfl, Nat.le_of_ble_eq_true rfl⟩ (fun H locs hP hS => ?_)
      refine lv_istore (lv' := [(5, .int r35), (4, .int r24), (0, .ref b), (1, .ref aX), (2, .ref aG), (3, .int x3)]) hx hb dL_law_38 hl (by decide) rfl (fun ls hl => ?_)
      refine lv_aload_n hx hb dL_law_40 rfl (lv_at hl 3 rfl) ?_
      refine lv_aload_n hx hb dL_law_41 rfl (lv_at hl 4 rfl) ?_
      refine lv_iload hx hb dL_law_42 (lv_at hl 1 rfl) ?_
      refine lv_iload hx hb dL_law_44 (lv_at hl 0 rfl) ?_
      obtain ⟨r46, e46, h⟩ := kBd h
      refine kCallTI (As := [.ref aX, .ref aG, .int r24, .int r35]) (rest := []) (sg := [wX aX adC adH adF adT uX, wC ty adC uC, wF ty adF uF, wH ty adH adS uH, wS ty adS uS, wG ty aG uG]) (sc := [wX aX adC adH adF adT uX, wC ty adC uC, wF ty adF uF, wH ty adH adS uH, wS ty adS uS, wG ty aG uG]) (s1 := [wX aX adC adH adF adT r46.2.1, wC ty adC r46.2.2.1, wF ty adF r46.2.2.2.1, wH ty adH adS r46.2.2.2.2.1, wS ty adS r46.2.2.2.2.2.1, wG ty aG r46.2.2.2.2.2.2]) (sn := [wX aX adC adH adF adT r46.2.1, wC ty adC r46.2.2.1, wF ty adF r46.2.2.2.1, wH ty adH adS r46.2.2.2.2.1, wS ty adS r46.2.2.2.2.2.1, wG ty aG r46.2.2.2.2.2.2]) ⟨hx, hb, hml, hown, hts⟩ (cL_change_ok l D ty aX adC adF adH adT adS aG H.size uX uC uF uH uS uG r24 r35  r46 e46) (va_cwS 4 hts gL_law_L_change rfl rfl rfl (by decide +kernel) ⟨Nat.le_of_ble_eq_true rfl, Nat.le_of_ble_eq_true rfl⟩) hP hK hD hS hA [0, 1, 2, 3, 4, 5] (by decide) rfl rfl hl.1 rfl (Nat.le_of_ble_eq_true rfl) dL_law_46 ⟨Nat.le_of_ble_eq_true rfl, Nat.le_of_ble_eq_true rfl⟩ rfl rfl (fun H locs hP hD hS => ?_)
      have hP : va_P D vwCl (wX aX adC adH adF adT r46.2.1 ++ (wC ty adC r46.2.2.1 ++ (wF ty adF r46.2.2.2.1 ++ (wH ty adH adS r46.2.2.2.2.1 ++ (wS ty adS r46.2.2.2.2.2.1 ++ wG ty aG r46.2.2.2.2.2.2))))) H := hP
      have hD : va_D A (wX aX adC adH adF adT r46.2.1 ++ (wC ty adC r46.2.2.1 ++ (wF ty adF r46.2.2.2.1 ++ (wH ty adH adS r46.2.2.2.2.1 ++ (wS ty adS r46.2.2.2.2.2.1 ++ wG ty aG r46.2.2.2.2.2.2))))) := hD
      refine lv_if_eq (tgt := 59) hx hb dL_law_49 (by decide) (fun c49 => ?_) (fun c49 => ?_)
      · have h := kT h c49
        refine lv_iconst (v := 0) hx hb dL_law_59 (by decide) ?_
        exact absurd (Option.some.inj (h.trans hres)) (by decide)
      · have h := kF h c49
        refine lv_aload_n hx hb dL_law_52 rfl (lv_at hl 3 rfl) ?_
        obtain ⟨r53, e53, h⟩ := kBd h
        refine kCallTI (As := [.ref aX]) (rest := []) (sg := [wX aX adC adH adF adT r46.2.1, wC ty adC r46.2.2.1, wF ty adF r46.2.2.2.1, wH ty adH adS r46.2.2.2.2.1, wS ty adS r46.2.2.2.2.2.1, wG ty aG r46.2.2.2.2.2.2]) (sc := [wX aX adC adH adF adT r46.2.1, wC ty adC r46.2.2.1]) (s1 := [wX aX adC adH adF adT r46.2.1, wC ty adC r46.2.2.1]) (sn := [wX aX adC adH adF adT r46.2.1, wC ty adC r46.2.2.1, wF ty adF r46.2.2.2.1, wH ty adH adS r46.2.2.2.2.1, wS ty adS r46.2.2.2.2.2.1, wG ty aG r46.2.2.2.2.2.2]) ⟨hx, hb, hml, hown, hts⟩ (cL_areAges_ok l D ty aX adC adF adH adT H.size r46.2.1 r46.2.2.1  r53 e53) (va_cwS 1 hts gL_law_L_areAges rfl rfl rfl (by decide +kernel) ⟨Nat.le_of_ble_eq_true rfl, Nat.le_of_ble_eq_true rfl⟩) hP hK hD hS hA [0, 1] (by decide) rfl rfl hl.1 rfl (Nat.le_of_ble_eq_true rfl) dL_law_53 ⟨Nat.le_of_ble_eq_true rfl, Nat.le_of_ble_eq_true rfl⟩ rfl rfl (fun H locs hP hD hS => ?_)
        have hP : va_P D vwCl (wX aX adC adH adF adT r46.2.1 ++ (wC ty adC r46.2.2.1 ++ (wF ty adF r46.2.2.2.1 ++ (wH ty adH adS r46.2.2.2.2.1 ++ (wS ty adS r46.2.2.2.2.2.1 ++ wG ty aG r46.2.2.2.2.2.2))))) H := hP
        have hD : va_D A (wX aX adC adH adF adT r46.2.1 ++ (wC ty adC r46.2.2.1 ++ (wF ty adF r46.2.2.2.1 ++ (wH ty adH adS r46.2.2.2.2.1 ++ (wS ty adS r46.2.2.2.2.2.1 ++ wG ty aG r46.2.2.2.2.2.2))))) := hD
        refine lv_if_ne (tgt := 61) hx hb dL_law_56 (by decide) (fun c56 => ?_) (fun c56 => ?_)
        · have h := kT h c56
          refine lv_aload_n hx hb dL_law_61 rfl (lv_at hl 3 rfl) ?_
          obtain ⟨r62, e62, h⟩ := kBd h
          refine kCallWI (As := []) (rest := []) (sg := [wX aX adC adH adF adT r46.2.1, wC ty adC r46.2.2.1, wF ty adF r46.2.2.2.1, wH ty adH adS r46.2.2.2.2.1, wS ty adS r46.2.2.2.2.2.1, wG ty aG r46.2.2.2.2.2.2]) (sc := [wX aX adC adH adF adT r46.2.1, wC ty adC r46.2.2.1]) (s1 := [wX aX adC adH adF adT r46.2.1, wC ty adC r46.2.2.1]) (sn := [wX aX adC adH adF adT r46.2.1, wC ty adC r46.2.2.1, wF ty adF r46.2.2.2.1, wH ty adH adS r46.2.2.2.2.1, wS ty adS r46.2.2.2.2.2.1, wG ty aG r46.2.2.2.2.2.2]) ⟨hx, hb, hml, hown, hts⟩ (cX4_layers_ok l D ty aX adC adF adH adT H.size r46.2.1 r46.2.2.1  r62 e62) (cwV 0 hts gL_law_X4_layers rfl rfl rfl (by decide +kernel) ⟨Nat.le_of_ble_eq_true rfl, Nat.le_of_ble_eq_true rfl⟩) hP hK hD hS hA [0, 1] (by decide) rfl 4 0 rfl rfl rfl rfl hl.1 rfl (Nat.le_of_ble_eq_true rfl) dL_law_62 ⟨Nat.le_of_ble_eq_true rfl, Nat.le_of_ble_eq_true rfl⟩ rfl rfl (fun H locs hP hD hS => ?_)
          have hP : va_P D vwCl (wX aX adC adH adF adT r46.2.1 ++ (wC ty adC r46.2.2.1 ++ (wF ty adF r46.2.2.2.1 ++ (wH ty adH adS r46.2.2.2.2.1 ++ (wS ty adS r46.2.2.2.2.2.1 ++ wG ty aG r46.2.2.2.2.2.2))))) H := hP
          have hD : va_D A (wX aX adC adH adF adT r46.2.1 ++ (wC ty adC r46.2.2.1 ++ (wF ty adF r46.2.2.2.1 ++ (wH ty adH adS r46.2.2.2.2.1 ++ (wS ty adS r46.2.2.2.2.2.1 ++ wG ty aG r46.2.2.2.2.2.2))))) := hD
          refine lv_if_ne (tgt := 72) hx hb dL_law_65 (by decide) (fun c65 => ?_) (fun c65 => ?_)
          · have h := kT h c65
            refine lv_aload_n hx hb dL_law_72 rfl (lv_at hl 3 rfl) ?_
            refine lv_aload_n hx hb dL_law_73 rfl (lv_at hl 3 rfl) ?_
            obtain ⟨r74, e74, h⟩ := kBd h
            refine kCallWI (As := []) (rest := [.ref aX]) (sg := [wX aX adC adH adF adT r46.2.1, wC ty adC r46.2.2.1, wF ty adF r46.2.2.2.1, wH ty adH adS r46.2.2.2.2.1, wS ty adS r46.2.2.2.2.2.1, wG ty aG r46.2.2.2.2.2.2]) (sc := [wX aX adC adH adF adT r46.2.1, wC ty adC r46.2.2.1]) (s1 := [wX aX adC adH adF adT r46.2.1, wC ty adC r46.2.2.1]) (sn := [wX aX adC adH adF adT r46.2.1, wC ty adC r46.2.2.1, wF ty adF r46.2.2.2.1, wH ty adH adS r46.2.2.2.2.1, wS ty adS r46.2.2.2.2.2.1, wG ty aG r46.2.2.2.2.2.2]) ⟨hx, hb, hml, hown, hts⟩ (cX4_depth_ok l D ty aX adC adF adH adT H.size r46.2.1 r46.2.2.1  r74 e74) (cwV 0 hts gL_law_X4_depth rfl rfl rfl (by decide +kernel) ⟨Nat.le_of_ble_eq_true rfl, Nat.le_of_ble_eq_true rfl⟩) hP hK hD hS hA [0, 1] (by decide) rfl 4 0 rfl rfl rfl rfl hl.1 rfl (Nat.le_of_ble_eq_true rfl) dL_law_74 ⟨Nat.le_of_ble_eq_true rfl, Nat.le_of_ble_eq_true rfl⟩ rfl rfl (fun H locs hP hD hS => ?_)
            have hP : va_P D vwCl (wX aX adC adH adF adT r46.2.1 ++ (wC ty adC r46.2.2.1 ++ (wF ty adF r46.2.2.2.1 ++ (wH ty adH adS r46.2.2.2.2.1 ++ (wS ty adS r46.2.2.2.2.2.1 ++ wG ty aG r46.2.2.2.2.2.2))))) H := hP
            have hD : va_D A (wX aX adC adH adF adT r46.2.1 ++ (wC ty adC r46.2.2.1 ++ (wF ty adF r46.2.2.2.1 ++ (wH ty adH adS r46.2.2.2.2.1 ++ (wS ty adS r46.2.2.2.2.2.1 ++ wG ty aG r46.2.2.2.2.2.2))))) := hD
            obtain ⟨r77, e77, h⟩ := kBd h
            refine kCallWI (As := [.int r74]) (rest := []) (sg := [wX aX adC adH adF adT r46.2.1, wC ty adC r46.2.2.1, wF ty adF r46.2.2.2.1, wH ty adH adS r46.2.2.2.2.1, wS ty adS r46.2.2.2.2.2.1, wG ty aG r46.2.2.2.2.2.2]) (sc := [wX aX adC adH adF adT r46.2.1, wC ty adC r46.2.2.1]) (s1 := [wX aX adC adH adF adT r46.2.1, wC ty adC r46.2.2.1]) (sn := [wX aX adC adH adF adT r46.2.1, wC ty adC r46.2.2.1, wF ty adF r46.2.2.2.1, wH ty adH adS r46.2.2.2.2.1, wS ty adS r46.2.2.2.2.2.1, wG ty aG r46.2.2.2.2.2.2]) ⟨hx, hb, hml, hown, hts⟩ (cX4_age_ok l D ty aX adC adF adH adT H.size r46.2.1 r46.2.2.1 r74  r77 e77) (cwV 1 hts gL_law_X4_age rfl rfl rfl (by decide +kernel) ⟨Nat.le_of_ble_eq_true rfl, Nat.le_of_ble_eq_true rfl⟩) hP hK hD hS hA [0, 1] (by decide) rfl 4 0 rfl rfl rfl rfl hl.1 rfl (Nat.le_of_ble_eq_true rfl) dL_law_77 ⟨Nat.le_of_ble_eq_true rfl, Nat.le_of_ble_eq_true rfl⟩ rfl rfl (fun H locs hP hD hS => ?_)
            have hP : va_P D vwCl (wX aX adC adH adF adT r46.2.1 ++ (wC ty adC r46.2.2.1 ++ (wF ty adF r46.2.2.2.1 ++ (wH ty adH adS r46.2.2.2.2.1 ++ (wS ty adS r46.2.2.2.2.2.1 ++ wG ty aG r46.2.2.2.2.2.2))))) H := hP
            have hD : va_D A (wX aX adC adH adF adT r46.2.1 ++ (wC ty adC r46.2.2.1 ++ (wF ty adF r46.2.2.2.1 ++ (wH ty adH adS r46.2.2.2.2.1 ++ (wS ty adS r46.2.2.2.2.2.1 ++ wG ty aG r46.2.2.2.2.2.2))))) := hD
            exact J80 r46.2.1 r46.2.2.1 r46.2.2.2.1 r46.2.2.2.2.1 r46.2.2.2.2.2.1 r46.2.2.2.2.2.2 x3 r35 r77 nx14 hn14 h H locs ls hP hD hS (lv_sub hl [2, 3, 4, 5, 0] rfl)
          · have h := kF h (fun z => z c65)
            refine lv_iconst (v := 0) hx hb dL_law_68 (by decide) ?_
            refine lv_goto (tgt := 80) hx hb dL_law_69 (by decide) ?_
            exact J80 r46.2.1 r46.2.2.1 r46.2.2.2.1 r46.2.2.2.2.1 r46.2.2.2.2.2.1 r46.2.2.2.2.2.2 x3 r35 (0 : Int32) nx14 hn14 h H locs ls hP hD hS (lv_sub hl [2, 3, 4, 5, 0] rfl)
        · have h := kF h (fun z => z c56)
          refine lv_iconst (v := 0) hx hb dL_law_59 (by decide) ?_
          exact absurd (Option.some.inj (h.trans hres)) (by decide)
  have L14 : ∀ (n : Nat) (uX : KX) (uC : KC) (uF : KF) (uH : KH) (uS : KS) (uG : KG) (x3 : Int32), kLoopC n (fun q nx14 => fL_law_c14 L xs q.1 q.2.1 q.2.2.1 q.2.2.2.1 q.2.2.2.2.1 q.2.2.2.2.2.1 q.2.2.2.2.2.2 nx14) (uX, uC, uF, uH, uS, uG, x3) = some res → ∀ (H : Heap) (locs : List Loc) (ls : Array Slot), va_P D vwCl (wX aX adC adH adF adT uX ++ (wC ty adC uC ++ (wF ty adF uF ++ (wH ty adH adS uH ++ (wS ty adS uS ++ wG ty aG uG))))) H → va_D A (wX aX adC adH adF adT uX ++ (wC ty adC uC ++ (wF ty adF uF ++ (wH ty adH adS uH ++ (wS ty adS uS ++ wG ty aG uG))))) → va_S A s.heap H locs → lv_has ls 9 [(0, .ref b), (1, .ref aX), (2, .ref aG), (3, .int x3)] → W p l e room_1 s m #[Value.ref b] below meth c H locs 600000 7302250 (lw_Z below #[Value.ref b] s) (F0 m 14 ls []) := by
    intro n
    induction n with
    | zero => intro uX uC uF uH uS uG x3 h; exact absurd h (by simp [kLoopC])
    | succ n ih => intro uX uC uF uH uS uG x3 h; exact B14 (kLoopC n (fun q nx14 => fL_law_c14 L xs q.1 q.2.1 q.2.2.1 q.2.2.2.1 q.2.2.2.2.1 q.2.2.2.2.2.1 q.2.2.2.2.2.2 nx14)) ih uX uC uF uH uS uG x3 h
  unfold fL_law at h
  intro H locs ls hP hD hS hl
  exact L14   kFu vX vC vF vH vS vG p3 h H locs ls hP hD hS (lv_sub hl [3, 2, 1, 0] rfl)
