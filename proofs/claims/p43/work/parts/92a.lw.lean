def fL_low (p0 : Int32) (p1 : Int32) : Option (Int32) := if ¬ p1 = 0 then (some ((p0 &&& (2147483647 : Int32)) - (p0 &&& (2147483647 : Int32)) / p1 * p1)) else none
set_option maxHeartbeats 4000000 in
set_option maxRecDepth 100000 in
theorem cL_low_ok (l : Launch) (D : va_G) (ty : kTy)  (sz : Nat) (p0 : Int32) (p1 : Int32)  (res : Int32) (h : fL_low p0 p1 = some res) : kMI l yL_low wsL_low { frames := 0, cells := 0, slots := 0, locals := 0 } [.int p0, .int p1] D ty (([] : va_W)) sz res (([] : va_W)) := by
  refine Met.ofW (cc := cL_low) (maxL := 2) (ret := (some .int)) (by decide) rfl ?_
  intro p e s m args below meth c s₁ B hml hv
  obtain ⟨rfl, hsz, hP, hK, hD0⟩ := hv
  have hx := B.exec
  have hb := B.bytes
  have hr := B.returns
  have hts := atoms_spec (ws := wsL_low) B.pre
  have hown : s.vm.findClass RL = some m.cls := findClass_of_methodNamed B.named
  have hlocks := B.notSynchronized
  subst hsz
  have hD := hD0.self (sz := s.heap.size)
  generalize hAe : va_A (([] : va_W)) s.heap.size = A at hD ⊢
  have hA : ∀ q : Nat, s.heap.size ≤ q → A q := fun q h => by rw [← hAe]; exact Or.inr h
  have hS : va_S A s.heap s.heap [] := va_S.rf
  refine kGenW (fun Q hQ => ?_)
  have wf0 := hts (.constant RL 8 (2147483647)) (by decide +kernel)
  have hl := lv_entry ([.int p0, .int p1]) (n := 2) (Nat.le_of_ble_eq_true rfl)
  rw [lg_entry_eq]
  generalize (lg_sl ([.int p0, .int p1]) ++ List.replicate (2 - (lg_sl ([.int p0, .int p1])).length) Slot.unset).toArray = ls at hl ⊢
  have hl : lv_has ls 2 [(0, .int p0), (1, .int p1)] := hl
  unfold fL_low at h
  have E0 : ∀ (H : Heap) (locs : List Loc) (ls : Array Slot), va_P D vwCl (([] : va_W)) H → va_D A (([] : va_W)) → va_S A s.heap H locs → lv_has ls 2 [(0, .int p0), (1, .int p1)] → W p l e (headSpec wsL_low { frames := 0, cells := 0, slots := 0, locals := 0 }).room s m ([.int p0, .int p1] : List Value).toArray below meth c H locs 0 0 Q (F0 m 0 ls []) := by
    intro H locs ls hP hD hS hl
    refine lv_iload_n hx hb dL_low_0 rfl (lv_at hl 0 rfl) ?_
    refine lv_ldc hx hb hown wf0 dL_low_1 ?_
    refine lv_iand hx hb dL_low_3 ?_
    refine lv_iload_n hx hb dL_low_4 rfl (lv_at hl 1 rfl) ?_
    obtain ⟨b5, h⟩ := kIf h
    refine lv_irem hx hb dL_low_5 b5 ?_
    obtain rfl := Option.some.inj h
    subst hQ
    exact W.iret (v := ((p0 &&& (2147483647 : Int32)) - (p0 &&& (2147483647 : Int32)) / p1 * p1)) hx hb hr (fun t ht hW => ⟨⟨((p0 &&& (2147483647 : Int32)) - (p0 &&& (2147483647 : Int32)) / p1 * p1), (), rfl, rfl, kEnd ht hP⟩, hS.F ht⟩) hS.2.2 dL_low_6
  exact E0 s.heap [] ls hP hD hS hl
def fL_size (p0 : Int32) : Option (Int32) := if (0 : Int32) ≤ p0 then some p0 else some (-p0)
set_option maxHeartbeats 4000000 in
set_option maxRecDepth 100000 in
theorem cL_size_ok (l : Launch) (D : va_G) (ty : kTy)  (sz : Nat) (p0 : Int32)  (res : Int32) (h : fL_size p0 = some res) : kMI l yL_size wsL_size { frames := 0, cells := 0, slots := 0, locals := 0 } [.int p0] D ty (([] : va_W)) sz res (([] : va_W)) := by
  refine Met.ofW (cc := cL_size) (maxL := 1) (ret := (some .int)) (by decide) rfl ?_
  intro p e s m args below meth c s₁ B hml hv
  obtain ⟨rfl, hsz, hP, hK, hD0⟩ := hv
  have hx := B.exec
  have hb := B.bytes
  have hr := B.returns
  have hts := atoms_spec (ws := wsL_size) B.pre
  have hown : s.vm.findClass RL = some m.cls := findClass_of_methodNamed B.named
  have hlocks := B.notSynchronized
  subst hsz
  have hD := hD0.self (sz := s.heap.size)
  generalize hAe : va_A (([] : va_W)) s.heap.size = A at hD ⊢
  have hA : ∀ q : Nat, s.heap.size ≤ q → A q := fun q h => by rw [← hAe]; exact Or.inr h
  have hS : va_S A s.heap s.heap [] := va_S.rf
  refine kGenW (fun Q hQ => ?_)
  have hl := lv_entry ([.int p0]) (n := 1) (Nat.le_of_ble_eq_true rfl)
  rw [lg_entry_eq]
  generalize (lg_sl ([.int p0]) ++ List.replicate (1 - (lg_sl ([.int p0])).length) Slot.unset).toArray = ls at hl ⊢
  have hl : lv_has ls 1 [(0, .int p0)] := hl
  unfold fL_size at h
  have E0 : ∀ (H : Heap) (locs : List Loc) (ls : Array Slot), va_P D vwCl (([] : va_W)) H → va_D A (([] : va_W)) → va_S A s.heap H locs → lv_has ls 1 [(0, .int p0)] → W p l e (headSpec wsL_size { frames := 0, cells := 0, slots := 0, locals := 0 }).room s m ([.int p0] : List Value).toArray below meth c H locs 0 0 Q (F0 m 0 ls []) := by
    intro H locs ls hP hD hS hl
    refine lv_iload_n hx hb dL_size_0 rfl (lv_at hl 0 rfl) ?_
    refine lv_if_ge (tgt := 9) hx hb dL_size_1 (by decide) (fun c1 => ?_) (fun c1 => ?_)
    · have h := kT h c1
      refine lv_iload_n hx hb dL_size_9 rfl (lv_at hl 0 rfl) ?_
      obtain rfl := Option.some.inj h
      subst hQ
      exact W.iret (v := p0) hx hb hr (fun t ht hW => ⟨⟨p0, (), rfl, rfl, kEnd ht hP⟩, hS.F ht⟩) hS.2.2 dL_size_10
    · have h := kF h c1
      refine lv_iload_n hx hb dL_size_4 rfl (lv_at hl 0 rfl) ?_
      refine lv_ineg hx hb dL_size_5 ?_
      refine lv_goto (tgt := 10) hx hb dL_size_6 (by decide) ?_
      obtain rfl := Option.some.inj h
      subst hQ
      exact W.iret (v := (-p0)) hx hb hr (fun t ht hW => ⟨⟨(-p0), (), rfl, rfl, kEnd ht hP⟩, hS.F ht⟩) hS.2.2 dL_size_10
  exact E0 s.heap [] ls hP hD hS hl
def fL_change_c455 (uX : KX) (uC : KC) (uF : KF) (uH : KH) (uS : KS) (uG : KG) (s0 : Int32) (s1 : Int32) : Option (Int32 × KX × KC × KF × KH × KS × KG) := if ¬ s0 = s1 then (some ((0 : Int32), uX, uC, uF, uH, uS, uG)) else ((fX4_acts uX).bind fun r459 => if kIn (0 : Int32) 1 = true then (if ¬ r459 = (uG (0 : Int32).toNatClampNeg) then (some ((0 : Int32), uX, uC, uF, uH, uS, uG)) else (some ((1 : Int32), uX, uC, uF, uH, uS, uG))) else none)
def fL_change_c436 (uX : KX) (uC : KC) (uF : KF) (uH : KH) (uS : KS) (uG : KG) (x6 : Int32) (x8 : Int32) (s1 : Int32) (s2 : Int32) : Option (Int32 × KX × KC × KF × KH × KS × KG) := if kIn s1 1 = true then ((fX4_acts uX).bind fun r438 => if x8 = (0 : Int32) then (fL_change_c455 uX uC uF uH uS ((upd uG s1.toNatClampNeg s2)) r438 (x6 + (1 : Int32))) else (fL_change_c455 uX uC uF uH uS ((upd uG s1.toNatClampNeg s2)) r438 x6)) else none
def fL_change_c416 (uX : KX) (uC : KC) (uF : KF) (uH : KH) (uS : KS) (uG : KG) (x6 : Int32) (s0 : Int32) : Option (Int32 × KX × KC × KF × KH × KS × KG) := if s0 = (0 : Int32) then (if kIn (0 : Int32) 1 = true then (fL_change_c436 uX uC uF uH uS uG x6 s0 (0 : Int32) ((uG (0 : Int32).toNatClampNeg) + (1 : Int32))) else none) else (if kIn (0 : Int32) 1 = true then (fL_change_c436 uX uC uF uH uS uG x6 s0 (0 : Int32) (uG (0 : Int32).toNatClampNeg)) else none)
def fL_change_c415 (uX : KX) (uC : KC) (uF : KF) (uH : KH) (uS : KS) (uG : KG) (x6 : Int32) : Option (Int32 × KX × KC × KF × KH × KS × KG) := fL_change_c416 uX uC uF uH uS uG x6 (0 : Int32)
def fL_change_c397 (uX : KX) (uC : KC) (uF : KF) (uH : KH) (uS : KS) (uG : KG) (x6 : Int32) (x7 : Int32) : Option (Int32 × KX × KC × KF × KH × KS × KG) := if (-1000000001 : Int32) < x7 then (fL_change_c415 uX uC uF uH uS uG x6) else (if x7 < (-1000000004 : Int32) then (fL_change_c415 uX uC uF uH uS uG x6) else (fL_change_c416 uX uC uF uH uS uG x6 (1 : Int32)))
def fL_change_c395 (uX : KX) (uC : KC) (uF : KF) (uH : KH) (uS : KS) (uG : KG) (x6 : Int32) (s0 : Int32) : Option (Int32 × KX × KC × KF × KH × KS × KG) := fL_change_c397 uX uC uF uH uS uG x6 s0
def fL_change_c321 (uX : KX) (uC : KC) (uF : KF) (uH : KH) (uS : KS) (uG : KG) (x3 : Int32) (x5 : Int32) (x6 : Int32) (s0 : Int32) : Option (Int32 × KX × KC × KF × KH × KS × KG) := (fL_low x3 (s0 + (1000 : Int32))).bind fun r333 => (fL_low (x3 >>> ((9 : Int32) &&& 31)) (10001 : Int32)).bind fun r343 => (fX4_setAsh uX uC uH uS x5 r333 r343).bind fun r346 => fL_change_c397 r346.2.1 r346.2.2.1 uF r346.2.2.2.1 r346.2.2.2.2 uG x6 r346.1
def fL_change_c203 (uX : KX) (uC : KC) (uF : KF) (uH : KH) (uS : KS) (uG : KG) (x6 : Int32) (s1 : Int32) (s2 : Int32) (s3 : Int32) : Option (Int32 × KX × KC × KF × KH × KS × KG) := (fL_low s2 s3).bind fun r203 => (fX4_setBed uX uC uH uS (s1 + r203)).bind fun r207 => fL_change_c397 r207.2.1 r207.2.2.1 uF r207.2.2.2.1 r207.2.2.2.2 uG x6 r207.1
def fL_change_c126 (uX : KX) (uC : KC) (uF : KF) (uH : KH) (uS : KS) (uG : KG) (x3 : Int32) (x6 : Int32) (s1 : Int32) (s2 : Int32) (s3 : Int32) : Option (Int32 × KX × KC × KF × KH × KS × KG) := (fL_low s2 s3).bind fun r126 => (fL_low (x3 >>> ((13 : Int32) &&& 31)) (1991 : Int32)).bind fun r139 => (fX4_addLayer uX uC uH uS (s1 + r126) ((10 : Int32) + r139)).bind fun r143 => fL_change_c397 r143.2.1 r143.2.2.1 uF r143.2.2.2.1 r143.2.2.2.2 uG x6 r143.1
def fL_change_c104 (uX : KX) (uC : KC) (uF : KF) (uH : KH) (uS : KS) (uG : KG) (x2 : Int32) (x3 : Int32) (x6 : Int32) : Option (Int32 × KX × KC × KF × KH × KS × KG) := (fL_low (x2 >>> ((5 : Int32) &&& 31)) (3 : Int32)).bind fun r111 => if ¬ r111 = (0 : Int32) then (fL_change_c126 uX uC uF uH uS uG x3 x6 (1 : Int32) x3 (300 : Int32)) else (fL_change_c126 uX uC uF uH uS uG x3 x6 (1 : Int32) x3 (5000 : Int32))
def fL_change_c24 (uX : KX) (uC : KC) (uF : KF) (uH : KH) (uS : KS) (uG : KG) (x2 : Int32) (x3 : Int32) (x4 : Int32) (s0 : Int32) : Option (Int32 × KX × KC × KF × KH × KS × KG) := (fX4_acts uX).bind fun r27 => (fL_low x2 (14 : Int32)).bind fun r35 => if r35 = (0 : Int32) then (fL_change_c104 uX uC uF uH uS uG x2 x3 r27) else (if r35 = (1 : Int32) then (fL_change_c104 uX uC uF uH uS uG x2 x3 r27) else (if r35 = (2 : Int32) then (fL_change_c104 uX uC uF uH uS uG x2 x3 r27) else (if r35 = (3 : Int32) then ((fX4_removeLowest uX uC uH uS).bind fun r152 => fL_change_c397 r152.2.1 r152.2.2.1 uF r152.2.2.2.1 r152.2.2.2.2 uG r27 r152.1) else (if r35 = (4 : Int32) then ((fL_low x3 (200 : Int32)).bind fun r168 => (fX4_divide uX uC uH uS s0 ((1 : Int32) + r168)).bind fun r172 => fL_change_c397 r172.2.1 r172.2.2.1 uF r172.2.2.2.1 r172.2.2.2.2 uG r27 r172.1) else (if r35 = (5 : Int32) then ((fL_low (x2 >>> ((5 : Int32) &&& 31)) (2 : Int32)).bind fun r189 => if ¬ r189 = (0 : Int32) then (fL_change_c203 uX uC uF uH uS uG r27 (1000 : Int32) x3 (199001 : Int32)) else (fL_change_c203 uX uC uF uH uS uG r27 (1000 : Int32) x3 (5000 : Int32))) else (if r35 = (6 : Int32) then ((fL_low x3 (3 : Int32)).bind fun r218 => (fX4_setFunction uX uC uH uS r218).bind fun r221 => fL_change_c397 r221.2.1 r221.2.2.1 uF r221.2.2.2.1 r221.2.2.2.2 uG r27 r221.1) else (if r35 = (7 : Int32) then ((fL_low x3 (901 : Int32)).bind fun r234 => (fX4_setKink uX uC uH uS r234).bind fun r237 => fL_change_c397 r237.2.1 r237.2.2.1 uF r237.2.2.2.1 r237.2.2.2.2 uG r27 r237.1) else (if r35 = (8 : Int32) then ((fL_low x3 (991 : Int32)).bind fun r254 => (fX4_tellThinning uX uC uH uS s0 ((10 : Int32) + r254)).bind fun r258 => fL_change_c397 r258.2.1 r258.2.2.1 uF r258.2.2.2.1 r258.2.2.2.2 uG r27 r258.1) else (if r35 = (9 : Int32) then ((fL_low x3 (4801 : Int32)).bind fun r276 => (fX4_correct uX uC uH uS s0 ((200 : Int32) + r276)).bind fun r280 => fL_change_c397 r280.2.1 r280.2.2.1 uF r280.2.2.2.1 r280.2.2.2.2 uG r27 r280.1) else (if r35 = (10 : Int32) then ((fL_low x3 (15001 : Int32)).bind fun r293 => (fX4_setCloseOff uX uC uH uS r293).bind fun r296 => fL_change_c397 r296.2.1 r296.2.2.1 uF r296.2.2.2.1 r296.2.2.2.2 uG r27 r296.1) else (if r35 = (11 : Int32) then (if ¬ x4 = (0 : Int32) then ((fX4_depth uX uC).bind fun r315 => (fX4_age uX uC r315).bind fun r318 => fL_change_c321 uX uC uF uH uS uG x3 s0 r27 r318) else (fL_change_c321 uX uC uF uH uS uG x3 s0 r27 (0 : Int32))) else (if r35 = (12 : Int32) then ((fL_low x3 (5000 : Int32)).bind fun r362 => (fX4_setCount uX uC uH uS s0 ((1 : Int32) + r362)).bind fun r366 => fL_change_c397 r366.2.1 r366.2.2.1 uF r366.2.2.2.1 r366.2.2.2.2 uG r27 r366.1) else ((fL_low x3 (2 : Int32)).bind fun r376 => if ¬ r376 = (0 : Int32) then ((fX4_tune uX uC uF uH uS).bind fun r392 => fL_change_c395 r392.2.1 r392.2.2.1 r392.2.2.2.1 r392.2.2.2.2.1 r392.2.2.2.2.2 uG r27 r392.1) else ((fX4_removeAsh uX uC uH uS s0).bind fun r385 => fL_change_c395 r385.2.1 r385.2.2.1 uF r385.2.2.2.1 r385.2.2.2.2 uG r27 r385.1))))))))))))))
def fL_change (vX : KX) (vC : KC) (vF : KF) (vH : KH) (vS : KS) (vG : KG) (p2 : Int32) (p3 : Int32) : Option (Int32 × KX × KC × KF × KH × KS × KG) := (fX4_layers vX vC).bind fun r1 => if ¬ r1 = (0 : Int32) then ((fL_low (p2 >>> ((6 : Int32) &&& 31)) r1).bind fun r21 => fL_change_c24 vX vC vF vH vS vG p2 p3 r1 r21) else (fL_change_c24 vX vC vF vH vS vG p2 p3 r1 (0 : Int32))
set_option maxHeartbeats 4000000 in
set_option maxRecDepth 100000 in
theorem cL_change_ok (l : Launch) (D : va_G) (ty : kTy) (aX : Nat) (adC adF adH adT : Nat → Nat) (adS : Nat → Nat → Nat) (aG : Nat) (sz : Nat) (vX : KX) (vC : KC) (vF : KF) (vH : KH) (vS : KS) (vG : KG) (p2 : Int32) (p3 : Int32)  (res : Int32 × KX × KC × KF × KH × KS × KG) (h : fL_change vX vC vF vH vS vG p2 p3 = some res) : kMI l yL_change wsL_change { frames := 6, cells := 0, slots := 0, locals := 149 } [.ref aX, .ref aG, .int p2, .int p3] D ty (wX aX adC adH adF adT vX ++ (wC ty adC vC ++ (wF ty adF vF ++ (wH ty adH adS vH ++ (wS ty adS vS ++ wG ty aG vG))))) sz res.1 (wX aX adC adH adF adT res.2.1 ++ (wC ty adC res.2.2.1 ++ (wF ty adF res.2.2.2.1 ++ (wH ty adH adS res.2.2.2.2.1 ++ (wS ty adS res.2.2.2.2.2.1 ++ wG ty aG res.2.2.2.2.2.2))))) := by
  refine Met.ofW (cc := cL_change) (maxL := 9) (ret := (some .boolean)) (by decide) rfl ?_
  intro p e s m args below meth c s₁ B hml hv
  obtain ⟨rfl, hsz, hP, hK, hD0⟩ := hv
  have hx := B.exec
  have hb := B.bytes
  have hr := B.returns
  have hts := atoms_spec (ws := wsL_change) B.pre
  have hown : s.vm.findClass RL = some m.cls := findClass_of_methodNamed B.named
  have hlocks := B.notSynchronized
  subst hsz
  have hD := hD0.self (sz := s.heap.size)
  generalize hAe : va_A (wX aX adC adH adF adT vX ++ (wC ty adC vC ++ (wF ty adF vF ++ (wH ty adH adS vH ++ (wS ty adS vS ++ wG ty aG vG))))) s.heap.size = A at hD ⊢
  have hA : ∀ q : Nat, s.heap.size ≤ q → A q := fun q h => by rw [← hAe]; exact Or.inr h
  have hS : va_S A s.heap s.heap [] := va_S.rf
  refine kGenW (fun Q hQ => ?_)
  have wf0 := hts (.constant RL 72 (-1000000001)) (by decide +kernel)
  have wf1 := hts (.constant RL 73 (-1000000004)) (by decide +kernel)
  have wf2 := hts (.constant RL 33 (199001)) (by decide +kernel)
  have J455 : ∀ (uX : KX) (uC : KC) (uF : KF) (uH : KH) (uS : KS) (uG : KG) (s0 : Int32) (s1 : Int32), fL_change_c455 uX uC uF uH uS uG s0 s1 = some res → ∀ (H : Heap) (locs : List Loc) (ls : Array Slot), va_P D vwCl (wX aX adC adH adF adT uX ++ (wC ty adC uC ++ (wF ty adF uF ++ (wH ty adH adS uH ++ (wS ty adS uS ++ wG ty aG uG))))) H → va_D A (wX aX adC adH adF adT uX ++ (wC ty adC uC ++ (wF ty adF uF ++ (wH ty adH adS uH ++ (wS ty adS uS ++ wG ty aG uG))))) → va_S A s.heap H locs → lv_has ls 9 [(0, .ref aX), (1, .ref aG)] → W p l e (headSpec wsL_change { frames := 6, cells := 0, slots := 0, locals := 149 }).room s m ([.ref aX, .ref aG, .int p2, .int p3] : List Value).toArray below meth c H locs 0 0 Q (F0 m 455 ls [.int s1, .int s0]) := by
    intro uX uC uF uH uS uG s0 s1 h H locs ls hP hD hS hl
    unfold fL_change_c455 at h
    refine lv_icmp_ne (tgt := 472) hx hb dL_change_455 (by decide) (fun c455 => ?_) (fun c455 => ?_)
    · have h := kT h c455
      refine lv_iconst (v := 0) hx hb dL_change_472 (by decide) ?_
      obtain rfl := Option.some.inj h
      subst hQ
      exact W.zret (ty := .boolean) (v := (0 : Int32)) hx hb hr rfl (fun t ht hW => ⟨⟨(0 : Int32), (), rfl, rfl, kEnd ht hP⟩, hS.F ht⟩) hS.2.2 dL_change_473
    · have h := kF h (fun z => z c455)
      refine lv_aload_n hx hb dL_change_458 rfl (lv_at hl 0 rfl) ?_
      obtain ⟨r459, e459, h⟩ := kBd h
      refine kCallWI (As := []) (rest := []) (sg := [wX aX adC adH adF adT uX, wC ty adC uC, wF ty adF uF, wH ty adH adS uH, wS ty adS uS, wG ty aG uG]) (sc := [wX aX adC adH adF adT uX]) (s1 := [wX aX adC adH adF adT uX]) (sn := [wX aX adC adH adF adT uX, wC ty adC uC, wF ty adF uF, wH ty adH adS uH, wS ty adS uS, wG ty aG uG]) ⟨hx, hb, hml, hown, hts⟩ (cX4_acts_ok l D ty aX adC adF adH adT H.size uX  r459 e459) (cwV 0 hts gL_change_X4_acts rfl rfl rfl (by decide +kernel) ⟨Nat.le_of_ble_eq_true rfl, Nat.le_of_ble_eq_true rfl⟩) hP hK hD hS hA [0] (by decide) rfl 4 0 rfl rfl rfl rfl hl.1 rfl (Nat.le_of_ble_eq_true rfl) dL_change_459 ⟨Nat.le_of_ble_eq_true rfl, Nat.le_of_ble_eq_true rfl⟩ rfl rfl (fun H locs hP hD hS => ?_)
      have hP : va_P D vwCl (wX aX adC adH adF adT uX ++ (wC ty adC uC ++ (wF ty adF uF ++ (wH ty adH adS uH ++ (wS ty adS uS ++ wG ty aG uG))))) H := hP
      have hD : va_D A (wX aX adC adH adF adT uX ++ (wC ty adC uC ++ (wF ty adF uF ++ (wH ty adH adS uH ++ (wS ty adS uS ++ wG ty aG uG))))) := hD
      refine lv_aload_n hx hb dL_change_462 rfl (lv_at hl 1 rfl) ?_
      refine lv_iconst (v := 0) hx hb dL_change_463 (by decide) ?_
      obtain ⟨b464, h⟩ := kIf h
      refine va_iald (f := uG) (n := 1) hx hb hK.1 hP 86 0 rfl rfl (kIn_ok b464) dL_change_464 ?_
      refine lv_icmp_ne (tgt := 472) hx hb dL_change_465 (by decide) (fun c465 => ?_) (fun c465 => ?_)
      · have h := kT h c465
        refine lv_iconst (v := 0) hx hb dL_change_472 (by decide) ?_
        obtain rfl := Option.some.inj h
        subst hQ
        exact W.zret (ty := .boolean) (v := (0 : Int32)) hx hb hr rfl (fun t ht hW => ⟨⟨(0 : Int32), (), rfl, rfl, kEnd ht hP⟩, hS.F ht⟩) hS.2.2 dL_change_473
      · have h := kF h (fun z => z c465)
        refine lv_iconst (v := 1) hx hb dL_change_468 (by decide) ?_
        refine lv_goto (tgt := 473) hx hb dL_change_469 (by decide) ?_
        obtain rfl := Option.some.inj h
        subst hQ
        exact W.zret (ty := .boolean) (v := (1 : Int32)) hx hb hr rfl (fun t ht hW => ⟨⟨(1 : Int32), (), rfl, rfl, kEnd ht hP⟩, hS.F ht⟩) hS.2.2 dL_change_473
  have J436 : ∀ (uX : KX) (uC : KC) (uF : KF) (uH : KH) (uS : KS) (uG : KG) (x6 : Int32) (x8 : Int32) (s1 : Int32) (s2 : Int32), fL_change_c436 uX uC uF uH uS uG x6 x8 s1 s2 = some res → ∀ (H : Heap) (locs : List Loc) (ls : Array Slot), va_P D vwCl (wX aX adC adH adF adT uX ++ (wC ty adC uC ++ (wF ty adF uF ++ (wH ty adH adS uH ++ (wS ty adS uS ++ wG ty aG uG))))) H → va_D A (wX aX adC adH adF adT uX ++ (wC ty adC uC ++ (wF ty adF uF ++ (wH ty adH adS uH ++ (wS ty adS uS ++ wG ty aG uG))))) → va_S A s.heap H locs → lv_has ls 9 [(0, .ref aX), (1, .ref aG), (6, .int x6), (8, .int x8)] → W p l e (headSpec wsL_change { frames := 6, cells := 0, slots := 0, locals := 149 }).room s m ([.ref aX, .ref aG, .int p2, .int p3] : List Value).toArray below meth c H locs 0 0 Q (F0 m 436 ls [.int s2, .int s1, .ref aG]) := by
    intro uX uC uF uH uS uG x6 x8 s1 s2 h H locs ls hP hD hS hl
    unfold fL_change_c436 at h
    obtain ⟨b436, h⟩ := kIf h
    refine va_iast (f := uG) (n := 1) hx hb hK.1 hP hD hS 86 0 rfl rfl (kIn_ok b436) dL_change_436 (fun H locs hP hD hS => ?_)
    have hP : va_P D vwCl (wX aX adC adH adF adT uX ++ (wC ty adC uC ++ (wF ty adF uF ++ (wH ty adH adS uH ++ (wS ty adS uS ++ wG ty aG ((upd uG s1.toNatClampNeg s2))))))) H := hP
    have hD : va_D A (wX aX adC adH adF adT uX ++ (wC ty adC uC ++ (wF ty adF uF ++ (wH ty adH adS uH ++ (wS ty adS uS ++ wG ty aG ((upd uG s1.toNatClampNeg s2))))))) := hD
    refine lv_aload_n hx hb dL_change_437 rfl (lv_at hl 0 rfl) ?_
    obtain ⟨r438, e438, h⟩ := kBd h
    refine kCallWI (As := []) (rest := []) (sg := [wX aX adC adH adF adT uX, wC ty adC uC, wF ty adF uF, wH ty adH adS uH, wS ty adS uS, wG ty aG ((upd uG s1.toNatClampNeg s2))]) (sc := [wX aX adC adH adF adT uX]) (s1 := [wX aX adC adH adF adT uX]) (sn := [wX aX adC adH adF adT uX, wC ty adC uC, wF ty adF uF, wH ty adH adS uH, wS ty adS uS, wG ty aG ((upd uG s1.toNatClampNeg s2))]) ⟨hx, hb, hml, hown, hts⟩ (cX4_acts_ok l D ty aX adC adF adH adT H.size uX  r438 e438) (cwV 0 hts gL_change_X4_acts rfl rfl rfl (by decide +kernel) ⟨Nat.le_of_ble_eq_true rfl, Nat.le_of_ble_eq_true rfl⟩) hP hK hD hS hA [0] (by decide) rfl 4 0 rfl rfl rfl rfl hl.1 rfl (Nat.le_of_ble_eq_true rfl) dL_change_438 ⟨Nat.le_of_ble_eq_true rfl, Nat.le_of_ble_eq_true rfl⟩ rfl rfl (fun H locs hP hD hS => ?_)
    have hP : va_P D vwCl (wX aX adC adH adF adT uX ++ (wC ty adC uC ++ (wF ty adF uF ++ (wH ty adH adS uH ++ (wS ty adS uS ++ wG ty aG ((upd uG s1.toNatClampNeg s2))))))) H := hP
    have hD : va_D A (wX aX adC adH adF adT uX ++ (wC ty adC uC ++ (wF ty adF uF ++ (wH ty adH adS uH ++ (wS ty adS uS ++ wG ty aG ((upd uG s1.toNatClampNeg s2))))))) := hD
    refine lv_iload hx hb dL_change_441 (lv_at hl 3 rfl) ?_
    refine lv_if_eq (tgt := 451) hx hb dL_change_443 (by decide) (fun c443 => ?_) (fun c443 => ?_)
    · have h := kT h c443
      refine lv_iload hx hb dL_change_451 (lv_at hl 2 rfl) ?_
      refine lv_iconst (v := 1) hx hb dL_change_453 (by decide) ?_
      refine lv_iadd hx hb dL_change_454 ?_
      exact J455 uX uC uF uH uS ((upd uG s1.toNatClampNeg s2)) r438 (x6 + (1 : Int32)) h H locs ls hP hD hS (lv_sub hl [0, 1] rfl)
    · have h := kF h c443
      refine lv_iload hx hb dL_change_446 (lv_at hl 2 rfl) ?_
      refine lv_goto (tgt := 455) hx hb dL_change_448 (by decide) ?_
      exact J455 uX uC uF uH uS ((upd uG s1.toNatClampNeg s2)) r438 x6 h H locs ls hP hD hS (lv_sub hl [0, 1] rfl)
  have J416 : ∀ (uX : KX) (uC : KC) (uF : KF) (uH : KH) (uS : KS) (uG : KG) (x6 : Int32) (s0 : Int32), fL_change_c416 uX uC uF uH uS uG x6 s0 = some res → ∀ (H : Heap) (locs : List Loc) (ls : Array Slot), va_P D vwCl (wX aX adC adH adF adT uX ++ (wC ty adC uC ++ (wF ty adF uF ++ (wH ty adH adS uH ++ (wS ty adS uS ++ wG ty aG uG))))) H → va_D A (wX aX adC adH adF adT uX ++ (wC ty adC uC ++ (wF ty adF uF ++ (wH ty adH adS uH ++ (wS ty adS uS ++ wG ty aG uG))))) → va_S A s.heap H locs → lv_has ls 9 [(0, .ref aX), (1, .ref aG), (6, .int x6)] → W p l e (headSpec wsL_change { frames := 6, cells := 0, slots := 0, locals := 149 }).room s m ([.ref aX, .ref aG, .int p2, .int p3] : List Value).toArray below meth c H locs 0 0 Q (F0 m 416 ls [.int s0]) := by
    intro uX uC uF uH uS uG x6 s0 h H locs ls hP hD hS hl
    unfold fL_change_c416 at h
    refine lv_istore (lv' := [(8, .int s0), (0, .ref aX), (1, .ref aG), (6, .int x6)]) hx hb dL_change_416 hl (by decide) rfl (fun ls hl => ?_)
    refine lv_aload_n hx hb dL_change_418 rfl (lv_at hl 2 rfl) ?_
    refine lv_iconst (v := 0) hx hb dL_change_419 (by decide) ?_
    refine lv_iload hx hb dL_change_420 (lv_at hl 0 rfl) ?_
    refine lv_if_eq (tgt := 431) hx hb dL_change_422 (by decide) (fun c422 => ?_) (fun c422 => ?_)
    · have h := kT h c422
      refine lv_aload_n hx hb dL_change_431 rfl (lv_at hl 2 rfl) ?_
      refine lv_iconst (v := 0) hx hb dL_change_432 (by decide) ?_
      obtain ⟨b433, h⟩ := kIf h
      refine va_iald (f := uG) (n := 1) hx hb hK.1 hP 86 0 rfl rfl (kIn_ok b433) dL_change_433 ?_
      refine lv_iconst (v := 1) hx hb dL_change_434 (by decide) ?_
      refine lv_iadd hx hb dL_change_435 ?_
      exact J436 uX uC uF uH uS uG x6 s0 (0 : Int32) ((uG (0 : Int32).toNatClampNeg) + (1 : Int32)) h H locs ls hP hD hS (lv_sub hl [1, 2, 3, 0] rfl)
    · have h := kF h c422
      refine lv_aload_n hx hb dL_change_425 rfl (lv_at hl 2 rfl) ?_
      refine lv_iconst (v := 0) hx hb dL_change_426 (by decide) ?_
      obtain ⟨b427, h⟩ := kIf h
      refine va_iald (f := uG) (n := 1) hx hb hK.1 hP 86 0 rfl rfl (kIn_ok b427) dL_change_427 ?_
      refine lv_goto (tgt := 436) hx hb dL_change_428 (by decide) ?_
      exact J436 uX uC uF uH uS uG x6 s0 (0 : Int32) (uG (0 : Int32).toNatClampNeg) h H locs ls hP hD hS (lv_sub hl [1, 2, 3, 0] rfl)
  have J415 : ∀ (uX : KX) (uC : KC) (uF : KF) (uH : KH) (uS : KS) (uG : KG) (x6 : Int32), fL_change_c415 uX uC uF uH uS uG x6 = some res → ∀ (H : Heap) (locs : List Loc) (ls : Array Slot), va_P D vwCl (wX aX adC adH adF adT uX ++ (wC ty adC uC ++ (wF ty adF uF ++ (wH ty adH adS uH ++ (wS ty adS uS ++ wG ty aG uG))))) H → va_D A (wX aX adC adH adF adT uX ++ (wC ty adC uC ++ (wF ty adF uF ++ (wH ty adH adS uH ++ (wS ty adS uS ++ wG ty aG uG))))) → va_S A s.heap H locs → lv_has ls 9 [(0, .ref aX), (1, .ref aG), (6, .int x6)] → W p l e (headSpec wsL_change { frames := 6, cells := 0, slots := 0, locals := 149 }).room s m ([.ref aX, .ref aG, .int p2, .int p3] : List Value).toArray below meth c H locs 0 0 Q (F0 m 415 ls []) := by
    intro uX uC uF uH uS uG x6 h H locs ls hP hD hS hl
    unfold fL_change_c415 at h
    refine lv_iconst (v := 0) hx hb dL_change_415 (by decide) ?_
    exact J416 uX uC uF uH uS uG x6 (0 : Int32) h H locs ls hP hD hS (lv_sub hl [0, 1, 2] rfl)
  have J397 : ∀ (uX : KX) (uC : KC) (uF : KF) (uH : KH) (uS : KS) (uG : KG) (x6 : Int32) (x7 : Int32), fL_change_c397 uX uC uF uH uS uG x6 x7 = some res → ∀ (H : Heap) (locs : List Loc) (ls : Array Slot), va_P D vwCl (wX aX adC adH adF adT uX ++ (wC ty adC uC ++ (wF ty adF uF ++ (wH ty adH adS uH ++ (wS ty adS uS ++ wG ty aG uG))))) H → va_D A (wX aX adC adH adF adT uX ++ (wC ty adC uC ++ (wF ty adF uF ++ (wH ty adH adS uH ++ (wS ty adS uS ++ wG ty aG uG))))) → va_S A s.heap H locs → lv_has ls 9 [(0, .ref aX), (1, .ref aG), (6, .int x6), (7, .int x7)] → W p l e (headSpec wsL_change { frames := 6, cells := 0, slots := 0, locals := 149 }).room s m ([.ref aX, .ref aG, .int p2, .int p3] : List Value).toArray below meth c H locs 0 0 Q (F0 m 397 ls []) := by
    intro uX uC uF uH uS uG x6 x7 h H locs ls hP hD hS hl
    unfold fL_change_c397 at h
    refine lv_iload hx hb dL_change_397 (lv_at hl 3 rfl) ?_
    refine lv_ldc hx hb hown wf0 dL_change_399 ?_
    refine lv_icmp_gt (tgt := 415) hx hb dL_change_401 (by decide) (fun c401 => ?_) (fun c401 => ?_)
    · have h := kT h c401
      exact J415 uX uC uF uH uS uG x6 h H locs ls hP hD hS (lv_sub hl [0, 1, 2] rfl)
    · have h := kF h c401
      refine lv_iload hx hb dL_change_404 (lv_at hl 3 rfl) ?_
      refine lv_ldc hx hb hown wf1 dL_change_406 ?_
      refine lv_icmp_lt (tgt := 415) hx hb dL_change_408 (by decide) (fun c408 => ?_) (fun c408 => ?_)
      · have h := kT h c408
        exact J415 uX uC uF uH uS uG x6 h H locs ls hP hD hS (lv_sub hl [0, 1, 2] rfl)
      · have h := kF h c408
        refine lv_iconst (v := 1) hx hb dL_change_411 (by decide) ?_
        refine lv_goto (tgt := 416) hx hb dL_change_412 (by decide) ?_
        exact J416 uX uC uF uH uS uG x6 (1 : Int32) h H locs ls hP hD hS (lv_sub hl [0, 1, 2] rfl)
  have J395 : ∀ (uX : KX) (uC : KC) (uF : KF) (uH : KH) (uS : KS) (uG : KG) (x6 : Int32) (s0 : Int32), fL_change_c395 uX uC uF uH uS uG x6 s0 = some res → ∀ (H : Heap) (locs : List Loc) (ls : Array Slot), va_P D vwCl (wX aX adC adH adF adT uX ++ (wC ty adC uC ++ (wF ty adF uF ++ (wH ty adH adS uH ++ (wS ty adS uS ++ wG ty aG uG))))) H → va_D A (wX aX adC adH adF adT uX ++ (wC ty adC uC ++ (wF ty adF uF ++ (wH ty adH adS uH ++ (wS ty adS uS ++ wG ty aG uG))))) → va_S A s.heap H locs → lv_has ls 9 [(0, .ref aX), (1, .ref aG), (6, .int x6)] → W p l e (headSpec wsL_change { frames := 6, cells := 0, slots := 0, locals := 149 }).room s m ([.ref aX, .ref aG, .int p2, .int p3] : List Value).toArray below meth c H locs 0 0 Q (F0 m 395 ls [.int s0]) := by
    intro uX uC uF uH uS uG x6 s0 h H locs ls hP hD hS hl
    unfold fL_change_c395 at h
    refine lv_istore (lv' := [(7, .int s0), (0, .ref aX), (1, .ref aG), (6, .int x6)]) hx hb dL_change_395 hl (by decide) rfl (fun ls hl => ?_)
    exact J397 uX uC uF uH uS uG x6 s0 h H locs ls hP hD hS (lv_sub hl [1, 2, 3, 0] rfl)
  have J321 : ∀ (uX : KX) (uC : KC) (uF : KF) (uH : KH) (uS : KS) (uG : KG) (x3 : Int32) (x5 : Int32) (x6 : Int32) (s0 : Int32), fL_change_c321 uX uC uF uH uS uG x3 x5 x6 s0 = some res → ∀ (H : Heap) (locs : List Loc) (ls : Array Slot), va_P D vwCl (wX aX adC adH adF adT uX ++ (wC ty adC uC ++ (wF ty adF uF ++ (wH ty adH adS uH ++ (wS ty adS uS ++ wG ty aG uG))))) H → va_D A (wX aX adC adH adF adT uX ++ (wC ty adC uC ++ (wF ty adF uF ++ (wH ty adH adS uH ++ (wS ty adS uS ++ wG ty aG uG))))) → va_S A s.heap H locs → lv_has ls 9 [(0, .ref aX), (1, .ref aG), (3, .int x3), (5, .int x5), (6, .int x6)] → W p l e (headSpec wsL_change { frames := 6, cells := 0, slots := 0, locals := 149 }).room s m ([.ref aX, .ref aG, .int p2, .int p3] : List Value).toArray below meth c H locs 0 0 Q (F0 m 321 ls [.int s0]) := by
    intro uX uC uF uH uS uG x3 x5 x6 s0 h H locs ls hP hD hS hl
    unfold fL_change_c321 at h
    refine lv_istore (lv' := [(8, .int s0), (0, .ref aX), (1, .ref aG), (3, .int x3), (5, .int x5), (6, .int x6)]) hx hb dL_change_321 hl (by decide) rfl (fun ls hl => ?_)
    refine lv_aload_n hx hb dL_change_323 rfl (lv_at hl 1 rfl) ?_
    refine lv_iload hx hb dL_change_324 (lv_at hl 4 rfl) ?_
    refine lv_iload_n hx hb dL_change_326 rfl (lv_at hl 3 rfl) ?_
    refine lv_iload hx hb dL_change_327 (lv_at hl 0 rfl) ?_
    refine lv_sipush (v := 1000) hx hb dL_change_329 (by decide) ?_
    refine lv_iadd hx hb dL_change_332 ?_
    obtain ⟨r333, e333, h⟩ := kBd h
    refine kCallSI (As := [.int x3, .int (s0 + (1000 : Int32))]) (rest := [.int x5, .ref aX]) ⟨hx, hb, hml, hown, hts⟩ (cL_low_ok l D ty  H.size x3 (s0 + (1000 : Int32))  r333 e333) (va_cwS 2 hts gL_change_L_low rfl rfl rfl (by decide +kernel) ⟨Nat.le_of_ble_eq_true rfl, Nat.le_of_ble_eq_true rfl⟩) hP hK hD hS hA rfl hl.1 rfl (Nat.le_of_ble_eq_true rfl) dL_change_333 ⟨Nat.le_of_ble_eq_true rfl, Nat.le_of_ble_eq_true rfl⟩ (fun H locs hP hS => ?_)
    refine lv_iload_n hx hb dL_change_336 rfl (lv_at hl 3 rfl) ?_
    refine lv_bipush (v := 9) hx hb dL_change_337 (by decide) ?_
    refine lv_ishr hx hb dL_change_339 ?_
    refine lv_sipush (v := 10001) hx hb dL_change_340 (by decide) ?_
    obtain ⟨r343, e343, h⟩ := kBd h
    refine kCallSI (As := [.int (x3 >>> ((9 : Int32) &&& 31)), .int (10001 : Int32)]) (rest := [.int r333, .int x5, .ref aX]) ⟨hx, hb, hml, hown, hts⟩ (cL_low_ok l D ty  H.size (x3 >>> ((9 : Int32) &&& 31)) (10001 : Int32)  r343 e343) (va_cwS 2 hts gL_change_L_low rfl rfl rfl (by decide +kernel) ⟨Nat.le_of_ble_eq_true rfl, Nat.le_of_ble_eq_true rfl⟩) hP hK hD hS hA rfl hl.1 rfl (Nat.le_of_ble_eq_true rfl) dL_change_343 ⟨Nat.le_of_ble_eq_true rfl, Nat.le_of_ble_eq_true rfl⟩ (fun H locs hP hS => ?_)
    obtain ⟨r346, e346, h⟩ := kBd h
    refine kCallWI (As := [.int x5, .int r333, .int r343]) (rest := []) (sg := [wX aX adC adH adF adT uX, wC ty adC uC, wF ty adF uF, wH ty adH adS uH, wS ty adS uS, wG ty aG uG]) (sc := [wX aX adC adH adF adT uX, wC ty adC uC, wH ty adH adS uH, wS ty adS uS]) (s1 := [wX aX adC adH adF adT r346.2.1, wC ty adC r346.2.2.1, wH ty adH adS r346.2.2.2.1, wS ty adS r346.2.2.2.2]) (sn := [wX aX adC adH adF adT r346.2.1, wC ty adC r346.2.2.1, wF ty adF uF, wH ty adH adS r346.2.2.2.1, wS ty adS r346.2.2.2.2, wG ty aG uG]) ⟨hx, hb, hml, hown, hts⟩ (cX4_setAsh_ok l D ty aX adC adF adH adT adS H.size uX uC uH uS x5 r333 r343  r346 e346) (cwV 3 hts gL_change_X4_setAsh rfl rfl rfl (by decide +kernel) ⟨Nat.le_of_ble_eq_true rfl, Nat.le_of_ble_eq_true rfl⟩) hP hK hD hS hA [0, 1, 3, 4] (by decide) rfl 4 0 rfl rfl rfl rfl hl.1 rfl (Nat.le_of_ble_eq_true rfl) dL_change_346 ⟨Nat.le_of_ble_eq_true rfl, Nat.le_of_ble_eq_true rfl⟩ rfl rfl (fun H locs hP hD hS => ?_)
    have hP : va_P D vwCl (wX aX adC adH adF adT r346.2.1 ++ (wC ty adC r346.2.2.1 ++ (wF ty adF uF ++ (wH ty adH adS r346.2.2.2.1 ++ (wS ty adS r346.2.2.2.2 ++ wG ty aG uG))))) H := hP
    have hD : va_D A (wX aX adC adH adF adT r346.2.1 ++ (wC ty adC r346.2.2.1 ++ (wF ty adF uF ++ (wH ty adH adS r346.2.2.2.1 ++ (wS ty adS r346.2.2.2.2 ++ wG ty aG uG))))) := hD
    refine lv_istore (lv' := [(7, .int r346.1), (8, .int s0), (0, .ref aX), (1, .ref aG), (3, .int x3), (5, .int x5), (6, .int x6)]) hx hb dL_change_349 hl (by decide) rfl (fun ls hl => ?_)
    refine lv_goto (tgt := 397) hx hb dL_change_351 (by decide) ?_
    exact J397 r346.2.1 r346.2.2.1 uF r346.2.2.2.1 r346.2.2.2.2 uG x6 r346.1 h H locs ls hP hD hS (lv_sub hl [2, 3, 6, 0] rfl)
  have J203 : ∀ (uX : KX) (uC : KC) (uF : KF) (uH : KH) (uS : KS) (uG : KG) (x6 : Int32) (s1 : Int32) (s2 : Int32) (s3 : Int32), fL_change_c203 uX uC uF uH uS uG x6 s1 s2 s3 = some res → ∀ (H : Heap) (locs : List Loc) (ls : Array Slot), va_P D vwCl (wX aX adC adH adF adT uX ++ (wC ty adC uC ++ (wF ty adF uF ++ (wH ty adH adS uH ++ (wS ty adS uS ++ wG ty aG uG))))) H → va_D A (wX aX adC adH adF adT uX ++ (wC ty adC uC ++ (wF ty adF uF ++ (wH ty adH adS uH ++ (wS ty adS uS ++ wG ty aG uG))))) → va_S A s.heap H locs → lv_has ls 9 [(0, .ref aX), (1, .ref aG), (6, .int x6)] → W p l e (headSpec wsL_change { frames := 6, cells := 0, slots := 0, locals := 149 }).room s m ([.ref aX, .ref aG, .int p2, .int p3] : List Value).toArray below meth c H locs 0 0 Q (F0 m 203 ls [.int s3, .int s2, .int s1, .ref aX]) := by
    intro uX uC uF uH uS uG x6 s1 s2 s3 h H locs ls hP hD hS hl
    unfold fL_change_c203 at h
    obtain ⟨r203, e203, h⟩ := kBd h
    refine kCallSI (As := [.int s2, .int s3]) (rest := [.int s1, .ref aX]) ⟨hx, hb, hml, hown, hts⟩ (cL_low_ok l D ty  H.size s2 s3  r203 e203) (va_cwS 2 hts gL_change_L_low rfl rfl rfl (by decide +kernel) ⟨Nat.le_of_ble_eq_true rfl, Nat.le_of_ble_eq_true rfl⟩) hP hK hD hS hA rfl hl.1 rfl (Nat.le_of_ble_eq_true rfl) dL_change_203 ⟨Nat.le_of_ble_eq_true rfl, Nat.le_of_ble_eq_true rfl⟩ (fun H locs hP hS => ?_)
    refine lv_iadd hx hb dL_change_206 ?_
    obtain ⟨r207, e207, h⟩ := kBd h
    refine kCallWI (As := [.int (s1 + r203)]) (rest := []) (sg := [wX aX adC adH adF adT uX, wC ty adC uC, wF ty adF uF, wH ty adH adS uH, wS ty adS uS, wG ty aG uG]) (sc := [wX aX adC adH adF adT uX, wC ty adC uC, wH ty adH adS uH, wS ty adS uS]) (s1 := [wX aX adC adH adF adT r207.2.1, wC ty adC r207.2.2.1, wH ty adH adS r207.2.2.2.1, wS ty adS r207.2.2.2.2]) (sn := [wX aX adC adH adF adT r207.2.1, wC ty adC r207.2.2.1, wF ty adF uF, wH ty adH adS r207.2.2.2.1, wS ty adS r207.2.2.2.2, wG ty aG uG]) ⟨hx, hb, hml, hown, hts⟩ (cX4_setBed_ok l D ty aX adC adF adH adT adS H.size uX uC uH uS (s1 + r203)  r207 e207) (cwV 1 hts gL_change_X4_setBed rfl rfl rfl (by decide +kernel) ⟨Nat.le_of_ble_eq_true rfl, Nat.le_of_ble_eq_true rfl⟩) hP hK hD hS hA [0, 1, 3, 4] (by decide) rfl 4 0 rfl rfl rfl rfl hl.1 rfl (Nat.le_of_ble_eq_true rfl) dL_change_207 ⟨Nat.le_of_ble_eq_true rfl, Nat.le_of_ble_eq_true rfl⟩ rfl rfl (fun H locs hP hD hS => ?_)
    have hP : va_P D vwCl (wX aX adC adH adF adT r207.2.1 ++ (wC ty adC r207.2.2.1 ++ (wF ty adF uF ++ (wH ty adH adS r207.2.2.2.1 ++ (wS ty adS r207.2.2.2.2 ++ wG ty aG uG))))) H := hP
    have hD : va_D A (wX aX adC adH adF adT r207.2.1 ++ (wC ty adC r207.2.2.1 ++ (wF ty adF uF ++ (wH ty adH adS r207.2.2.2.1 ++ (wS ty adS r207.2.2.2.2 ++ wG ty aG uG))))) := hD
    refine lv_istore (lv' := [(7, .int r207.1), (0, .ref aX), (1, .ref aG), (6, .int x6)]) hx hb dL_change_210 hl (by decide) rfl (fun ls hl => ?_)
    refine lv_goto (tgt := 397) hx hb dL_change_212 (by decide) ?_
    exact J397 r207.2.1 r207.2.2.1 uF r207.2.2.2.1 r207.2.2.2.2 uG x6 r207.1 h H locs ls hP hD hS (lv_sub hl [1, 2, 3, 0] rfl)
  have J126 : ∀ (uX : KX) (uC : KC) (uF : KF) (uH : KH) (uS : KS) (uG : KG) (x3 : Int32) (x6 : Int32) (s1 : Int32) (s2 : Int32) (s3 : Int32), fL_change_c126 uX uC uF uH uS uG x3 x6 s1 s2 s3 = some res → ∀ (H : Heap) (locs : List Loc) (ls : Array Slot), va_P D vwCl (wX aX adC adH adF adT uX ++ (wC ty adC uC ++ (wF ty adF uF ++ (wH ty adH adS uH ++ (wS ty adS uS ++ wG ty aG uG))))) H → va_D A (wX aX adC adH adF adT uX ++ (wC ty adC uC ++ (wF ty adF uF ++ (wH ty adH adS uH ++ (wS ty adS uS ++ wG ty aG uG))))) → va_S A s.heap H locs → lv_has ls 9 [(0, .ref aX), (1, .ref aG), (3, .int x3), (6, .int x6)] → W p l e (headSpec wsL_change { frames := 6, cells := 0, slots := 0, locals := 149 }).room s m ([.ref aX, .ref aG, .int p2, .int p3] : List Value).toArray below meth c H locs 0 0 Q (F0 m 126 ls [.int s3, .int s2, .int s1, .ref aX]) := by
    intro uX uC uF uH uS uG x3 x6 s1 s2 s3 h H locs ls hP hD hS hl
    unfold fL_change_c126 at h
    obtain ⟨r126, e126, h⟩ := kBd h
    refine kCallSI (As := [.int s2, .int s3]) (rest := [.int s1, .ref aX]) ⟨hx, hb, hml, hown, hts⟩ (cL_low_ok l D ty  H.size s2 s3  r126 e126) (va_cwS 2 hts gL_change_L_low rfl rfl rfl (by decide +kernel) ⟨Nat.le_of_ble_eq_true rfl, Nat.le_of_ble_eq_true rfl⟩) hP hK hD hS hA rfl hl.1 rfl (Nat.le_of_ble_eq_true rfl) dL_change_126 ⟨Nat.le_of_ble_eq_true rfl, Nat.le_of_ble_eq_true rfl⟩ (fun H locs hP hS => ?_)
    refine lv_iadd hx hb dL_change_129 ?_
    refine lv_bipush (v := 10) hx hb dL_change_130 (by decide) ?_
    refine lv_iload_n hx hb dL_change_132 rfl (lv_at hl 2 rfl) ?_
    refine lv_bipush (v := 13) hx hb dL_change_133 (by decide) ?_
    refine lv_ishr hx hb dL_change_135 ?_
    refine lv_sipush (v := 1991) hx hb dL_change_136 (by decide) ?_
    obtain ⟨r139, e139, h⟩ := kBd h
    refine kCallSI (As := [.int (x3 >>> ((13 : Int32) &&& 31)), .int (1991 : Int32)]) (rest := [.int (10 : Int32), .int (s1 + r126), .ref aX]) ⟨hx, hb, hml, hown, hts⟩ (cL_low_ok l D ty  H.size (x3 >>> ((13 : Int32) &&& 31)) (1991 : Int32)  r139 e139) (va_cwS 2 hts gL_change_L_low rfl rfl rfl (by decide +kernel) ⟨Nat.le_of_ble_eq_true rfl, Nat.le_of_ble_eq_true rfl⟩) hP hK hD hS hA rfl hl.1 rfl (Nat.le_of_ble_eq_true rfl) dL_change_139 ⟨Nat.le_of_ble_eq_true rfl, Nat.le_of_ble_eq_true rfl⟩ (fun H locs hP hS => ?_)
    refine lv_iadd hx hb dL_change_142 ?_
    obtain ⟨r143, e143, h⟩ := kBd h
    refine kCallWI (As := [.int (s1 + r126), .int ((10 : Int32) + r139)]) (rest := []) (sg := [wX aX adC adH adF adT uX, wC ty adC uC, wF ty adF uF, wH ty adH adS uH, wS ty adS uS, wG ty aG uG]) (sc := [wX aX adC adH adF adT uX, wC ty adC uC, wH ty adH adS uH, wS ty adS uS]) (s1 := [wX aX adC adH adF adT r143.2.1, wC ty adC r143.2.2.1, wH ty adH adS r143.2.2.2.1, wS ty adS r143.2.2.2.2]) (sn := [wX aX adC adH adF adT r143.2.1, wC ty adC r143.2.2.1, wF ty adF uF, wH ty adH adS r143.2.2.2.1, wS ty adS r143.2.2.2.2, wG ty aG uG]) ⟨hx, hb, hml, hown, hts⟩ (cX4_addLayer_ok l D ty aX adC adF adH adT adS H.size uX uC uH uS (s1 + r126) ((10 : Int32) + r139)  r143 e143) (cwV 2 hts gL_change_X4_addLayer rfl rfl rfl (by decide +kernel) ⟨Nat.le_of_ble_eq_true rfl, Nat.le_of_ble_eq_true rfl⟩) hP hK hD hS hA [0, 1, 3, 4] (by decide) rfl 4 0 rfl rfl rfl rfl hl.1 rfl (Nat.le_of_ble_eq_true rfl) dL_change_143 ⟨Nat.le_of_ble_eq_true rfl, Nat.le_of_ble_eq_true rfl⟩ rfl rfl (fun H locs hP hD hS => ?_)
    have hP : va_P D vwCl (wX aX adC adH adF adT r143.2.1 ++ (wC ty adC r143.2.2.1 ++ (wF ty adF uF ++ (wH ty adH adS r143.2.2.2.1 ++ (wS ty adS r143.2.2.2.2 ++ wG ty aG uG))))) H := hP
    have hD : va_D A (wX aX adC adH adF adT r143.2.1 ++ (wC ty adC r143.2.2.1 ++ (wF ty adF uF ++ (wH ty adH adS r143.2.2.2.1 ++ (wS ty adS r143.2.2.2.2 ++ wG ty aG uG))))) := hD
    refine lv_istore (lv' := [(7, .int r143.1), (0, .ref aX), (1, .ref aG), (3, .int x3), (6, .int x6)]) hx hb dL_change_146 hl (by decide) rfl (fun ls hl => ?_)
    refine lv_goto (tgt := 397) hx hb dL_change_148 (by decide) ?_
    exact J397 r143.2.1 r143.2.2.1 uF r143.2.2.2.1 r143.2.2.2.2 uG x6 r143.1 h H locs ls hP hD hS (lv_sub hl [1, 2, 4, 0] rfl)
  have J104 : ∀ (uX : KX) (uC : KC) (uF : KF) (uH : KH) (uS : KS) (uG : KG) (x2 : Int32) (x3 : Int32) (x6 : Int32), fL_change_c104 uX uC uF uH uS uG x2 x3 x6 = some res → ∀ (H : Heap) (locs : List Loc) (ls : Array Slot), va_P D vwCl (wX aX adC adH adF adT uX ++ (wC ty adC uC ++ (wF ty adF uF ++ (wH ty adH adS uH ++ (wS ty adS uS ++ wG ty aG uG))))) H → va_D A (wX aX adC adH adF adT uX ++ (wC ty adC uC ++ (wF ty adF uF ++ (wH ty adH adS uH ++ (wS ty adS uS ++ wG ty aG uG))))) → va_S A s.heap H locs → lv_has ls 9 [(0, .ref aX), (1, .ref aG), (2, .int x2), (3, .int x3), (6, .int x6)] → W p l e (headSpec wsL_change { frames := 6, cells := 0, slots := 0, locals := 149 }).room s m ([.ref aX, .ref aG, .int p2, .int p3] : List Value).toArray below meth c H locs 0 0 Q (F0 m 104 ls []) := by
    intro uX uC uF uH uS uG x2 x3 x6 h H locs ls hP hD hS hl
    unfold fL_change_c104 at h
    refine lv_aload_n hx hb dL_change_104 rfl (lv_at hl 0 rfl) ?_
    refine lv_iconst (v := 1) hx hb dL_change_105 (by decide) ?_
    refine lv_iload_n hx hb dL_change_106 rfl (lv_at hl 3 rfl) ?_
    refine lv_iload_n hx hb dL_change_107 rfl (lv_at hl 2 rfl) ?_
    refine lv_iconst (v := 5) hx hb dL_change_108 (by decide) ?_
    refine lv_ishr hx hb dL_change_109 ?_
    refine lv_iconst (v := 3) hx hb dL_change_110 (by decide) ?_
    obtain ⟨r111, e111, h⟩ := kBd h
    refine kCallSI (As := [.int (x2 >>> ((5 : Int32) &&& 31)), .int (3 : Int32)]) (rest := [.int x3, .int (1 : Int32), .ref aX]) ⟨hx, hb, hml, hown, hts⟩ (cL_low_ok l D ty  H.size (x2 >>> ((5 : Int32) &&& 31)) (3 : Int32)  r111 e111) (va_cwS 2 hts gL_change_L_low rfl rfl rfl (by decide +kernel) ⟨Nat.le_of_ble_eq_true rfl, Nat.le_of_ble_eq_true rfl⟩) hP hK hD hS hA rfl hl.1 rfl (Nat.le_of_ble_eq_true rfl) dL_change_111 ⟨Nat.le_of_ble_eq_true rfl, Nat.le_of_ble_eq_true rfl⟩ (fun H locs hP hS => ?_)
    refine lv_if_ne (tgt := 123) hx hb dL_change_114 (by decide) (fun c114 => ?_) (fun c114 => ?_)
    · have h := kT h c114
      refine lv_sipush (v := 300) hx hb dL_change_123 (by decide) ?_
      exact J126 uX uC uF uH uS uG x3 x6 (1 : Int32) x3 (300 : Int32) h H locs ls hP hD hS (lv_sub hl [0, 1, 3, 4] rfl)
    · have h := kF h (fun z => z c114)
      refine lv_sipush (v := 5000) hx hb dL_change_117 (by decide) ?_
      refine lv_goto (tgt := 126) hx hb dL_change_120 (by decide) ?_
      exact J126 uX uC uF uH uS uG x3 x6 (1 : Int32) x3 (5000 : Int32) h H locs ls hP hD hS (lv_sub hl [0, 1, 3, 4] rfl)
  have J24 : ∀ (uX : KX) (uC : KC) (uF : KF) (uH : KH) (uS : KS) (uG : KG) (x2 : Int32) (x3 : Int32) (x4 : Int32) (s0 : Int32), fL_change_c24 uX uC uF uH uS uG x2 x3 x4 s0 = some res → ∀ (H : Heap) (locs : List Loc) (ls : Array Slot), va_P D vwCl (wX aX adC adH adF adT uX ++ (wC ty adC uC ++ (wF ty adF uF ++ (wH ty adH adS uH ++ (wS ty adS uS ++ wG ty aG uG))))) H → va_D A (wX aX adC adH adF adT uX ++ (wC ty adC uC ++ (wF ty adF uF ++ (wH ty adH adS uH ++ (wS ty adS uS ++ wG ty aG uG))))) → va_S A s.heap H locs → lv_has ls 9 [(0, .ref aX), (1, .ref aG), (2, .int x2), (3, .int x3), (4, .int x4)] → W p l e (headSpec wsL_change { frames := 6, cells := 0, slots := 0, locals := 149 }).room s m ([.ref aX, .ref aG, .int p2, .int p3] : List Value).toArray below meth c H locs 0 0 Q (F0 m 24 ls [.int s0]) := by
    intro uX uC uF uH uS uG x2 x3 x4 s0 h H locs ls hP hD hS hl
    unfold fL_change_c24 at h
    refine lv_istore (lv' := [(5, .int s0), (0, .ref aX), (1, .ref aG), (2, .int x2), (3, .int x3), (4, .int x4)]) hx hb dL_change_24 hl (by decide) rfl (fun ls hl => ?_)
    refine lv_aload_n hx hb dL_change_26 rfl (lv_at hl 1 rfl) ?_
    obtain ⟨r27, e27, h⟩ := kBd h
    refine kCallWI (As := []) (rest := []) (sg := [wX aX adC adH adF adT uX, wC ty adC uC, wF ty adF uF, wH ty adH adS uH, wS ty adS uS, wG ty aG uG]) (sc := [wX aX adC adH adF adT uX]) (s1 := [wX aX adC adH adF adT uX]) (sn := [wX aX adC adH adF adT uX, wC ty adC uC, wF ty adF uF, wH ty adH adS uH, wS ty adS uS, wG ty aG uG]) ⟨hx, hb, hml, hown, hts⟩ (cX4_acts_ok l D ty aX adC adF adH adT H.size uX  r27 e27) (cwV 0 hts gL_change_X4_acts rfl rfl rfl (by decide +kernel) ⟨Nat.le_of_ble_eq_true rfl, Nat.le_of_ble_eq_true rfl⟩) hP hK hD hS hA [0] (by decide) rfl 4 0 rfl rfl rfl rfl hl.1 rfl (Nat.le_of_ble_eq_true rfl) dL_change_27 ⟨Nat.le_of_ble_eq_true rfl, Nat.le_of_ble_eq_true rfl⟩ rfl rfl (fun H locs hP hD hS => ?_)
    have hP : va_P D vwCl (wX aX adC adH adF adT uX ++ (wC ty adC uC ++ (wF ty adF uF ++ (wH ty adH adS uH ++ (wS ty adS uS ++ wG ty aG uG))))) H := hP
    have hD : va_D A (wX aX adC adH adF adT uX ++ (wC ty adC uC ++ (wF ty adF uF ++ (wH ty adH adS uH ++ (wS ty adS uS ++ wG ty aG uG))))) := hD
    refine lv_istore (lv' := [(6, .int r27), (5, .int s0), (0, .ref aX), (1, .ref aG), (2, .int x2), (3, .int x3), (4, .int x4)]) hx hb dL_change_30 hl (by decide) rfl (fun ls hl => ?_)
    refine lv_iload_n hx hb dL_change_32 rfl (lv_at hl 4 rfl) ?_
    refine lv_bipush (v := 14) hx hb dL_change_33 (by decide) ?_
    obtain ⟨r35, e35, h⟩ := kBd h
    refine kCallSI (As := [.int x2, .int (14 : Int32)]) (rest := []) ⟨hx, hb, hml, hown, hts⟩ (cL_low_ok l D ty  H.size x2 (14 : Int32)  r35 e35) (va_cwS 2 hts gL_change_L_low rfl rfl rfl (by decide +kernel) ⟨Nat.le_of_ble_eq_true rfl, Nat.le_of_ble_eq_true rfl⟩) hP hK hD hS hA rfl hl.1 rfl (Nat.le_of_ble_eq_true rfl) dL_change_35 ⟨Nat.le_of_ble_eq_true rfl, Nat.le_of_ble_eq_true rfl⟩ (fun H locs hP hS => ?_)
    by_cases c38_0 : r35 = (0 : Int32)
    · have h := kT h c38_0
      refine lv_tableIn (off := 66) (tgt := 104) hx hb dL_change_38 (by rw [c38_0]; decide) (by rw [c38_0]; decide) (by rw [c38_0]; decide) (by decide) ?_
      exact J104 uX uC uF uH uS uG x2 x3 r27 h H locs ls hP hD hS (lv_sub hl [2, 3, 4, 5, 0] rfl)
    have h := kF h c38_0
    by_cases c38_1 : r35 = (1 : Int32)
    · have h := kT h c38_1
      refine lv_tableIn (off := 66) (tgt := 104) hx hb dL_change_38 (by rw [c38_1]; decide) (by rw [c38_1]; decide) (by rw [c38_1]; decide) (by decide) ?_
      exact J104 uX uC uF uH uS uG x2 x3 r27 h H locs ls hP hD hS (lv_sub hl [2, 3, 4, 5, 0] rfl)
    have h := kF h c38_1
    by_cases c38_2 : r35 = (2 : Int32)
    · have h := kT h c38_2
      refine lv_tableIn (off := 66) (tgt := 104) hx hb dL_change_38 (by rw [c38_2]; decide) (by rw [c38_2]; decide) (by rw [c38_2]; decide) (by decide) ?_
      exact J104 uX uC uF uH uS uG x2 x3 r27 h H locs ls hP hD hS (lv_sub hl [2, 3, 4, 5, 0] rfl)
    have h := kF h c38_2
    by_cases c38_3 : r35 = (3 : Int32)
    · have h := kT h c38_3
      refine lv_tableIn (off := 113) (tgt := 151) hx hb dL_change_38 (by rw [c38_3]; decide) (by rw [c38_3]; decide) (by rw [c38_3]; decide) (by decide) ?_
      refine lv_aload_n hx hb dL_change_151 rfl (lv_at hl 2 rfl) ?_
      obtain ⟨r152, e152, h⟩ := kBd h
      refine kCallWI (As := []) (rest := []) (sg := [wX aX adC adH adF adT uX, wC ty adC uC, wF ty adF uF, wH ty adH adS uH, wS ty adS uS, wG ty aG uG]) (sc := [wX aX adC adH adF adT uX, wC ty adC uC, wH ty adH adS uH, wS ty adS uS]) (s1 := [wX aX adC adH adF adT r152.2.1, wC ty adC r152.2.2.1, wH ty adH adS r152.2.2.2.1, wS ty adS r152.2.2.2.2]) (sn := [wX aX adC adH adF adT r152.2.1, wC ty adC r152.2.2.1, wF ty adF uF, wH ty adH adS r152.2.2.2.1, wS ty adS r152.2.2.2.2, wG ty aG uG]) ⟨hx, hb, hml, hown, hts⟩ (cX4_removeLowest_ok l D ty aX adC adF adH adT adS H.size uX uC uH uS  r152 e152) (cwV 0 hts gL_change_X4_removeLowest rfl rfl rfl (by decide +kernel) ⟨Nat.le_of_ble_eq_true rfl, Nat.le_of_ble_eq_true rfl⟩) hP hK hD hS hA [0, 1, 3, 4] (by decide) rfl 4 0 rfl rfl rfl rfl hl.1 rfl (Nat.le_of_ble_eq_true rfl) dL_change_152 ⟨Nat.le_of_ble_eq_true rfl, Nat.le_of_ble_eq_true rfl⟩ rfl rfl (fun H locs hP hD hS => ?_)
      have hP : va_P D vwCl (wX aX adC adH adF adT r152.2.1 ++ (wC ty adC r152.2.2.1 ++ (wF ty adF uF ++ (wH ty adH adS r152.2.2.2.1 ++ (wS ty adS r152.2.2.2.2 ++ wG ty aG uG))))) H := hP
      have hD : va_D A (wX aX adC adH adF adT r152.2.1 ++ (wC ty adC r152.2.2.1 ++ (wF ty adF uF ++ (wH ty adH adS r152.2.2.2.1 ++ (wS ty adS r152.2.2.2.2 ++ wG ty aG uG))))) := hD
      refine lv_istore (lv' := [(7, .int r152.1), (6, .int r27), (5, .int s0), (0, .ref aX), (1, .ref aG), (2, .int x2), (3, .int x3), (4, .int x4)]) hx hb dL_change_155 hl (by decide) rfl (fun ls hl => ?_)
      refine lv_goto (tgt := 397) hx hb dL_change_157 (by decide) ?_
      exact J397 r152.2.1 r152.2.2.1 uF r152.2.2.2.1 r152.2.2.2.2 uG r27 r152.1 h H locs ls hP hD hS (lv_sub hl [3, 4, 1, 0] rfl)
    have h := kF h c38_3
    by_cases c38_4 : r35 = (4 : Int32)
    · have h := kT h c38_4
      refine lv_tableIn (off := 122) (tgt := 160) hx hb dL_change_38 (by rw [c38_4]; decide) (by rw [c38_4]; decide) (by rw [c38_4]; decide) (by decide) ?_
      refine lv_aload_n hx hb dL_change_160 rfl (lv_at hl 2 rfl) ?_
      refine lv_iload hx hb dL_change_161 (lv_at hl 1 rfl) ?_
      refine lv_iconst (v := 1) hx hb dL_change_163 (by decide) ?_
      refine lv_iload_n hx hb dL_change_164 rfl (lv_at hl 5 rfl) ?_
      refine lv_sipush (v := 200) hx hb dL_change_165 (by decide) ?_
      obtain ⟨r168, e168, h⟩ := kBd h
      refine kCallSI (As := [.int x3, .int (200 : Int32)]) (rest := [.int (1 : Int32), .int s0, .ref aX]) ⟨hx, hb, hml, hown, hts⟩ (cL_low_ok l D ty  H.size x3 (200 : Int32)  r168 e168) (va_cwS 2 hts gL_change_L_low rfl rfl rfl (by decide +kernel) ⟨Nat.le_of_ble_eq_true rfl, Nat.le_of_ble_eq_true rfl⟩) hP hK hD hS hA rfl hl.1 rfl (Nat.le_of_ble_eq_true rfl) dL_change_168 ⟨Nat.le_of_ble_eq_true rfl, Nat.le_of_ble_eq_true rfl⟩ (fun H locs hP hS => ?_)
      refine lv_iadd hx hb dL_change_171 ?_
      obtain ⟨r172, e172, h⟩ := kBd h
      refine kCallWI (As := [.int s0, .int ((1 : Int32) + r168)]) (rest := []) (sg := [wX aX adC adH adF adT uX, wC ty adC uC, wF ty adF uF, wH ty adH adS uH, wS ty adS uS, wG ty aG uG]) (sc := [wX aX adC adH adF adT uX, wC ty adC uC, wH ty adH adS uH, wS ty adS uS]) (s1 := [wX aX adC adH adF adT r172.2.1, wC ty adC r172.2.2.1, wH ty adH adS r172.2.2.2.1, wS ty adS r172.2.2.2.2]) (sn := [wX aX adC adH adF adT r172.2.1, wC ty adC r172.2.2.1, wF ty adF uF, wH ty adH adS r172.2.2.2.1, wS ty adS r172.2.2.2.2, wG ty aG uG]) ⟨hx, hb, hml, hown, hts⟩ (cX4_divide_ok l D ty aX adC adF adH adT adS H.size uX uC uH uS s0 ((1 : Int32) + r168)  r172 e172) (cwV 2 hts gL_change_X4_divide rfl rfl rfl (by decide +kernel) ⟨Nat.le_of_ble_eq_true rfl, Nat.le_of_ble_eq_true rfl⟩) hP hK hD hS hA [0, 1, 3, 4] (by decide) rfl 4 0 rfl rfl rfl rfl hl.1 rfl (Nat.le_of_ble_eq_true rfl) dL_change_172 ⟨Nat.le_of_ble_eq_true rfl, Nat.le_of_ble_eq_true rfl⟩ rfl rfl (fun H locs hP hD hS => ?_)
      have hP : va_P D vwCl (wX aX adC adH adF adT r172.2.1 ++ (wC ty adC r172.2.2.1 ++ (wF ty adF uF ++ (wH ty adH adS r172.2.2.2.1 ++ (wS ty adS r172.2.2.2.2 ++ wG ty aG uG))))) H := hP
      have hD : va_D A (wX aX adC adH adF adT r172.2.1 ++ (wC ty adC r172.2.2.1 ++ (wF ty adF uF ++ (wH ty adH adS r172.2.2.2.1 ++ (wS ty adS r172.2.2.2.2 ++ wG ty aG uG))))) := hD
      refine lv_istore (lv' := [(7, .int r172.1), (6, .int r27), (5, .int s0), (0, .ref aX), (1, .ref aG), (2, .int x2), (3, .int x3), (4, .int x4)]) hx hb dL_change_175 hl (by decide) rfl (fun ls hl => ?_)
      refine lv_goto (tgt := 397) hx hb dL_change_177 (by decide) ?_
      exact J397 r172.2.1 r172.2.2.1 uF r172.2.2.2.1 r172.2.2.2.2 uG r27 r172.1 h H locs ls hP hD hS (lv_sub hl [3, 4, 1, 0] rfl)
    have h := kF h c38_4
    by_cases c38_5 : r35 = (5 : Int32)
    · have h := kT h c38_5
      refine lv_tableIn (off := 142) (tgt := 180) hx hb dL_change_38 (by rw [c38_5]; decide) (by rw [c38_5]; decide) (by rw [c38_5]; decide) (by decide) ?_
      refine lv_aload_n hx hb dL_change_180 rfl (lv_at hl 2 rfl) ?_
      refine lv_sipush (v := 1000) hx hb dL_change_181 (by decide) ?_
      refine lv_iload_n hx hb dL_change_184 rfl (lv_at hl 5 rfl) ?_
      refine lv_iload_n hx hb dL_change_185 rfl (lv_at hl 4 rfl) ?_
      refine lv_iconst (v := 5) hx hb dL_change_186 (by decide) ?_
      refine lv_ishr hx hb dL_change_187 ?_
      refine lv_iconst (v := 2) hx hb dL_change_188 (by decide) ?_
      obtain ⟨r189, e189, h⟩ := kBd h
      refine kCallSI (As := [.int (x2 >>> ((5 : Int32) &&& 31)), .int (2 : Int32)]) (rest := [.int x3, .int (1000 : Int32), .ref aX]) ⟨hx, hb, hml, hown, hts⟩ (cL_low_ok l D ty  H.size (x2 >>> ((5 : Int32) &&& 31)) (2 : Int32)  r189 e189) (va_cwS 2 hts gL_change_L_low rfl rfl rfl (by decide +kernel) ⟨Nat.le_of_ble_eq_true rfl, Nat.le_of_ble_eq_true rfl⟩) hP hK hD hS hA rfl hl.1 rfl (Nat.le_of_ble_eq_true rfl) dL_change_189 ⟨Nat.le_of_ble_eq_true rfl, Nat.le_of_ble_eq_true rfl⟩ (fun H locs hP hS => ?_)
      refine lv_if_ne (tgt := 201) hx hb dL_change_192 (by decide) (fun c192 => ?_) (fun c192 => ?_)
      · have h := kT h c192
        refine lv_ldc hx hb hown wf2 dL_change_201 ?_
        exact J203 uX uC uF uH uS uG r27 (1000 : Int32) x3 (199001 : Int32) h H locs ls hP hD hS (lv_sub hl [2, 3, 0] rfl)
      · have h := kF h (fun z => z c192)
        refine lv_sipush (v := 5000) hx hb dL_change_195 (by decide) ?_
        refine lv_goto (tgt := 203) hx hb dL_change_198 (by decide) ?_
        exact J203 uX uC uF uH uS uG r27 (1000 : Int32) x3 (5000 : Int32) h H locs ls hP hD hS (lv_sub hl [2, 3, 0] rfl)
    have h := kF h c38_5
    by_cases c38_6 : r35 = (6 : Int32)
    · have h := kT h c38_6
      refine lv_tableIn (off := 177) (tgt := 215) hx hb dL_change_38 (by rw [c38_6]; decide) (by rw [c38_6]; decide) (by rw [c38_6]; decide) (by decide) ?_
      refine lv_aload_n hx hb dL_change_215 rfl (lv_at hl 2 rfl) ?_
      refine lv_iload_n hx hb dL_change_216 rfl (lv_at hl 5 rfl) ?_
      refine lv_iconst (v := 3) hx hb dL_change_217 (by decide) ?_
      obtain ⟨r218, e218, h⟩ := kBd h
      refine kCallSI (As := [.int x3, .int (3 : Int32)]) (rest := [.ref aX]) ⟨hx, hb, hml, hown, hts⟩ (cL_low_ok l D ty  H.size x3 (3 : Int32)  r218 e218) (va_cwS 2 hts gL_change_L_low rfl rfl rfl (by decide +kernel) ⟨Nat.le_of_ble_eq_true rfl, Nat.le_of_ble_eq_true rfl⟩) hP hK hD hS hA rfl hl.1 rfl (Nat.le_of_ble_eq_true rfl) dL_change_218 ⟨Nat.le_of_ble_eq_true rfl, Nat.le_of_ble_eq_true rfl⟩ (fun H locs hP hS => ?_)
      obtain ⟨r221, e221, h⟩ := kBd h
      refine kCallWI (As := [.int r218]) (rest := []) (sg := [wX aX adC adH adF adT uX, wC ty adC uC, wF ty adF uF, wH ty adH adS uH, wS ty adS uS, wG ty aG uG]) (sc := [wX aX adC adH adF adT uX, wC ty adC uC, wH ty adH adS uH, wS ty adS uS]) (s1 := [wX aX adC adH adF adT r221.2.1, wC ty adC r221.2.2.1, wH ty adH adS r221.2.2.2.1, wS ty adS r221.2.2.2.2]) (sn := [wX aX adC adH adF adT r221.2.1, wC ty adC r221.2.2.1, wF ty adF uF, wH ty adH adS r221.2.2.2.1, wS ty adS r221.2.2.2.2, wG ty aG uG]) ⟨hx, hb, hml, hown, hts⟩ (cX4_setFunction_ok l D ty aX adC adF adH adT adS H.size uX uC uH uS r218  r221 e221) (cwV 1 hts gL_change_X4_setFunction rfl rfl rfl (by decide +kernel) ⟨Nat.le_of_ble_eq_true rfl, Nat.le_of_ble_eq_true rfl⟩) hP hK hD hS hA [0, 1, 3, 4] (by decide) rfl 4 0 rfl rfl rfl rfl hl.1 rfl (Nat.le_of_ble_eq_true rfl) dL_change_221 ⟨Nat.le_of_ble_eq_true rfl, Nat.le_of_ble_eq_true rfl⟩ rfl rfl (fun H locs hP hD hS => ?_)
      have hP : va_P D vwCl (wX aX adC adH adF adT r221.2.1 ++ (wC ty adC r221.2.2.1 ++ (wF ty adF uF ++ (wH ty adH adS r221.2.2.2.1 ++ (wS ty adS r221.2.2.2.2 ++ wG ty aG uG))))) H := hP
      have hD : va_D A (wX aX adC adH adF adT r221.2.1 ++ (wC ty adC r221.2.2.1 ++ (wF ty adF uF ++ (wH ty adH adS r221.2.2.2.1 ++ (wS ty adS r221.2.2.2.2 ++ wG ty aG uG))))) := hD
      refine lv_istore (lv' := [(7, .int r221.1), (6, .int r27), (5, .int s0), (0, .ref aX), (1, .ref aG), (2, .int x2), (3, .int x3), (4, .int x4)]) hx hb dL_change_224 hl (by decide) rfl (fun ls hl => ?_)
      refine lv_goto (tgt := 397) hx hb dL_change_226 (by decide) ?_
      exact J397 r221.2.1 r221.2.2.1 uF r221.2.2.2.1 r221.2.2.2.2 uG r27 r221.1 h H locs ls hP hD hS (lv_sub hl [3, 4, 1, 0] rfl)
    have h := kF h c38_6
    by_cases c38_7 : r35 = (7 : Int32)
    · have h := kT h c38_7
      refine lv_tableIn (off := 191) (tgt := 229) hx hb dL_change_38 (by rw [c38_7]; decide) (by rw [c38_7]; decide) (by rw [c38_7]; decide) (by decide) ?_
      refine lv_aload_n hx hb dL_change_229 rfl (lv_at hl 2 rfl) ?_
      refine lv_iload_n hx hb dL_change_230 rfl (lv_at hl 5 rfl) ?_
      refine lv_sipush (v := 901) hx hb dL_change_231 (by decide) ?_
      obtain ⟨r234, e234, h⟩ := kBd h
      refine kCallSI (As := [.int x3, .int (901 : Int32)]) (rest := [.ref aX]) ⟨hx, hb, hml, hown, hts⟩ (cL_low_ok l D ty  H.size x3 (901 : Int32)  r234 e234) (va_cwS 2 hts gL_change_L_low rfl rfl rfl (by decide +kernel) ⟨Nat.le_of_ble_eq_true rfl, Nat.le_of_ble_eq_true rfl⟩) hP hK hD hS hA rfl hl.1 rfl (Nat.le_of_ble_eq_true rfl) dL_change_234 ⟨Nat.le_of_ble_eq_true rfl, Nat.le_of_ble_eq_true rfl⟩ (fun H locs hP hS => ?_)
      obtain ⟨r237, e237, h⟩ := kBd h
      refine kCallWI (As := [.int r234]) (rest := []) (sg := [wX aX adC adH adF adT uX, wC ty adC uC, wF ty adF uF, wH ty adH adS uH, wS ty adS uS, wG ty aG uG]) (sc := [wX aX adC adH adF adT uX, wC ty adC uC, wH ty adH adS uH, wS ty adS uS]) (s1 := [wX aX adC adH adF adT r237.2.1, wC ty adC r237.2.2.1, wH ty adH adS r237.2.2.2.1, wS ty adS r237.2.2.2.2]) (sn := [wX aX adC adH adF adT r237.2.1, wC ty adC r237.2.2.1, wF ty adF uF, wH ty adH adS r237.2.2.2.1, wS ty adS r237.2.2.2.2, wG ty aG uG]) ⟨hx, hb, hml, hown, hts⟩ (cX4_setKink_ok l D ty aX adC adF adH adT adS H.size uX uC uH uS r234  r237 e237) (cwV 1 hts gL_change_X4_setKink rfl rfl rfl (by decide +kernel) ⟨Nat.le_of_ble_eq_true rfl, Nat.le_of_ble_eq_true rfl⟩) hP hK hD hS hA [0, 1, 3, 4] (by decide) rfl 4 0 rfl rfl rfl rfl hl.1 rfl (Nat.le_of_ble_eq_true rfl) dL_change_237 ⟨Nat.le_of_ble_eq_true rfl, Nat.le_of_ble_eq_true rfl⟩ rfl rfl (fun H locs hP hD hS => ?_)
      have hP : va_P D vwCl (wX aX adC adH adF adT r237.2.1 ++ (wC ty adC r237.2.2.1 ++ (wF ty adF uF ++ (wH ty adH adS r237.2.2.2.1 ++ (wS ty adS r237.2.2.2.2 ++ wG ty aG uG))))) H := hP
      have hD : va_D A (wX aX adC adH adF adT r237.2.1 ++ (wC ty adC r237.2.2.1 ++ (wF ty adF uF ++ (wH ty adH adS r237.2.2.2.1 ++ (wS ty adS r237.2.2.2.2 ++ wG ty aG uG))))) := hD
      refine lv_istore (lv' := [(7, .int r237.1), (6, .int r27), (5, .int s0), (0, .ref aX), (1, .ref aG), (2, .int x2), (3, .int x3), (4, .int x4)]) hx hb dL_change_240 hl (by decide) rfl (fun ls hl => ?_)
      refine lv_goto (tgt := 397) hx hb dL_change_242 (by decide) ?_
      exact J397 r237.2.1 r237.2.2.1 uF r237.2.2.2.1 r237.2.2.2.2 uG r27 r237.1 h H locs ls hP hD hS (lv_sub hl [3, 4, 1, 0] rfl)
    have h := kF h c38_7
    by_cases c38_8 : r35 = (8 : Int32)
    · have h := kT h c38_8
      refine lv_tableIn (off := 207) (tgt := 245) hx hb dL_change_38 (by rw [c38_8]; decide) (by rw [c38_8]; decide) (by rw [c38_8]; decide) (by decide) ?_
      refine lv_aload_n hx hb dL_change_245 rfl (lv_at hl 2 rfl) ?_
      refine lv_iload hx hb dL_change_246 (lv_at hl 1 rfl) ?_
      refine lv_bipush (v := 10) hx hb dL_change_248 (by decide) ?_
      refine lv_iload_n hx hb dL_change_250 rfl (lv_at hl 5 rfl) ?_
      refine lv_sipush (v := 991) hx hb dL_change_251 (by decide) ?_
      obtain ⟨r254, e254, h⟩ := kBd h
      refine kCallSI (As := [.int x3, .int (991 : Int32)]) (rest := [.int (10 : Int32), .int s0, .ref aX]) ⟨hx, hb, hml, hown, hts⟩ (cL_low_ok l D ty  H.size x3 (991 : Int32)  r254 e254) (va_cwS 2 hts gL_change_L_low rfl rfl rfl (by decide +kernel) ⟨Nat.le_of_ble_eq_true rfl, Nat.le_of_ble_eq_true rfl⟩) hP hK hD hS hA rfl hl.1 rfl (Nat.le_of_ble_eq_true rfl) dL_change_254 ⟨Nat.le_of_ble_eq_true rfl, Nat.le_of_ble_eq_true rfl⟩ (fun H locs hP hS => ?_)
      refine lv_iadd hx hb dL_change_257 ?_
      obtain ⟨r258, e258, h⟩ := kBd h
      refine kCallWI (As := [.int s0, .int ((10 : Int32) + r254)]) (rest := []) (sg := [wX aX adC adH adF adT uX, wC ty adC uC, wF ty adF uF, wH ty adH adS uH, wS ty adS uS, wG ty aG uG]) (sc := [wX aX adC adH adF adT uX, wC ty adC uC, wH ty adH adS uH, wS ty adS uS]) (s1 := [wX aX adC adH adF adT r258.2.1, wC ty adC r258.2.2.1, wH ty adH adS r258.2.2.2.1, wS ty adS r258.2.2.2.2]) (sn := [wX aX adC adH adF adT r258.2.1, wC ty adC r258.2.2.1, wF ty adF uF, wH ty adH adS r258.2.2.2.1, wS ty adS r258.2.2.2.2, wG ty aG uG]) ⟨hx, hb, hml, hown, hts⟩ (cX4_tellThinning_ok l D ty aX adC adF adH adT adS H.size uX uC uH uS s0 ((10 : Int32) + r254)  r258 e258) (cwV 2 hts gL_change_X4_tellThinning rfl rfl rfl (by decide +kernel) ⟨Nat.le_of_ble_eq_true rfl, Nat.le_of_ble_eq_true rfl⟩) hP hK hD hS hA [0, 1, 3, 4] (by decide) rfl 4 0 rfl rfl rfl rfl hl.1 rfl (Nat.le_of_ble_eq_true rfl) dL_change_258 ⟨Nat.le_of_ble_eq_true rfl, Nat.le_of_ble_eq_true rfl⟩ rfl rfl (fun H locs hP hD hS => ?_)
      have hP : va_P D vwCl (wX aX adC adH adF adT r258.2.1 ++ (wC ty adC r258.2.2.1 ++ (wF ty adF uF ++ (wH ty adH adS r258.2.2.2.1 ++ (wS ty adS r258.2.2.2.2 ++ wG ty aG uG))))) H := hP
      have hD : va_D A (wX aX adC adH adF adT r258.2.1 ++ (wC ty adC r258.2.2.1 ++ (wF ty adF uF ++ (wH ty adH adS r258.2.2.2.1 ++ (wS ty adS r258.2.2.2.2 ++ wG ty aG uG))))) := hD
      refine lv_istore (lv' := [(7, .int r258.1), (6, .int r27), (5, .int s0), (0, .ref aX), (1, .ref aG), (2, .int x2), (3, .int x3), (4, .int x4)]) hx hb dL_change_261 hl (by decide) rfl (fun ls hl => ?_)
      refine lv_goto (tgt := 397) hx hb dL_change_263 (by decide) ?_
      exact J397 r258.2.1 r258.2.2.1 uF r258.2.2.2.1 r258.2.2.2.2 uG r27 r258.1 h H locs ls hP hD hS (lv_sub hl [3, 4, 1, 0] rfl)
    have h := kF h c38_8
    by_cases c38_9 : r35 = (9 : Int32)
    · have h := kT h c38_9
      refine lv_tableIn (off := 228) (tgt := 266) hx hb dL_change_38 (by rw [c38_9]; decide) (by rw [c38_9]; decide) (by rw [c38_9]; decide) (by decide) ?_
      refine lv_aload_n hx hb dL_change_266 rfl (lv_at hl 2 rfl) ?_
      refine lv_iload hx hb dL_change_267 (lv_at hl 1 rfl) ?_
      refine lv_sipush (v := 200) hx hb dL_change_269 (by decide) ?_
      refine lv_iload_n hx hb dL_change_272 rfl (lv_at hl 5 rfl) ?_
      refine lv_sipush (v := 4801) hx hb dL_change_273 (by decide) ?_
      obtain ⟨r276, e276, h⟩ := kBd h
      refine kCallSI (As := [.int x3, .int (4801 : Int32)]) (rest := [.int (200 : Int32), .int s0, .ref aX]) ⟨hx, hb, hml, hown, hts⟩ (cL_low_ok l D ty  H.size x3 (4801 : Int32)  r276 e276) (va_cwS 2 hts gL_change_L_low rfl rfl rfl (by decide +kernel) ⟨Nat.le_of_ble_eq_true rfl, Nat.le_of_ble_eq_true rfl⟩) hP hK hD hS hA rfl hl.1 rfl (Nat.le_of_ble_eq_true rfl) dL_change_276 ⟨Nat.le_of_ble_eq_true rfl, Nat.le_of_ble_eq_true rfl⟩ (fun H locs hP hS => ?_)
      refine lv_iadd hx hb dL_change_279 ?_
      obtain ⟨r280, e280, h⟩ := kBd h
      refine kCallWI (As := [.int s0, .int ((200 : Int32) + r276)]) (rest := []) (sg := [wX aX adC adH adF adT uX, wC ty adC uC, wF ty adF uF, wH ty adH adS uH, wS ty adS uS, wG ty aG uG]) (sc := [wX aX adC adH adF adT uX, wC ty adC uC, wH ty adH adS uH, wS ty adS uS]) (s1 := [wX aX adC adH adF adT r280.2.1, wC ty adC r280.2.2.1, wH ty adH adS r280.2.2.2.1, wS ty adS r280.2.2.2.2]) (sn := [wX aX adC adH adF adT r280.2.1, wC ty adC r280.2.2.1, wF ty adF uF, wH ty adH adS r280.2.2.2.1, wS ty adS r280.2.2.2.2, wG ty aG uG]) ⟨hx, hb, hml, hown, hts⟩ (cX4_correct_ok l D ty aX adC adF adH adT adS H.size uX uC uH uS s0 ((200 : Int32) + r276)  r280 e280) (cwV 2 hts gL_change_X4_correct rfl rfl rfl (by decide +kernel) ⟨Nat.le_of_ble_eq_true rfl, Nat.le_of_ble_eq_true rfl⟩) hP hK hD hS hA [0, 1, 3, 4] (by decide) rfl 4 0 rfl rfl rfl rfl hl.1 rfl (Nat.le_of_ble_eq_true rfl) dL_change_280 ⟨Nat.le_of_ble_eq_true rfl, Nat.le_of_ble_eq_true rfl⟩ rfl rfl (fun H locs hP hD hS => ?_)
      have hP : va_P D vwCl (wX aX adC adH adF adT r280.2.1 ++ (wC ty adC r280.2.2.1 ++ (wF ty adF uF ++ (wH ty adH adS r280.2.2.2.1 ++ (wS ty adS r280.2.2.2.2 ++ wG ty aG uG))))) H := hP
      have hD : va_D A (wX aX adC adH adF adT r280.2.1 ++ (wC ty adC r280.2.2.1 ++ (wF ty adF uF ++ (wH ty adH adS r280.2.2.2.1 ++ (wS ty adS r280.2.2.2.2 ++ wG ty aG uG))))) := hD
      refine lv_istore (lv' := [(7, .int r280.1), (6, .int r27), (5, .int s0), (0, .ref aX), (1, .ref aG), (2, .int x2), (3, .int x3), (4, .int x4)]) hx hb dL_change_283 hl (by decide) rfl (fun ls hl => ?_)
      refine lv_goto (tgt := 397) hx hb dL_change_285 (by decide) ?_
      exact J397 r280.2.1 r280.2.2.1 uF r280.2.2.2.1 r280.2.2.2.2 uG r27 r280.1 h H locs ls hP hD hS (lv_sub hl [3, 4, 1, 0] rfl)
    have h := kF h c38_9
    by_cases c38_10 : r35 = (10 : Int32)
    · have h := kT h c38_10
      refine lv_tableIn (off := 250) (tgt := 288) hx hb dL_change_38 (by rw [c38_10]; decide) (by rw [c38_10]; decide) (by rw [c38_10]; decide) (by decide) ?_
      refine lv_aload_n hx hb dL_change_288 rfl (lv_at hl 2 rfl) ?_
      refine lv_iload_n hx hb dL_change_289 rfl (lv_at hl 5 rfl) ?_
      refine lv_sipush (v := 15001) hx hb dL_change_290 (by decide) ?_
      obtain ⟨r293, e293, h⟩ := kBd h
      refine kCallSI (As := [.int x3, .int (15001 : Int32)]) (rest := [.ref aX]) ⟨hx, hb, hml, hown, hts⟩ (cL_low_ok l D ty  H.size x3 (15001 : Int32)  r293 e293) (va_cwS 2 hts gL_change_L_low rfl rfl rfl (by decide +kernel) ⟨Nat.le_of_ble_eq_true rfl, Nat.le_of_ble_eq_true rfl⟩) hP hK hD hS hA rfl hl.1 rfl (Nat.le_of_ble_eq_true rfl) dL_change_293 ⟨Nat.le_of_ble_eq_true rfl, Nat.le_of_ble_eq_true rfl⟩ (fun H locs hP hS => ?_)
      obtain ⟨r296, e296, h⟩ := kBd h
      refine kCallWI (As := [.int r293]) (rest := []) (sg := [wX aX adC adH adF adT uX, wC ty adC uC, wF ty adF uF, wH ty adH adS uH, wS ty adS uS, wG ty aG uG]) (sc := [wX aX adC adH adF adT uX, wC ty adC uC, wH ty adH adS uH, wS ty adS uS]) (s1 := [wX aX adC adH adF adT r296.2.1, wC ty adC r296.2.2.1, wH ty adH adS r296.2.2.2.1, wS ty adS r296.2.2.2.2]) (sn := [wX aX adC adH adF adT r296.2.1, wC ty adC r296.2.2.1, wF ty adF uF, wH ty adH adS r296.2.2.2.1, wS ty adS r296.2.2.2.2, wG ty aG uG]) ⟨hx, hb, hml, hown, hts⟩ (cX4_setCloseOff_ok l D ty aX adC adF adH adT adS H.size uX uC uH uS r293  r296 e296) (cwV 1 hts gL_change_X4_setCloseOff rfl rfl rfl (by decide +kernel) ⟨Nat.le_of_ble_eq_true rfl, Nat.le_of_ble_eq_true rfl⟩) hP hK hD hS hA [0, 1, 3, 4] (by decide) rfl 4 0 rfl rfl rfl rfl hl.1 rfl (Nat.le_of_ble_eq_true rfl) dL_change_296 ⟨Nat.le_of_ble_eq_true rfl, Nat.le_of_ble_eq_true rfl⟩ rfl rfl (fun H locs hP hD hS => ?_)
      have hP : va_P D vwCl (wX aX adC adH adF adT r296.2.1 ++ (wC ty adC r296.2.2.1 ++ (wF ty adF uF ++ (wH ty adH adS r296.2.2.2.1 ++ (wS ty adS r296.2.2.2.2 ++ wG ty aG uG))))) H := hP
      have hD : va_D A (wX aX adC adH adF adT r296.2.1 ++ (wC ty adC r296.2.2.1 ++ (wF ty adF uF ++ (wH ty adH adS r296.2.2.2.1 ++ (wS ty adS r296.2.2.2.2 ++ wG ty aG uG))))) := hD
      refine lv_istore (lv' := [(7, .int r296.1), (6, .int r27), (5, .int s0), (0, .ref aX), (1, .ref aG), (2, .int x2), (3, .int x3), (4, .int x4)]) hx hb dL_change_299 hl (by decide) rfl (fun ls hl => ?_)
      refine lv_goto (tgt := 397) hx hb dL_change_301 (by decide) ?_
      exact J397 r296.2.1 r296.2.2.1 uF r296.2.2.2.1 r296.2.2.2.2 uG r27 r296.1 h H locs ls hP hD hS (lv_sub hl [3, 4, 1, 0] rfl)
    have h := kF h c38_10
    by_cases c38_11 : r35 = (11 : Int32)
    · have h := kT h c38_11
      refine lv_tableIn (off := 266) (tgt := 304) hx hb dL_change_38 (by rw [c38_11]; decide) (by rw [c38_11]; decide) (by rw [c38_11]; decide) (by decide) ?_
      refine lv_iload hx hb dL_change_304 (lv_at hl 6 rfl) ?_
      refine lv_if_ne (tgt := 313) hx hb dL_change_306 (by decide) (fun c306 => ?_) (fun c306 => ?_)
      · have h := kT h c306
        refine lv_aload_n hx hb dL_change_313 rfl (lv_at hl 2 rfl) ?_
        refine lv_aload_n hx hb dL_change_314 rfl (lv_at hl 2 rfl) ?_
        obtain ⟨r315, e315, h⟩ := kBd h
        refine kCallWI (As := []) (rest := [.ref aX]) (sg := [wX aX adC adH adF adT uX, wC ty adC uC, wF ty adF uF, wH ty adH adS uH, wS ty adS uS, wG ty aG uG]) (sc := [wX aX adC adH adF adT uX, wC ty adC uC]) (s1 := [wX aX adC adH adF adT uX, wC ty adC uC]) (sn := [wX aX adC adH adF adT uX, wC ty adC uC, wF ty adF uF, wH ty adH adS uH, wS ty adS uS, wG ty aG uG]) ⟨hx, hb, hml, hown, hts⟩ (cX4_depth_ok l D ty aX adC adF adH adT H.size uX uC  r315 e315) (cwV 0 hts gL_change_X4_depth rfl rfl rfl (by decide +kernel) ⟨Nat.le_of_ble_eq_true rfl, Nat.le_of_ble_eq_true rfl⟩) hP hK hD hS hA [0, 1] (by decide) rfl 4 0 rfl rfl rfl rfl hl.1 rfl (Nat.le_of_ble_eq_true rfl) dL_change_315 ⟨Nat.le_of_ble_eq_true rfl, Nat.le_of_ble_eq_true rfl⟩ rfl rfl (fun H locs hP hD hS => ?_)
        have hP : va_P D vwCl (wX aX adC adH adF adT uX ++ (wC ty adC uC ++ (wF ty adF uF ++ (wH ty adH adS uH ++ (wS ty adS uS ++ wG ty aG uG))))) H := hP
        have hD : va_D A (wX aX adC adH adF adT uX ++ (wC ty adC uC ++ (wF ty adF uF ++ (wH ty adH adS uH ++ (wS ty adS uS ++ wG ty aG uG))))) := hD
        obtain ⟨r318, e318, h⟩ := kBd h
        refine kCallWI (As := [.int r315]) (rest := []) (sg := [wX aX adC adH adF adT uX, wC ty adC uC, wF ty adF uF, wH ty adH adS uH, wS ty adS uS, wG ty aG uG]) (sc := [wX aX adC adH adF adT uX, wC ty adC uC]) (s1 := [wX aX adC adH adF adT uX, wC ty adC uC]) (sn := [wX aX adC adH adF adT uX, wC ty adC uC, wF ty adF uF, wH ty adH adS uH, wS ty adS uS, wG ty aG uG]) ⟨hx, hb, hml, hown, hts⟩ (cX4_age_ok l D ty aX adC adF adH adT H.size uX uC r315  r318 e318) (cwV 1 hts gL_change_X4_age rfl rfl rfl (by decide +kernel) ⟨Nat.le_of_ble_eq_true rfl, Nat.le_of_ble_eq_true rfl⟩) hP hK hD hS hA [0, 1] (by decide) rfl 4 0 rfl rfl rfl rfl hl.1 rfl (Nat.le_of_ble_eq_true rfl) dL_change_318 ⟨Nat.le_of_ble_eq_true rfl, Nat.le_of_ble_eq_true rfl⟩ rfl rfl (fun H locs hP hD hS => ?_)
        have hP : va_P D vwCl (wX aX adC adH adF adT uX ++ (wC ty adC uC ++ (wF ty adF uF ++ (wH ty adH adS uH ++ (wS ty adS uS ++ wG ty aG uG))))) H := hP
        have hD : va_D A (wX aX adC adH adF adT uX ++ (wC ty adC uC ++ (wF ty adF uF ++ (wH ty adH adS uH ++ (wS ty adS uS ++ wG ty aG uG))))) := hD
        exact J321 uX uC uF uH uS uG x3 s0 r27 r318 h H locs ls hP hD hS (lv_sub hl [2, 3, 5, 1, 0] rfl)
      · have h := kF h (fun z => z c306)
        refine lv_iconst (v := 0) hx hb dL_change_309 (by decide) ?_
        refine lv_goto (tgt := 321) hx hb dL_change_310 (by decide) ?_
        exact J321 uX uC uF uH uS uG x3 s0 r27 (0 : Int32) h H locs ls hP hD hS (lv_sub hl [2, 3, 5, 1, 0] rfl)
    have h := kF h c38_11
    by_cases c38_12 : r35 = (12 : Int32)
    · have h := kT h c38_12
      refine lv_tableIn (off := 316) (tgt := 354) hx hb dL_change_38 (by rw [c38_12]; decide) (by rw [c38_12]; decide) (by rw [c38_12]; decide) (by decide) ?_
      refine lv_aload_n hx hb dL_change_354 rfl (lv_at hl 2 rfl) ?_
      refine lv_iload hx hb dL_change_355 (lv_at hl 1 rfl) ?_
      refine lv_iconst (v := 1) hx hb dL_change_357 (by decide) ?_
      refine lv_iload_n hx hb dL_change_358 rfl (lv_at hl 5 rfl) ?_
      refine lv_sipush (v := 5000) hx hb dL_change_359 (by decide) ?_
      obtain ⟨r362, e362, h⟩ := kBd h
      refine kCallSI (As := [.int x3, .int (5000 : Int32)]) (rest := [.int (1 : Int32), .int s0, .ref aX]) ⟨hx, hb, hml, hown, hts⟩ (cL_low_ok l D ty  H.size x3 (5000 : Int32)  r362 e362) (va_cwS 2 hts gL_change_L_low rfl rfl rfl (by decide +kernel) ⟨Nat.le_of_ble_eq_true rfl, Nat.le_of_ble_eq_true rfl⟩) hP hK hD hS hA rfl hl.1 rfl (Nat.le_of_ble_eq_true rfl) dL_change_362 ⟨Nat.le_of_ble_eq_true rfl, Nat.le_of_ble_eq_true rfl⟩ (fun H locs hP hS => ?_)
      refine lv_iadd hx hb dL_change_365 ?_
      obtain ⟨r366, e366, h⟩ := kBd h
      refine kCallWI (As := [.int s0, .int ((1 : Int32) + r362)]) (rest := []) (sg := [wX aX adC adH adF adT uX, wC ty adC uC, wF ty adF uF, wH ty adH adS uH, wS ty adS uS, wG ty aG uG]) (sc := [wX aX adC adH adF adT uX, wC ty adC uC, wH ty adH adS uH, wS ty adS uS]) (s1 := [wX aX adC adH adF adT r366.2.1, wC ty adC r366.2.2.1, wH ty adH adS r366.2.2.2.1, wS ty adS r366.2.2.2.2]) (sn := [wX aX adC adH adF adT r366.2.1, wC ty adC r366.2.2.1, wF ty adF uF, wH ty adH adS r366.2.2.2.1, wS ty adS r366.2.2.2.2, wG ty aG uG]) ⟨hx, hb, hml, hown, hts⟩ (cX4_setCount_ok l D ty aX adC adF adH adT adS H.size uX uC uH uS s0 ((1 : Int32) + r362)  r366 e366) (cwV 2 hts gL_change_X4_setCount rfl rfl rfl (by decide +kernel) ⟨Nat.le_of_ble_eq_true rfl, Nat.le_of_ble_eq_true rfl⟩) hP hK hD hS hA [0, 1, 3, 4] (by decide) rfl 4 0 rfl rfl rfl rfl hl.1 rfl (Nat.le_of_ble_eq_true rfl) dL_change_366 ⟨Nat.le_of_ble_eq_true rfl, Nat.le_of_ble_eq_true rfl⟩ rfl rfl (fun H locs hP hD hS => ?_)
      have hP : va_P D vwCl (wX aX adC adH adF adT r366.2.1 ++ (wC ty adC r366.2.2.1 ++ (wF ty adF uF ++ (wH ty adH adS r366.2.2.2.1 ++ (wS ty adS r366.2.2.2.2 ++ wG ty aG uG))))) H := hP
      have hD : va_D A (wX aX adC adH adF adT r366.2.1 ++ (wC ty adC r366.2.2.1 ++ (wF ty adF uF ++ (wH ty adH adS r366.2.2.2.1 ++ (wS ty adS r366.2.2.2.2 ++ wG ty aG uG))))) := hD
      refine lv_istore (lv' := [(7, .int r366.1), (6, .int r27), (5, .int s0), (0, .ref aX), (1, .ref aG), (2, .int x2), (3, .int x3), (4, .int x4)]) hx hb dL_change_369 hl (by decide) rfl (fun ls hl => ?_)
      refine lv_goto (tgt := 397) hx hb dL_change_371 (by decide) ?_
      exact J397 r366.2.1 r366.2.2.1 uF r366.2.2.2.1 r366.2.2.2.2 uG r27 r366.1 h H locs ls hP hD hS (lv_sub hl [3, 4, 1, 0] rfl)
    have h := kF h c38_12
    refine lv_tableOut (tgt := 374) hx hb dL_change_38 (k_tab13 c38_0 c38_1 c38_2 c38_3 c38_4 c38_5 c38_6 c38_7 c38_8 c38_9 c38_10 c38_11 c38_12) (by decide) ?_
    refine lv_iload_n hx hb dL_change_374 rfl (lv_at hl 5 rfl) ?_
    refine lv_iconst (v := 2) hx hb dL_change_375 (by decide) ?_
    obtain ⟨r376, e376, h⟩ := kBd h
    refine kCallSI (As := [.int x3, .int (2 : Int32)]) (rest := []) ⟨hx, hb, hml, hown, hts⟩ (cL_low_ok l D ty  H.size x3 (2 : Int32)  r376 e376) (va_cwS 2 hts gL_change_L_low rfl rfl rfl (by decide +kernel) ⟨Nat.le_of_ble_eq_true rfl, Nat.le_of_ble_eq_true rfl⟩) hP hK hD hS hA rfl hl.1 rfl (Nat.le_of_ble_eq_true rfl) dL_change_376 ⟨Nat.le_of_ble_eq_true rfl, Nat.le_of_ble_eq_true rfl⟩ (fun H locs hP hS => ?_)
    refine lv_if_ne (tgt := 391) hx hb dL_change_379 (by decide) (fun c379 => ?_) (fun c379 => ?_)
    · have h := kT h c379
      refine lv_aload_n hx hb dL_change_391 rfl (lv_at hl 2 rfl) ?_
      obtain ⟨r392, e392, h⟩ := kBd h
      refine kCallWI (As := []) (rest := []) (sg := [wX aX adC adH adF adT uX, wC ty adC uC, wF ty adF uF, wH ty adH adS uH, wS ty adS uS, wG ty aG uG]) (sc := [wX aX adC adH adF adT uX, wC ty adC uC, wF ty adF uF, wH ty adH adS uH, wS ty adS uS]) (s1 := [wX aX adC adH adF adT r392.2.1, wC ty adC r392.2.2.1, wF ty adF r392.2.2.2.1, wH ty adH adS r392.2.2.2.2.1, wS ty adS r392.2.2.2.2.2]) (sn := [wX aX adC adH adF adT r392.2.1, wC ty adC r392.2.2.1, wF ty adF r392.2.2.2.1, wH ty adH adS r392.2.2.2.2.1, wS ty adS r392.2.2.2.2.2, wG ty aG uG]) ⟨hx, hb, hml, hown, hts⟩ (cX4_tune_ok l D ty aX adC adF adH adT adS H.size uX uC uF uH uS  r392 e392) (cwV 0 hts gL_change_X4_tune rfl rfl rfl (by decide +kernel) ⟨Nat.le_of_ble_eq_true rfl, Nat.le_of_ble_eq_true rfl⟩) hP hK hD hS hA [0, 1, 2, 3, 4] (by decide) rfl 4 0 rfl rfl rfl rfl hl.1 rfl (Nat.le_of_ble_eq_true rfl) dL_change_392 ⟨Nat.le_of_ble_eq_true rfl, Nat.le_of_ble_eq_true rfl⟩ rfl rfl (fun H locs hP hD hS => ?_)
      have hP : va_P D vwCl (wX aX adC adH adF adT r392.2.1 ++ (wC ty adC r392.2.2.1 ++ (wF ty adF r392.2.2.2.1 ++ (wH ty adH adS r392.2.2.2.2.1 ++ (wS ty adS r392.2.2.2.2.2 ++ wG ty aG uG))))) H := hP
      have hD : va_D A (wX aX adC adH adF adT r392.2.1 ++ (wC ty adC r392.2.2.1 ++ (wF ty adF r392.2.2.2.1 ++ (wH ty adH adS r392.2.2.2.2.1 ++ (wS ty adS r392.2.2.2.2.2 ++ wG ty aG uG))))) := hD
      exact J395 r392.2.1 r392.2.2.1 r392.2.2.2.1 r392.2.2.2.2.1 r392.2.2.2.2.2 uG r27 r392.1 h H locs ls hP hD hS (lv_sub hl [2, 3, 0] rfl)
    · have h := kF h (fun z => z c379)
      refine lv_aload_n hx hb dL_change_382 rfl (lv_at hl 2 rfl) ?_
      refine lv_iload hx hb dL_change_383 (lv_at hl 1 rfl) ?_
      obtain ⟨r385, e385, h⟩ := kBd h
      refine kCallWI (As := [.int s0]) (rest := []) (sg := [wX aX adC adH adF adT uX, wC ty adC uC, wF ty adF uF, wH ty adH adS uH, wS ty adS uS, wG ty aG uG]) (sc := [wX aX adC adH adF adT uX, wC ty adC uC, wH ty adH adS uH, wS ty adS uS]) (s1 := [wX aX adC adH adF adT r385.2.1, wC ty adC r385.2.2.1, wH ty adH adS r385.2.2.2.1, wS ty adS r385.2.2.2.2]) (sn := [wX aX adC adH adF adT r385.2.1, wC ty adC r385.2.2.1, wF ty adF uF, wH ty adH adS r385.2.2.2.1, wS ty adS r385.2.2.2.2, wG ty aG uG]) ⟨hx, hb, hml, hown, hts⟩ (cX4_removeAsh_ok l D ty aX adC adF adH adT adS H.size uX uC uH uS s0  r385 e385) (cwV 1 hts gL_change_X4_removeAsh rfl rfl rfl (by decide +kernel) ⟨Nat.le_of_ble_eq_true rfl, Nat.le_of_ble_eq_true rfl⟩) hP hK hD hS hA [0, 1, 3, 4] (by decide) rfl 4 0 rfl rfl rfl rfl hl.1 rfl (Nat.le_of_ble_eq_true rfl) dL_change_385 ⟨Nat.le_of_ble_eq_true rfl, Nat.le_of_ble_eq_true rfl⟩ rfl rfl (fun H locs hP hD hS => ?_)
      have hP : va_P D vwCl (wX aX adC adH adF adT r385.2.1 ++ (wC ty adC r385.2.2.1 ++ (wF ty adF uF ++ (wH ty adH adS r385.2.2.2.1 ++ (wS ty adS r385.2.2.2.2 ++ wG ty aG uG))))) H := hP
      have hD : va_D A (wX aX adC adH adF adT r385.2.1 ++ (wC ty adC r385.2.2.1 ++ (wF ty adF uF ++ (wH ty adH adS r385.2.2.2.1 ++ (wS ty adS r385.2.2.2.2 ++ wG ty aG uG))))) := hD
      refine lv_goto (tgt := 395) hx hb dL_change_388 (by decide) ?_
      exact J395 r385.2.1 r385.2.2.1 uF r385.2.2.2.1 r385.2.2.2.2 uG r27 r385.1 h H locs ls hP hD hS (lv_sub hl [2, 3, 0] rfl)
  have hl := lv_entry ([.ref aX, .ref aG, .int p2, .int p3]) (n := 9) (Nat.le_of_ble_eq_true rfl)
  rw [lg_entry_eq]
  generalize (lg_sl ([.ref aX, .ref aG, .int p2, .int p3]) ++ List.replicate (9 - (lg_sl ([.ref aX, .ref aG, .int p2, .int p3])).length) Slot.unset).toArray = ls at hl ⊢
  have hl : lv_has ls 9 [(0, .ref aX), (1, .ref aG), (2, .int p2), (3, .int p3)] := hl
  unfold fL_change at h
  have E0 : ∀ (H : Heap) (locs : List Loc) (ls : Array Slot), va_P D vwCl (wX aX adC adH adF adT vX ++ (wC ty adC vC ++ (wF ty adF vF ++ (wH ty adH adS vH ++ (wS ty adS vS ++ wG ty aG vG))))) H → va_D A (wX aX adC adH adF adT vX ++ (wC ty adC vC ++ (wF ty adF vF ++ (wH ty adH adS vH ++ (wS ty adS vS ++ wG ty aG vG))))) → va_S A s.heap H locs → lv_has ls 9 [(0, .ref aX), (1, .ref aG), (2, .int p2), (3, .int p3)] → W p l e (headSpec wsL_change { frames := 6, cells := 0, slots := 0, locals := 149 }).room s m ([.ref aX, .ref aG, .int p2, .int p3] : List Value).toArray below meth c H locs 0 0 Q (F0 m 0 ls []) := by
    intro H locs ls hP hD hS hl
    refine lv_aload_n hx hb dL_change_0 rfl (lv_at hl 0 rfl) ?_
    obtain ⟨r1, e1, h⟩ := kBd h
    refine kCallWI (As := []) (rest := []) (sg := [wX aX adC adH adF adT vX, wC ty adC vC, wF ty adF vF, wH ty adH adS vH, wS ty adS vS, wG ty aG vG]) (sc := [wX aX adC adH adF adT vX, wC ty adC vC]) (s1 := [wX aX adC adH adF adT vX, wC ty adC vC]) (sn := [wX aX adC adH adF adT vX, wC ty adC vC, wF ty adF vF, wH ty adH adS vH, wS ty adS vS, wG ty aG vG]) ⟨hx, hb, hml, hown, hts⟩ (cX4_layers_ok l D ty aX adC adF adH adT H.size vX vC  r1 e1) (cwV 0 hts gL_change_X4_layers rfl rfl rfl (by decide +kernel) ⟨Nat.le_of_ble_eq_true rfl, Nat.le_of_ble_eq_true rfl⟩) hP hK hD hS hA [0, 1] (by decide) rfl 4 0 rfl rfl rfl rfl hl.1 rfl (Nat.le_of_ble_eq_true rfl) dL_change_1 ⟨Nat.le_of_ble_eq_true rfl, Nat.le_of_ble_eq_true rfl⟩ rfl rfl (fun H locs hP hD hS => ?_)
    have hP : va_P D vwCl (wX aX adC adH adF adT vX ++ (wC ty adC vC ++ (wF ty adF vF ++ (wH ty adH adS vH ++ (wS ty adS vS ++ wG ty aG vG))))) H := hP
    have hD : va_D A (wX aX adC adH adF adT vX ++ (wC ty adC vC ++ (wF ty adF vF ++ (wH ty adH adS vH ++ (wS ty adS vS ++ wG ty aG vG))))) := hD
    refine lv_istore (lv' := [(4, .int r1), (0, .ref aX), (1, .ref aG), (2, .int p2), (3, .int p3)]) hx hb dL_change_4 hl (by decide) rfl (fun ls hl => ?_)
    refine lv_iload hx hb dL_change_6 (lv_at hl 0 rfl) ?_
    refine lv_if_ne (tgt := 15) hx hb dL_change_8 (by decide) (fun c8 => ?_) (fun c8 => ?_)
    · have h := kT h c8
      refine lv_iload_n hx hb dL_change_15 rfl (lv_at hl 3 rfl) ?_
      refine lv_bipush (v := 6) hx hb dL_change_16 (by decide) ?_
      refine lv_ishr hx hb dL_change_18 ?_
      refine lv_iload hx hb dL_change_19 (lv_at hl 0 rfl) ?_
      obtain ⟨r21, e21, h⟩ := kBd h
      refine kCallSI (As := [.int (p2 >>> ((6 : Int32) &&& 31)), .int r1]) (rest := []) ⟨hx, hb, hml, hown, hts⟩ (cL_low_ok l D ty  H.size (p2 >>> ((6 : Int32) &&& 31)) r1  r21 e21) (va_cwS 2 hts gL_change_L_low rfl rfl rfl (by decide +kernel) ⟨Nat.le_of_ble_eq_true rfl, Nat.le_of_ble_eq_true rfl⟩) hP hK hD hS hA rfl hl.1 rfl (Nat.le_of_ble_eq_true rfl) dL_change_21 ⟨Nat.le_of_ble_eq_true rfl, Nat.le_of_ble_eq_true rfl⟩ (fun H locs hP hS => ?_)
      exact J24 vX vC vF vH vS vG p2 p3 r1 r21 h H locs ls hP hD hS (lv_sub hl [1, 2, 3, 4, 0] rfl)
    · have h := kF h (fun z => z c8)
      refine lv_iconst (v := 0) hx hb dL_change_11 (by decide) ?_
      refine lv_goto (tgt := 24) hx hb dL_change_12 (by decide) ?_
      exact J24 vX vC vF vH vS vG p2 p3 r1 (0 : Int32) h H locs ls hP hD hS (lv_sub hl [1, 2, 3, 4, 0] rfl)
  exact E0 s.heap [] ls hP hD hS hl
