def fX4_closeAct (vX : KX) (vH : KH) (p1 : Int32) : Option (Int32 × KX × KH) := (fX4_isError p1).bind fun r1 => if ¬ r1 = (0 : Int32) then (some (p1, vX, vH)) else ((fX2_keep vH).bind fun r11 => some (p1, ((vX.1 + (1 : Int32)), vX.2), r11))
set_option maxHeartbeats 4000000 in
set_option maxRecDepth 100000 in
theorem cX4_closeAct_ok (l : Launch) (D : va_G) (ty : kTy) (aX : Nat) (adC adF adH adT : Nat → Nat) (adS : Nat → Nat → Nat) (sz : Nat) (vX : KX) (vH : KH) (p1 : Int32)  (res : Int32 × KX × KH) (h : fX4_closeAct vX vH p1 = some res) : kMI l yX4_closeAct wsX4_closeAct { frames := 1, cells := 0, slots := 0, locals := 20 } [.ref aX, .int p1] D ty (wX aX adC adH adF adT vX ++ wH ty adH adS vH) sz res.1 (wX aX adC adH adF adT res.2.1 ++ wH ty adH adS res.2.2) := by
  refine Met.ofW (cc := cX4_closeAct) (maxL := 2) (ret := (some .int)) (by decide) rfl ?_
  intro p e s m args below meth c s₁ B hml hv
  obtain ⟨rfl, hsz, hP, hK, hD0⟩ := hv
  have hx := B.exec
  have hb := B.bytes
  have hr := B.returns
  have hts := atoms_spec (ws := wsX4_closeAct) B.pre
  have hown : s.vm.findClass RX4 = some m.cls := findClass_of_methodNamed B.named
  have hlocks := B.notSynchronized
  subst hsz
  have hD := hD0.self (sz := s.heap.size)
  generalize hAe : va_A (wX aX adC adH adF adT vX ++ wH ty adH adS vH) s.heap.size = A at hD ⊢
  have hA : ∀ q : Nat, s.heap.size ≤ q → A q := fun q h => by rw [← hAe]; exact Or.inr h
  have hS : va_S A s.heap s.heap [] := va_S.rf
  refine kGenW (fun Q hQ => ?_)
  have wf0 := hts (.fieldLink RX4 19 "IceCoreDater" "log" "LIceCoreDater$Log;") (by decide +kernel)
  have hinX4 : ∀ w ∈ wsX40, w ∈ wsX4_closeAct := by decide +kernel
  have wf2 := hts (.fieldLink RX4 37 "IceCoreDater" "acts" "I") (by decide +kernel)
  have hl := lv_entry ([.ref aX, .int p1]) (n := 2) (Nat.le_of_ble_eq_true rfl)
  rw [lg_entry_eq]
  generalize (lg_sl ([.ref aX, .int p1]) ++ List.replicate (2 - (lg_sl ([.ref aX, .int p1])).length) Slot.unset).toArray = ls at hl ⊢
  have hl : lv_has ls 2 [(0, .ref aX), (1, .int p1)] := hl
  unfold fX4_closeAct at h
  have E0 : ∀ (H : Heap) (locs : List Loc) (ls : Array Slot), va_P D vwCl (wX aX adC adH adF adT vX ++ wH ty adH adS vH) H → va_D A (wX aX adC adH adF adT vX ++ wH ty adH adS vH) → va_S A s.heap H locs → lv_has ls 2 [(0, .ref aX), (1, .int p1)] → W p l e (headSpec wsX4_closeAct { frames := 1, cells := 0, slots := 0, locals := 20 }).room s m ([.ref aX, .int p1] : List Value).toArray below meth c H locs 0 0 Q (F0 m 0 ls []) := by
    intro H locs ls hP hD hS hl
    refine lv_iload_n hx hb dX4_closeAct_0 rfl (lv_at hl 1 rfl) ?_
    obtain ⟨r1, e1, h⟩ := kBd h
    refine kCallSI (As := [.int p1]) (rest := []) ⟨hx, hb, hml, hown, hts⟩ (cX4_isError_ok l D ty  H.size p1  r1 e1) (va_cwS 1 hts gX4_closeAct_X4_isError rfl rfl rfl (by decide +kernel) ⟨Nat.le_of_ble_eq_true rfl, Nat.le_of_ble_eq_true rfl⟩) hP hK hD hS hA rfl hl.1 rfl (Nat.le_of_ble_eq_true rfl) dX4_closeAct_1 ⟨Nat.le_of_ble_eq_true rfl, Nat.le_of_ble_eq_true rfl⟩ (fun H locs hP hS => ?_)
    refine lv_if_ne (tgt := 24) hx hb dX4_closeAct_4 (by decide) (fun c4 => ?_) (fun c4 => ?_)
    · have h := kT h c4
      refine lv_iload_n hx hb dX4_closeAct_24 rfl (lv_at hl 1 rfl) ?_
      obtain rfl := Option.some.inj h
      subst hQ
      exact W.iret (v := p1) hx hb hr (fun t ht hW => ⟨⟨p1, (), rfl, rfl, kEnd ht hP⟩, hS.F ht⟩) hS.2.2 dX4_closeAct_25
    · have h := kF h (fun z => z c4)
      refine lv_aload_n hx hb dX4_closeAct_7 rfl (lv_at hl 0 rfl) ?_
      refine va_get (D := D) (ci := 4) (v := .ref (adH 0)) (C := RX4) (T := TX4) (N := 6) hx hb hts hinX4 hown hK.1 hP 0 rfl rfl 1 (by decide) wf0 (fun _ h9 => h9) rfl dX4_closeAct_8 ?_
      obtain ⟨r11, e11, h⟩ := kBd h
      refine kCallVV (As := []) (rest := []) (wc := wH ty adH adS vH) (w1 := wH ty adH adS r11) (wn := wX aX adC adH adF adT vX ++ wH ty adH adS r11) ⟨hx, hb, hml, hown, hts⟩ (cX2_keep_ok l D ty adH adS H.size vH  r11 e11) (cwV 0 hts gX4_closeAct_X2_keep rfl rfl rfl (by decide +kernel) ⟨Nat.le_of_ble_eq_true rfl, Nat.le_of_ble_eq_true rfl⟩) hP hK hD hS hA [1, 2] (by decide +kernel) rfl 2 1 rfl rfl rfl rfl hl.1 rfl (Nat.le_of_ble_eq_true rfl) dX4_closeAct_11 ⟨Nat.le_of_ble_eq_true rfl, Nat.le_of_ble_eq_true rfl⟩ rfl rfl (fun H locs hP hD hS => ?_)
      refine lv_aload_n hx hb dX4_closeAct_14 rfl (lv_at hl 0 rfl) ?_
      refine lv_dup hx hb dX4_closeAct_15 rfl ?_
      refine va_get (D := D) (ci := 4) (v := .int vX.1) (C := RX4) (T := TX4) (N := 6) hx hb hts hinX4 hown hK.1 hP 0 rfl rfl 4 (by decide) wf2 (fun _ h9 => h9) rfl dX4_closeAct_16 ?_
      refine lv_iconst (v := 1) hx hb dX4_closeAct_19 (by decide) ?_
      refine lv_iadd hx hb dX4_closeAct_20 ?_
      refine va_put (D := D) (ci := 4) (v := .int (vX.1 + (1 : Int32))) (ty := .int) (C := RX4) (T := TX4) (N := 6) hx hb hts hinX4 tyX4 tyX4_ok nmX4 hown hK.1 hP hD hS 0 rfl rfl 4 (by decide) wf2 (fun _ h9 => h9) rfl (by decide +kernel) rfl rfl (Nat.le_of_ble_eq_true rfl) dX4_closeAct_21 (fun H locs hP hD hS => ?_)
      have hP : va_P D vwCl (wX aX adC adH adF adT ((vX.1 + (1 : Int32)), vX.2) ++ wH ty adH adS r11) H := hP
      have hD : va_D A (wX aX adC adH adF adT ((vX.1 + (1 : Int32)), vX.2) ++ wH ty adH adS r11) := hD
      refine lv_iload_n hx hb dX4_closeAct_24 rfl (lv_at hl 1 rfl) ?_
      obtain rfl := Option.some.inj h
      subst hQ
      exact W.iret (v := p1) hx hb hr (fun t ht hW => ⟨⟨p1, (), rfl, rfl, kEnd ht hP⟩, hS.F ht⟩) hS.2.2 dX4_closeAct_25
  exact E0 s.heap [] ls hP hD hS hl
def fX4_addLayer (vX : KX) (vC : KC) (vH : KH) (vS : KS) (p1 : Int32) (p2 : Int32) : Option (Int32 × KX × KC × KH × KS) := (fX2_prepare vC vH vS).bind fun r8 => (fX0_append vC p1 p2).bind fun r18 => (fX4_closeAct vX vH r18.1).bind fun r21 => some (r21.1, r21.2.1, r18.2, r21.2.2, r8)
set_option maxHeartbeats 4000000 in
set_option maxRecDepth 100000 in
theorem cX4_addLayer_ok (l : Launch) (D : va_G) (ty : kTy) (aX : Nat) (adC adF adH adT : Nat → Nat) (adS : Nat → Nat → Nat) (sz : Nat) (vX : KX) (vC : KC) (vH : KH) (vS : KS) (p1 : Int32) (p2 : Int32)  (res : Int32 × KX × KC × KH × KS) (h : fX4_addLayer vX vC vH vS p1 p2 = some res) : kMI l yX4_addLayer wsX4_addLayer { frames := 3, cells := 0, slots := 0, locals := 83 } [.ref aX, .int p1, .int p2] D ty (wX aX adC adH adF adT vX ++ (wC ty adC vC ++ (wH ty adH adS vH ++ wS ty adS vS))) sz res.1 (wX aX adC adH adF adT res.2.1 ++ (wC ty adC res.2.2.1 ++ (wH ty adH adS res.2.2.2.1 ++ wS ty adS res.2.2.2.2))) := by
  refine Met.ofW (cc := cX4_addLayer) (maxL := 3) (ret := (some .int)) (by decide) rfl ?_
  intro p e s m args below meth c s₁ B hml hv
  obtain ⟨rfl, hsz, hP, hK, hD0⟩ := hv
  have hx := B.exec
  have hb := B.bytes
  have hr := B.returns
  have hts := atoms_spec (ws := wsX4_addLayer) B.pre
  have hown : s.vm.findClass RX4 = some m.cls := findClass_of_methodNamed B.named
  have hlocks := B.notSynchronized
  subst hsz
  have hD := hD0.self (sz := s.heap.size)
  generalize hAe : va_A (wX aX adC adH adF adT vX ++ (wC ty adC vC ++ (wH ty adH adS vH ++ wS ty adS vS))) s.heap.size = A at hD ⊢
  have hA : ∀ q : Nat, s.heap.size ≤ q → A q := fun q h => by rw [← hAe]; exact Or.inr h
  have hS : va_S A s.heap s.heap [] := va_S.rf
  refine kGenW (fun Q hQ => ?_)
  have wf0 := hts (.fieldLink RX4 19 "IceCoreDater" "log" "LIceCoreDater$Log;") (by decide +kernel)
  have hinX4 : ∀ w ∈ wsX40, w ∈ wsX4_addLayer := by decide +kernel
  have wf2 := hts (.fieldLink RX4 10 "IceCoreDater" "core" "LIceCoreDater$Core;") (by decide +kernel)
  have hl := lv_entry ([.ref aX, .int p1, .int p2]) (n := 3) (Nat.le_of_ble_eq_true rfl)
  rw [lg_entry_eq]
  generalize (lg_sl ([.ref aX, .int p1, .int p2]) ++ List.replicate (3 - (lg_sl ([.ref aX, .int p1, .int p2])).length) Slot.unset).toArray = ls at hl ⊢
  have hl : lv_has ls 3 [(0, .ref aX), (1, .int p1), (2, .int p2)] := hl
  unfold fX4_addLayer at h
  have E0 : ∀ (H : Heap) (locs : List Loc) (ls : Array Slot), va_P D vwCl (wX aX adC adH adF adT vX ++ (wC ty adC vC ++ (wH ty adH adS vH ++ wS ty adS vS))) H → va_D A (wX aX adC adH adF adT vX ++ (wC ty adC vC ++ (wH ty adH adS vH ++ wS ty adS vS))) → va_S A s.heap H locs → lv_has ls 3 [(0, .ref aX), (1, .int p1), (2, .int p2)] → W p l e (headSpec wsX4_addLayer { frames := 3, cells := 0, slots := 0, locals := 83 }).room s m ([.ref aX, .int p1, .int p2] : List Value).toArray below meth c H locs 0 0 Q (F0 m 0 ls []) := by
    intro H locs ls hP hD hS hl
    refine lv_aload_n hx hb dX4_addLayer_0 rfl (lv_at hl 0 rfl) ?_
    refine va_get (D := D) (ci := 4) (v := .ref (adH 0)) (C := RX4) (T := TX4) (N := 6) hx hb hts hinX4 hown hK.1 hP 0 rfl rfl 1 (by decide) wf0 (fun _ h9 => h9) rfl dX4_addLayer_1 ?_
    refine lv_aload_n hx hb dX4_addLayer_4 rfl (lv_at hl 0 rfl) ?_
    refine va_get (D := D) (ci := 4) (v := .ref (adC 0)) (C := RX4) (T := TX4) (N := 6) hx hb hts hinX4 hown hK.1 hP 0 rfl rfl 0 (by decide) wf2 (fun _ h9 => h9) rfl dX4_addLayer_5 ?_
    obtain ⟨r8, e8, h⟩ := kBd h
    refine kCallWV (As := [.ref (adC 0)]) (rest := []) (sg := [wX aX adC adH adF adT vX, wC ty adC vC, wH ty adH adS vH, wS ty adS vS]) (sc := [wC ty adC vC, wH ty adH adS vH, wS ty adS vS]) (s1 := [wC ty adC vC, wH ty adH adS vH, wS ty adS r8]) (sn := [wX aX adC adH adF adT vX, wC ty adC vC, wH ty adH adS vH, wS ty adS r8]) ⟨hx, hb, hml, hown, hts⟩ (cX2_prepare_ok l D ty adC adH adS H.size vC vH vS  r8 e8) (cwV 1 hts gX4_addLayer_X2_prepare rfl rfl rfl (by decide +kernel) ⟨Nat.le_of_ble_eq_true rfl, Nat.le_of_ble_eq_true rfl⟩) hP hK hD hS hA [1, 2, 3] (by decide) rfl 2 9 rfl rfl rfl rfl hl.1 rfl (Nat.le_of_ble_eq_true rfl) dX4_addLayer_8 ⟨Nat.le_of_ble_eq_true rfl, Nat.le_of_ble_eq_true rfl⟩ rfl rfl (fun H locs hP hD hS => ?_)
    have hP : va_P D vwCl (wX aX adC adH adF adT vX ++ (wC ty adC vC ++ (wH ty adH adS vH ++ wS ty adS r8))) H := hP
    have hD : va_D A (wX aX adC adH adF adT vX ++ (wC ty adC vC ++ (wH ty adH adS vH ++ wS ty adS r8))) := hD
    refine lv_aload_n hx hb dX4_addLayer_11 rfl (lv_at hl 0 rfl) ?_
    refine lv_aload_n hx hb dX4_addLayer_12 rfl (lv_at hl 0 rfl) ?_
    refine va_get (D := D) (ci := 4) (v := .ref (adC 0)) (C := RX4) (T := TX4) (N := 6) hx hb hts hinX4 hown hK.1 hP 0 rfl rfl 0 (by decide) wf2 (fun _ h9 => h9) rfl dX4_addLayer_13 ?_
    refine lv_iload_n hx hb dX4_addLayer_16 rfl (lv_at hl 1 rfl) ?_
    refine lv_iload_n hx hb dX4_addLayer_17 rfl (lv_at hl 2 rfl) ?_
    obtain ⟨r18, e18, h⟩ := kBd h
    refine kCallWI (As := [.int p1, .int p2]) (rest := [.ref aX]) (sg := [wX aX adC adH adF adT vX, wC ty adC vC, wH ty adH adS vH, wS ty adS r8]) (sc := [wC ty adC vC]) (s1 := [wC ty adC r18.2]) (sn := [wX aX adC adH adF adT vX, wC ty adC r18.2, wH ty adH adS vH, wS ty adS r8]) ⟨hx, hb, hml, hown, hts⟩ (cX0_append_ok l D ty adC H.size vC p1 p2  r18 e18) (cwV 2 hts gX4_addLayer_X0_append rfl rfl rfl (by decide +kernel) ⟨Nat.le_of_ble_eq_true rfl, Nat.le_of_ble_eq_true rfl⟩) hP hK hD hS hA [1] (by decide) rfl 0 1 rfl rfl rfl rfl hl.1 rfl (Nat.le_of_ble_eq_true rfl) dX4_addLayer_18 ⟨Nat.le_of_ble_eq_true rfl, Nat.le_of_ble_eq_true rfl⟩ rfl rfl (fun H locs hP hD hS => ?_)
    have hP : va_P D vwCl (wX aX adC adH adF adT vX ++ (wC ty adC r18.2 ++ (wH ty adH adS vH ++ wS ty adS r8))) H := hP
    have hD : va_D A (wX aX adC adH adF adT vX ++ (wC ty adC r18.2 ++ (wH ty adH adS vH ++ wS ty adS r8))) := hD
    obtain ⟨r21, e21, h⟩ := kBd h
    refine kCallWI (As := [.int r18.1]) (rest := []) (sg := [wX aX adC adH adF adT vX, wC ty adC r18.2, wH ty adH adS vH, wS ty adS r8]) (sc := [wX aX adC adH adF adT vX, wH ty adH adS vH]) (s1 := [wX aX adC adH adF adT r21.2.1, wH ty adH adS r21.2.2]) (sn := [wX aX adC adH adF adT r21.2.1, wC ty adC r18.2, wH ty adH adS r21.2.2, wS ty adS r8]) ⟨hx, hb, hml, hown, hts⟩ (cX4_closeAct_ok l D ty aX adC adF adH adT adS H.size vX vH r18.1  r21 e21) (cwV 1 hts gX4_addLayer_X4_closeAct rfl rfl rfl (by decide +kernel) ⟨Nat.le_of_ble_eq_true rfl, Nat.le_of_ble_eq_true rfl⟩) hP hK hD hS hA [0, 2] (by decide) rfl 4 0 rfl rfl rfl rfl hl.1 rfl (Nat.le_of_ble_eq_true rfl) dX4_addLayer_21 ⟨Nat.le_of_ble_eq_true rfl, Nat.le_of_ble_eq_true rfl⟩ rfl rfl (fun H locs hP hD hS => ?_)
    have hP : va_P D vwCl (wX aX adC adH adF adT r21.2.1 ++ (wC ty adC r18.2 ++ (wH ty adH adS r21.2.2 ++ wS ty adS r8))) H := hP
    have hD : va_D A (wX aX adC adH adF adT r21.2.1 ++ (wC ty adC r18.2 ++ (wH ty adH adS r21.2.2 ++ wS ty adS r8))) := hD
    obtain rfl := Option.some.inj h
    subst hQ
    exact W.iret (v := r21.1) hx hb hr (fun t ht hW => ⟨⟨r21.1, (), rfl, rfl, kEnd ht hP⟩, hS.F ht⟩) hS.2.2 dX4_addLayer_24
  exact E0 s.heap [] ls hP hD hS hl
def fX4_removeLowest (vX : KX) (vC : KC) (vH : KH) (vS : KS) : Option (Int32 × KX × KC × KH × KS) := (fX2_prepare vC vH vS).bind fun r8 => (fX0_dropLowest vC).bind fun r16 => (fX4_closeAct vX vH r16.1).bind fun r19 => some (r19.1, r19.2.1, r16.2, r19.2.2, r8)
set_option maxHeartbeats 4000000 in
set_option maxRecDepth 100000 in
theorem cX4_removeLowest_ok (l : Launch) (D : va_G) (ty : kTy) (aX : Nat) (adC adF adH adT : Nat → Nat) (adS : Nat → Nat → Nat) (sz : Nat) (vX : KX) (vC : KC) (vH : KH) (vS : KS)  (res : Int32 × KX × KC × KH × KS) (h : fX4_removeLowest vX vC vH vS = some res) : kMI l yX4_removeLowest wsX4_removeLowest { frames := 3, cells := 0, slots := 0, locals := 83 } [.ref aX] D ty (wX aX adC adH adF adT vX ++ (wC ty adC vC ++ (wH ty adH adS vH ++ wS ty adS vS))) sz res.1 (wX aX adC adH adF adT res.2.1 ++ (wC ty adC res.2.2.1 ++ (wH ty adH adS res.2.2.2.1 ++ wS ty adS res.2.2.2.2))) := by
  refine Met.ofW (cc := cX4_removeLowest) (maxL := 1) (ret := (some .int)) (by decide) rfl ?_
  intro p e s m args below meth c s₁ B hml hv
  obtain ⟨rfl, hsz, hP, hK, hD0⟩ := hv
  have hx := B.exec
  have hb := B.bytes
  have hr := B.returns
  have hts := atoms_spec (ws := wsX4_removeLowest) B.pre
  have hown : s.vm.findClass RX4 = some m.cls := findClass_of_methodNamed B.named
  have hlocks := B.notSynchronized
  subst hsz
  have hD := hD0.self (sz := s.heap.size)
  generalize hAe : va_A (wX aX adC adH adF adT vX ++ (wC ty adC vC ++ (wH ty adH adS vH ++ wS ty adS vS))) s.heap.size = A at hD ⊢
  have hA : ∀ q : Nat, s.heap.size ≤ q → A q := fun q h => by rw [← hAe]; exact Or.inr h
  have hS : va_S A s.heap s.heap [] := va_S.rf
  refine kGenW (fun Q hQ => ?_)
  have wf0 := hts (.fieldLink RX4 19 "IceCoreDater" "log" "LIceCoreDater$Log;") (by decide +kernel)
  have hinX4 : ∀ w ∈ wsX40, w ∈ wsX4_removeLowest := by decide +kernel
  have wf2 := hts (.fieldLink RX4 10 "IceCoreDater" "core" "LIceCoreDater$Core;") (by decide +kernel)
  have hl := lv_entry ([.ref aX]) (n := 1) (Nat.le_of_ble_eq_true rfl)
  rw [lg_entry_eq]
  generalize (lg_sl ([.ref aX]) ++ List.replicate (1 - (lg_sl ([.ref aX])).length) Slot.unset).toArray = ls at hl ⊢
  have hl : lv_has ls 1 [(0, .ref aX)] := hl
  unfold fX4_removeLowest at h
  have E0 : ∀ (H : Heap) (locs : List Loc) (ls : Array Slot), va_P D vwCl (wX aX adC adH adF adT vX ++ (wC ty adC vC ++ (wH ty adH adS vH ++ wS ty adS vS))) H → va_D A (wX aX adC adH adF adT vX ++ (wC ty adC vC ++ (wH ty adH adS vH ++ wS ty adS vS))) → va_S A s.heap H locs → lv_has ls 1 [(0, .ref aX)] → W p l e (headSpec wsX4_removeLowest { frames := 3, cells := 0, slots := 0, locals := 83 }).room s m ([.ref aX] : List Value).toArray below meth c H locs 0 0 Q (F0 m 0 ls []) := by
    intro H locs ls hP hD hS hl
    refine lv_aload_n hx hb dX4_removeLowest_0 rfl (lv_at hl 0 rfl) ?_
    refine va_get (D := D) (ci := 4) (v := .ref (adH 0)) (C := RX4) (T := TX4) (N := 6) hx hb hts hinX4 hown hK.1 hP 0 rfl rfl 1 (by decide) wf0 (fun _ h9 => h9) rfl dX4_removeLowest_1 ?_
    refine lv_aload_n hx hb dX4_removeLowest_4 rfl (lv_at hl 0 rfl) ?_
    refine va_get (D := D) (ci := 4) (v := .ref (adC 0)) (C := RX4) (T := TX4) (N := 6) hx hb hts hinX4 hown hK.1 hP 0 rfl rfl 0 (by decide) wf2 (fun _ h9 => h9) rfl dX4_removeLowest_5 ?_
    obtain ⟨r8, e8, h⟩ := kBd h
    refine kCallWV (As := [.ref (adC 0)]) (rest := []) (sg := [wX aX adC adH adF adT vX, wC ty adC vC, wH ty adH adS vH, wS ty adS vS]) (sc := [wC ty adC vC, wH ty adH adS vH, wS ty adS vS]) (s1 := [wC ty adC vC, wH ty adH adS vH, wS ty adS r8]) (sn := [wX aX adC adH adF adT vX, wC ty adC vC, wH ty adH adS vH, wS ty adS r8]) ⟨hx, hb, hml, hown, hts⟩ (cX2_prepare_ok l D ty adC adH adS H.size vC vH vS  r8 e8) (cwV 1 hts gX4_removeLowest_X2_prepare rfl rfl rfl (by decide +kernel) ⟨Nat.le_of_ble_eq_true rfl, Nat.le_of_ble_eq_true rfl⟩) hP hK hD hS hA [1, 2, 3] (by decide) rfl 2 9 rfl rfl rfl rfl hl.1 rfl (Nat.le_of_ble_eq_true rfl) dX4_removeLowest_8 ⟨Nat.le_of_ble_eq_true rfl, Nat.le_of_ble_eq_true rfl⟩ rfl rfl (fun H locs hP hD hS => ?_)
    have hP : va_P D vwCl (wX aX adC adH adF adT vX ++ (wC ty adC vC ++ (wH ty adH adS vH ++ wS ty adS r8))) H := hP
    have hD : va_D A (wX aX adC adH adF adT vX ++ (wC ty adC vC ++ (wH ty adH adS vH ++ wS ty adS r8))) := hD
    refine lv_aload_n hx hb dX4_removeLowest_11 rfl (lv_at hl 0 rfl) ?_
    refine lv_aload_n hx hb dX4_removeLowest_12 rfl (lv_at hl 0 rfl) ?_
    refine va_get (D := D) (ci := 4) (v := .ref (adC 0)) (C := RX4) (T := TX4) (N := 6) hx hb hts hinX4 hown hK.1 hP 0 rfl rfl 0 (by decide) wf2 (fun _ h9 => h9) rfl dX4_removeLowest_13 ?_
    obtain ⟨r16, e16, h⟩ := kBd h
    refine kCallWI (As := []) (rest := [.ref aX]) (sg := [wX aX adC adH adF adT vX, wC ty adC vC, wH ty adH adS vH, wS ty adS r8]) (sc := [wC ty adC vC]) (s1 := [wC ty adC r16.2]) (sn := [wX aX adC adH adF adT vX, wC ty adC r16.2, wH ty adH adS vH, wS ty adS r8]) ⟨hx, hb, hml, hown, hts⟩ (cX0_dropLowest_ok l D ty adC H.size vC  r16 e16) (cwV 0 hts gX4_removeLowest_X0_dropLowest rfl rfl rfl (by decide +kernel) ⟨Nat.le_of_ble_eq_true rfl, Nat.le_of_ble_eq_true rfl⟩) hP hK hD hS hA [1] (by decide) rfl 0 1 rfl rfl rfl rfl hl.1 rfl (Nat.le_of_ble_eq_true rfl) dX4_removeLowest_16 ⟨Nat.le_of_ble_eq_true rfl, Nat.le_of_ble_eq_true rfl⟩ rfl rfl (fun H locs hP hD hS => ?_)
    have hP : va_P D vwCl (wX aX adC adH adF adT vX ++ (wC ty adC r16.2 ++ (wH ty adH adS vH ++ wS ty adS r8))) H := hP
    have hD : va_D A (wX aX adC adH adF adT vX ++ (wC ty adC r16.2 ++ (wH ty adH adS vH ++ wS ty adS r8))) := hD
    obtain ⟨r19, e19, h⟩ := kBd h
    refine kCallWI (As := [.int r16.1]) (rest := []) (sg := [wX aX adC adH adF adT vX, wC ty adC r16.2, wH ty adH adS vH, wS ty adS r8]) (sc := [wX aX adC adH adF adT vX, wH ty adH adS vH]) (s1 := [wX aX adC adH adF adT r19.2.1, wH ty adH adS r19.2.2]) (sn := [wX aX adC adH adF adT r19.2.1, wC ty adC r16.2, wH ty adH adS r19.2.2, wS ty adS r8]) ⟨hx, hb, hml, hown, hts⟩ (cX4_closeAct_ok l D ty aX adC adF adH adT adS H.size vX vH r16.1  r19 e19) (cwV 1 hts gX4_removeLowest_X4_closeAct rfl rfl rfl (by decide +kernel) ⟨Nat.le_of_ble_eq_true rfl, Nat.le_of_ble_eq_true rfl⟩) hP hK hD hS hA [0, 2] (by decide) rfl 4 0 rfl rfl rfl rfl hl.1 rfl (Nat.le_of_ble_eq_true rfl) dX4_removeLowest_19 ⟨Nat.le_of_ble_eq_true rfl, Nat.le_of_ble_eq_true rfl⟩ rfl rfl (fun H locs hP hD hS => ?_)
    have hP : va_P D vwCl (wX aX adC adH adF adT r19.2.1 ++ (wC ty adC r16.2 ++ (wH ty adH adS r19.2.2 ++ wS ty adS r8))) H := hP
    have hD : va_D A (wX aX adC adH adF adT r19.2.1 ++ (wC ty adC r16.2 ++ (wH ty adH adS r19.2.2 ++ wS ty adS r8))) := hD
    obtain rfl := Option.some.inj h
    subst hQ
    exact W.iret (v := r19.1) hx hb hr (fun t ht hW => ⟨⟨r19.1, (), rfl, rfl, kEnd ht hP⟩, hS.F ht⟩) hS.2.2 dX4_removeLowest_22
  exact E0 s.heap [] ls hP hD hS hl
def fX4_divide (vX : KX) (vC : KC) (vH : KH) (vS : KS) (p1 : Int32) (p2 : Int32) : Option (Int32 × KX × KC × KH × KS) := (fX2_prepare vC vH vS).bind fun r8 => (fX0_split vC p1 p2).bind fun r18 => (fX4_closeAct vX vH r18.1).bind fun r21 => some (r21.1, r21.2.1, r18.2, r21.2.2, r8)
set_option maxHeartbeats 4000000 in
set_option maxRecDepth 100000 in
theorem cX4_divide_ok (l : Launch) (D : va_G) (ty : kTy) (aX : Nat) (adC adF adH adT : Nat → Nat) (adS : Nat → Nat → Nat) (sz : Nat) (vX : KX) (vC : KC) (vH : KH) (vS : KS) (p1 : Int32) (p2 : Int32)  (res : Int32 × KX × KC × KH × KS) (h : fX4_divide vX vC vH vS p1 p2 = some res) : kMI l yX4_divide wsX4_divide { frames := 3, cells := 0, slots := 0, locals := 83 } [.ref aX, .int p1, .int p2] D ty (wX aX adC adH adF adT vX ++ (wC ty adC vC ++ (wH ty adH adS vH ++ wS ty adS vS))) sz res.1 (wX aX adC adH adF adT res.2.1 ++ (wC ty adC res.2.2.1 ++ (wH ty adH adS res.2.2.2.1 ++ wS ty adS res.2.2.2.2))) := by
  refine Met.ofW (cc := cX4_divide) (maxL := 3) (ret := (some .int)) (by decide) rfl ?_
  intro p e s m args below meth c s₁ B hml hv
  obtain ⟨rfl, hsz, hP, hK, hD0⟩ := hv
  have hx := B.exec
  have hb := B.bytes
  have hr := B.returns
  have hts := atoms_spec (ws := wsX4_divide) B.pre
  have hown : s.vm.findClass RX4 = some m.cls := findClass_of_methodNamed B.named
  have hlocks := B.notSynchronized
  subst hsz
  have hD := hD0.self (sz := s.heap.size)
  generalize hAe : va_A (wX aX adC adH adF adT vX ++ (wC ty adC vC ++ (wH ty adH adS vH ++ wS ty adS vS))) s.heap.size = A at hD ⊢
  have hA : ∀ q : Nat, s.heap.size ≤ q → A q := fun q h => by rw [← hAe]; exact Or.inr h
  have hS : va_S A s.heap s.heap [] := va_S.rf
  refine kGenW (fun Q hQ => ?_)
  have wf0 := hts (.fieldLink RX4 19 "IceCoreDater" "log" "LIceCoreDater$Log;") (by decide +kernel)
  have hinX4 : ∀ w ∈ wsX40, w ∈ wsX4_divide := by decide +kernel
  have wf2 := hts (.fieldLink RX4 10 "IceCoreDater" "core" "LIceCoreDater$Core;") (by decide +kernel)
  have hl := lv_entry ([.ref aX, .int p1, .int p2]) (n := 3) (Nat.le_of_ble_eq_true rfl)
  rw [lg_entry_eq]
  generalize (lg_sl ([.ref aX, .int p1, .int p2]) ++ List.replicate (3 - (lg_sl ([.ref aX, .int p1, .int p2])).length) Slot.unset).toArray = ls at hl ⊢
  have hl : lv_has ls 3 [(0, .ref aX), (1, .int p1), (2, .int p2)] := hl
  unfold fX4_divide at h
  have E0 : ∀ (H : Heap) (locs : List Loc) (ls : Array Slot), va_P D vwCl (wX aX adC adH adF adT vX ++ (wC ty adC vC ++ (wH ty adH adS vH ++ wS ty adS vS))) H → va_D A (wX aX adC adH adF adT vX ++ (wC ty adC vC ++ (wH ty adH adS vH ++ wS ty adS vS))) → va_S A s.heap H locs → lv_has ls 3 [(0, .ref aX), (1, .int p1), (2, .int p2)] → W p l e (headSpec wsX4_divide { frames := 3, cells := 0, slots := 0, locals := 83 }).room s m ([.ref aX, .int p1, .int p2] : List Value).toArray below meth c H locs 0 0 Q (F0 m 0 ls []) := by
    intro H locs ls hP hD hS hl
    refine lv_aload_n hx hb dX4_divide_0 rfl (lv_at hl 0 rfl) ?_
    refine va_get (D := D) (ci := 4) (v := .ref (adH 0)) (C := RX4) (T := TX4) (N := 6) hx hb hts hinX4 hown hK.1 hP 0 rfl rfl 1 (by decide) wf0 (fun _ h9 => h9) rfl dX4_divide_1 ?_
    refine lv_aload_n hx hb dX4_divide_4 rfl (lv_at hl 0 rfl) ?_
    refine va_get (D := D) (ci := 4) (v := .ref (adC 0)) (C := RX4) (T := TX4) (N := 6) hx hb hts hinX4 hown hK.1 hP 0 rfl rfl 0 (by decide) wf2 (fun _ h9 => h9) rfl dX4_divide_5 ?_
    obtain ⟨r8, e8, h⟩ := kBd h
    refine kCallWV (As := [.ref (adC 0)]) (rest := []) (sg := [wX aX adC adH adF adT vX, wC ty adC vC, wH ty adH adS vH, wS ty adS vS]) (sc := [wC ty adC vC, wH ty adH adS vH, wS ty adS vS]) (s1 := [wC ty adC vC, wH ty adH adS vH, wS ty adS r8]) (sn := [wX aX adC adH adF adT vX, wC ty adC vC, wH ty adH adS vH, wS ty adS r8]) ⟨hx, hb, hml, hown, hts⟩ (cX2_prepare_ok l D ty adC adH adS H.size vC vH vS  r8 e8) (cwV 1 hts gX4_divide_X2_prepare rfl rfl rfl (by decide +kernel) ⟨Nat.le_of_ble_eq_true rfl, Nat.le_of_ble_eq_true rfl⟩) hP hK hD hS hA [1, 2, 3] (by decide) rfl 2 9 rfl rfl rfl rfl hl.1 rfl (Nat.le_of_ble_eq_true rfl) dX4_divide_8 ⟨Nat.le_of_ble_eq_true rfl, Nat.le_of_ble_eq_true rfl⟩ rfl rfl (fun H locs hP hD hS => ?_)
    have hP : va_P D vwCl (wX aX adC adH adF adT vX ++ (wC ty adC vC ++ (wH ty adH adS vH ++ wS ty adS r8))) H := hP
    have hD : va_D A (wX aX adC adH adF adT vX ++ (wC ty adC vC ++ (wH ty adH adS vH ++ wS ty adS r8))) := hD
    refine lv_aload_n hx hb dX4_divide_11 rfl (lv_at hl 0 rfl) ?_
    refine lv_aload_n hx hb dX4_divide_12 rfl (lv_at hl 0 rfl) ?_
    refine va_get (D := D) (ci := 4) (v := .ref (adC 0)) (C := RX4) (T := TX4) (N := 6) hx hb hts hinX4 hown hK.1 hP 0 rfl rfl 0 (by decide) wf2 (fun _ h9 => h9) rfl dX4_divide_13 ?_
    refine lv_iload_n hx hb dX4_divide_16 rfl (lv_at hl 1 rfl) ?_
    refine lv_iload_n hx hb dX4_divide_17 rfl (lv_at hl 2 rfl) ?_
    obtain ⟨r18, e18, h⟩ := kBd h
    refine kCallWI (As := [.int p1, .int p2]) (rest := [.ref aX]) (sg := [wX aX adC adH adF adT vX, wC ty adC vC, wH ty adH adS vH, wS ty adS r8]) (sc := [wC ty adC vC]) (s1 := [wC ty adC r18.2]) (sn := [wX aX adC adH adF adT vX, wC ty adC r18.2, wH ty adH adS vH, wS ty adS r8]) ⟨hx, hb, hml, hown, hts⟩ (cX0_split_ok l D ty adC H.size vC p1 p2  r18 e18) (cwV 2 hts gX4_divide_X0_split rfl rfl rfl (by decide +kernel) ⟨Nat.le_of_ble_eq_true rfl, Nat.le_of_ble_eq_true rfl⟩) hP hK hD hS hA [1] (by decide) rfl 0 1 rfl rfl rfl rfl hl.1 rfl (Nat.le_of_ble_eq_true rfl) dX4_divide_18 ⟨Nat.le_of_ble_eq_true rfl, Nat.le_of_ble_eq_true rfl⟩ rfl rfl (fun H locs hP hD hS => ?_)
    have hP : va_P D vwCl (wX aX adC adH adF adT vX ++ (wC ty adC r18.2 ++ (wH ty adH adS vH ++ wS ty adS r8))) H := hP
    have hD : va_D A (wX aX adC adH adF adT vX ++ (wC ty adC r18.2 ++ (wH ty adH adS vH ++ wS ty adS r8))) := hD
    obtain ⟨r21, e21, h⟩ := kBd h
    refine kCallWI (As := [.int r18.1]) (rest := []) (sg := [wX aX adC adH adF adT vX, wC ty adC r18.2, wH ty adH adS vH, wS ty adS r8]) (sc := [wX aX adC adH adF adT vX, wH ty adH adS vH]) (s1 := [wX aX adC adH adF adT r21.2.1, wH ty adH adS r21.2.2]) (sn := [wX aX adC adH adF adT r21.2.1, wC ty adC r18.2, wH ty adH adS r21.2.2, wS ty adS r8]) ⟨hx, hb, hml, hown, hts⟩ (cX4_closeAct_ok l D ty aX adC adF adH adT adS H.size vX vH r18.1  r21 e21) (cwV 1 hts gX4_divide_X4_closeAct rfl rfl rfl (by decide +kernel) ⟨Nat.le_of_ble_eq_true rfl, Nat.le_of_ble_eq_true rfl⟩) hP hK hD hS hA [0, 2] (by decide) rfl 4 0 rfl rfl rfl rfl hl.1 rfl (Nat.le_of_ble_eq_true rfl) dX4_divide_21 ⟨Nat.le_of_ble_eq_true rfl, Nat.le_of_ble_eq_true rfl⟩ rfl rfl (fun H locs hP hD hS => ?_)
    have hP : va_P D vwCl (wX aX adC adH adF adT r21.2.1 ++ (wC ty adC r18.2 ++ (wH ty adH adS r21.2.2 ++ wS ty adS r8))) H := hP
    have hD : va_D A (wX aX adC adH adF adT r21.2.1 ++ (wC ty adC r18.2 ++ (wH ty adH adS r21.2.2 ++ wS ty adS r8))) := hD
    obtain rfl := Option.some.inj h
    subst hQ
    exact W.iret (v := r21.1) hx hb hr (fun t ht hW => ⟨⟨r21.1, (), rfl, rfl, kEnd ht hP⟩, hS.F ht⟩) hS.2.2 dX4_divide_24
  exact E0 s.heap [] ls hP hD hS hl
def fX4_setBed (vX : KX) (vC : KC) (vH : KH) (vS : KS) (p1 : Int32) : Option (Int32 × KX × KC × KH × KS) := (fX2_prepare vC vH vS).bind fun r8 => (fX0_putBed vC p1).bind fun r17 => (fX4_closeAct vX vH r17.1).bind fun r20 => some (r20.1, r20.2.1, r17.2, r20.2.2, r8)
set_option maxHeartbeats 4000000 in
set_option maxRecDepth 100000 in
theorem cX4_setBed_ok (l : Launch) (D : va_G) (ty : kTy) (aX : Nat) (adC adF adH adT : Nat → Nat) (adS : Nat → Nat → Nat) (sz : Nat) (vX : KX) (vC : KC) (vH : KH) (vS : KS) (p1 : Int32)  (res : Int32 × KX × KC × KH × KS) (h : fX4_setBed vX vC vH vS p1 = some res) : kMI l yX4_setBed wsX4_setBed { frames := 3, cells := 0, slots := 0, locals := 83 } [.ref aX, .int p1] D ty (wX aX adC adH adF adT vX ++ (wC ty adC vC ++ (wH ty adH adS vH ++ wS ty adS vS))) sz res.1 (wX aX adC adH adF adT res.2.1 ++ (wC ty adC res.2.2.1 ++ (wH ty adH adS res.2.2.2.1 ++ wS ty adS res.2.2.2.2))) := by
  refine Met.ofW (cc := cX4_setBed) (maxL := 2) (ret := (some .int)) (by decide) rfl ?_
  intro p e s m args below meth c s₁ B hml hv
  obtain ⟨rfl, hsz, hP, hK, hD0⟩ := hv
  have hx := B.exec
  have hb := B.bytes
  have hr := B.returns
  have hts := atoms_spec (ws := wsX4_setBed) B.pre
  have hown : s.vm.findClass RX4 = some m.cls := findClass_of_methodNamed B.named
  have hlocks := B.notSynchronized
  subst hsz
  have hD := hD0.self (sz := s.heap.size)
  generalize hAe : va_A (wX aX adC adH adF adT vX ++ (wC ty adC vC ++ (wH ty adH adS vH ++ wS ty adS vS))) s.heap.size = A at hD ⊢
  have hA : ∀ q : Nat, s.heap.size ≤ q → A q := fun q h => by rw [← hAe]; exact Or.inr h
  have hS : va_S A s.heap s.heap [] := va_S.rf
  refine kGenW (fun Q hQ => ?_)
  have wf0 := hts (.fieldLink RX4 19 "IceCoreDater" "log" "LIceCoreDater$Log;") (by decide +kernel)
  have hinX4 : ∀ w ∈ wsX40, w ∈ wsX4_setBed := by decide +kernel
  have wf2 := hts (.fieldLink RX4 10 "IceCoreDater" "core" "LIceCoreDater$Core;") (by decide +kernel)
  have hl := lv_entry ([.ref aX, .int p1]) (n := 2) (Nat.le_of_ble_eq_true rfl)
  rw [lg_entry_eq]
  generalize (lg_sl ([.ref aX, .int p1]) ++ List.replicate (2 - (lg_sl ([.ref aX, .int p1])).length) Slot.unset).toArray = ls at hl ⊢
  have hl : lv_has ls 2 [(0, .ref aX), (1, .int p1)] := hl
  unfold fX4_setBed at h
  have E0 : ∀ (H : Heap) (locs : List Loc) (ls : Array Slot), va_P D vwCl (wX aX adC adH adF adT vX ++ (wC ty adC vC ++ (wH ty adH adS vH ++ wS ty adS vS))) H → va_D A (wX aX adC adH adF adT vX ++ (wC ty adC vC ++ (wH ty adH adS vH ++ wS ty adS vS))) → va_S A s.heap H locs → lv_has ls 2 [(0, .ref aX), (1, .int p1)] → W p l e (headSpec wsX4_setBed { frames := 3, cells := 0, slots := 0, locals := 83 }).room s m ([.ref aX, .int p1] : List Value).toArray below meth c H locs 0 0 Q (F0 m 0 ls []) := by
    intro H locs ls hP hD hS hl
    refine lv_aload_n hx hb dX4_setBed_0 rfl (lv_at hl 0 rfl) ?_
    refine va_get (D := D) (ci := 4) (v := .ref (adH 0)) (C := RX4) (T := TX4) (N := 6) hx hb hts hinX4 hown hK.1 hP 0 rfl rfl 1 (by decide) wf0 (fun _ h9 => h9) rfl dX4_setBed_1 ?_
    refine lv_aload_n hx hb dX4_setBed_4 rfl (lv_at hl 0 rfl) ?_
    refine va_get (D := D) (ci := 4) (v := .ref (adC 0)) (C := RX4) (T := TX4) (N := 6) hx hb hts hinX4 hown hK.1 hP 0 rfl rfl 0 (by decide) wf2 (fun _ h9 => h9) rfl dX4_setBed_5 ?_
    obtain ⟨r8, e8, h⟩ := kBd h
    refine kCallWV (As := [.ref (adC 0)]) (rest := []) (sg := [wX aX adC adH adF adT vX, wC ty adC vC, wH ty adH adS vH, wS ty adS vS]) (sc := [wC ty adC vC, wH ty adH adS vH, wS ty adS vS]) (s1 := [wC ty adC vC, wH ty adH adS vH, wS ty adS r8]) (sn := [wX aX adC adH adF adT vX, wC ty adC vC, wH ty adH adS vH, wS ty adS r8]) ⟨hx, hb, hml, hown, hts⟩ (cX2_prepare_ok l D ty adC adH adS H.size vC vH vS  r8 e8) (cwV 1 hts gX4_setBed_X2_prepare rfl rfl rfl (by decide +kernel) ⟨Nat.le_of_ble_eq_true rfl, Nat.le_of_ble_eq_true rfl⟩) hP hK hD hS hA [1, 2, 3] (by decide) rfl 2 9 rfl rfl rfl rfl hl.1 rfl (Nat.le_of_ble_eq_true rfl) dX4_setBed_8 ⟨Nat.le_of_ble_eq_true rfl, Nat.le_of_ble_eq_true rfl⟩ rfl rfl (fun H locs hP hD hS => ?_)
    have hP : va_P D vwCl (wX aX adC adH adF adT vX ++ (wC ty adC vC ++ (wH ty adH adS vH ++ wS ty adS r8))) H := hP
    have hD : va_D A (wX aX adC adH adF adT vX ++ (wC ty adC vC ++ (wH ty adH adS vH ++ wS ty adS r8))) := hD
    refine lv_aload_n hx hb dX4_setBed_11 rfl (lv_at hl 0 rfl) ?_
    refine lv_aload_n hx hb dX4_setBed_12 rfl (lv_at hl 0 rfl) ?_
    refine va_get (D := D) (ci := 4) (v := .ref (adC 0)) (C := RX4) (T := TX4) (N := 6) hx hb hts hinX4 hown hK.1 hP 0 rfl rfl 0 (by decide) wf2 (fun _ h9 => h9) rfl dX4_setBed_13 ?_
    refine lv_iload_n hx hb dX4_setBed_16 rfl (lv_at hl 1 rfl) ?_
    obtain ⟨r17, e17, h⟩ := kBd h
    refine kCallWI (As := [.int p1]) (rest := [.ref aX]) (sg := [wX aX adC adH adF adT vX, wC ty adC vC, wH ty adH adS vH, wS ty adS r8]) (sc := [wC ty adC vC]) (s1 := [wC ty adC r17.2]) (sn := [wX aX adC adH adF adT vX, wC ty adC r17.2, wH ty adH adS vH, wS ty adS r8]) ⟨hx, hb, hml, hown, hts⟩ (cX0_putBed_ok l D ty adC H.size vC p1  r17 e17) (cwV 1 hts gX4_setBed_X0_putBed rfl rfl rfl (by decide +kernel) ⟨Nat.le_of_ble_eq_true rfl, Nat.le_of_ble_eq_true rfl⟩) hP hK hD hS hA [1] (by decide) rfl 0 1 rfl rfl rfl rfl hl.1 rfl (Nat.le_of_ble_eq_true rfl) dX4_setBed_17 ⟨Nat.le_of_ble_eq_true rfl, Nat.le_of_ble_eq_true rfl⟩ rfl rfl (fun H locs hP hD hS => ?_)
    have hP : va_P D vwCl (wX aX adC adH adF adT vX ++ (wC ty adC r17.2 ++ (wH ty adH adS vH ++ wS ty adS r8))) H := hP
    have hD : va_D A (wX aX adC adH adF adT vX ++ (wC ty adC r17.2 ++ (wH ty adH adS vH ++ wS ty adS r8))) := hD
    obtain ⟨r20, e20, h⟩ := kBd h
    refine kCallWI (As := [.int r17.1]) (rest := []) (sg := [wX aX adC adH adF adT vX, wC ty adC r17.2, wH ty adH adS vH, wS ty adS r8]) (sc := [wX aX adC adH adF adT vX, wH ty adH adS vH]) (s1 := [wX aX adC adH adF adT r20.2.1, wH ty adH adS r20.2.2]) (sn := [wX aX adC adH adF adT r20.2.1, wC ty adC r17.2, wH ty adH adS r20.2.2, wS ty adS r8]) ⟨hx, hb, hml, hown, hts⟩ (cX4_closeAct_ok l D ty aX adC adF adH adT adS H.size vX vH r17.1  r20 e20) (cwV 1 hts gX4_setBed_X4_closeAct rfl rfl rfl (by decide +kernel) ⟨Nat.le_of_ble_eq_true rfl, Nat.le_of_ble_eq_true rfl⟩) hP hK hD hS hA [0, 2] (by decide) rfl 4 0 rfl rfl rfl rfl hl.1 rfl (Nat.le_of_ble_eq_true rfl) dX4_setBed_20 ⟨Nat.le_of_ble_eq_true rfl, Nat.le_of_ble_eq_true rfl⟩ rfl rfl (fun H locs hP hD hS => ?_)
    have hP : va_P D vwCl (wX aX adC adH adF adT r20.2.1 ++ (wC ty adC r17.2 ++ (wH ty adH adS r20.2.2 ++ wS ty adS r8))) H := hP
    have hD : va_D A (wX aX adC adH adF adT r20.2.1 ++ (wC ty adC r17.2 ++ (wH ty adH adS r20.2.2 ++ wS ty adS r8))) := hD
    obtain rfl := Option.some.inj h
    subst hQ
    exact W.iret (v := r20.1) hx hb hr (fun t ht hW => ⟨⟨r20.1, (), rfl, rfl, kEnd ht hP⟩, hS.F ht⟩) hS.2.2 dX4_setBed_23
  exact E0 s.heap [] ls hP hD hS hl
def fX4_setFunction (vX : KX) (vC : KC) (vH : KH) (vS : KS) (p1 : Int32) : Option (Int32 × KX × KC × KH × KS) := (fX2_prepare vC vH vS).bind fun r8 => (fX0_putFunction vC p1).bind fun r17 => (fX4_closeAct vX vH r17.1).bind fun r20 => some (r20.1, r20.2.1, r17.2, r20.2.2, r8)
set_option maxHeartbeats 4000000 in
set_option maxRecDepth 100000 in
theorem cX4_setFunction_ok (l : Launch) (D : va_G) (ty : kTy) (aX : Nat) (adC adF adH adT : Nat → Nat) (adS : Nat → Nat → Nat) (sz : Nat) (vX : KX) (vC : KC) (vH : KH) (vS : KS) (p1 : Int32)  (res : Int32 × KX × KC × KH × KS) (h : fX4_setFunction vX vC vH vS p1 = some res) : kMI l yX4_setFunction wsX4_setFunction { frames := 3, cells := 0, slots := 0, locals := 83 } [.ref aX, .int p1] D ty (wX aX adC adH adF adT vX ++ (wC ty adC vC ++ (wH ty adH adS vH ++ wS ty adS vS))) sz res.1 (wX aX adC adH adF adT res.2.1 ++ (wC ty adC res.2.2.1 ++ (wH ty adH adS res.2.2.2.1 ++ wS ty adS res.2.2.2.2))) := by
  refine Met.ofW (cc := cX4_setFunction) (maxL := 2) (ret := (some .int)) (by decide) rfl ?_
  intro p e s m args below meth c s₁ B hml hv
  obtain ⟨rfl, hsz, hP, hK, hD0⟩ := hv
  have hx := B.exec
  have hb := B.bytes
  have hr := B.returns
  have hts := atoms_spec (ws := wsX4_setFunction) B.pre
  have hown : s.vm.findClass RX4 = some m.cls := findClass_of_methodNamed B.named
  have hlocks := B.notSynchronized
  subst hsz
  have hD := hD0.self (sz := s.heap.size)
  generalize hAe : va_A (wX aX adC adH adF adT vX ++ (wC ty adC vC ++ (wH ty adH adS vH ++ wS ty adS vS))) s.heap.size = A at hD ⊢
  have hA : ∀ q : Nat, s.heap.size ≤ q → A q := fun q h => by rw [← hAe]; exact Or.inr h
  have hS : va_S A s.heap s.heap [] := va_S.rf
  refine kGenW (fun Q hQ => ?_)
  have wf0 := hts (.fieldLink RX4 19 "IceCoreDater" "log" "LIceCoreDater$Log;") (by decide +kernel)
  have hinX4 : ∀ w ∈ wsX40, w ∈ wsX4_setFunction := by decide +kernel
  have wf2 := hts (.fieldLink RX4 10 "IceCoreDater" "core" "LIceCoreDater$Core;") (by decide +kernel)
  have hl := lv_entry ([.ref aX, .int p1]) (n := 2) (Nat.le_of_ble_eq_true rfl)
  rw [lg_entry_eq]
  generalize (lg_sl ([.ref aX, .int p1]) ++ List.replicate (2 - (lg_sl ([.ref aX, .int p1])).length) Slot.unset).toArray = ls at hl ⊢
  have hl : lv_has ls 2 [(0, .ref aX), (1, .int p1)] := hl
  unfold fX4_setFunction at h
  have E0 : ∀ (H : Heap) (locs : List Loc) (ls : Array Slot), va_P D vwCl (wX aX adC adH adF adT vX ++ (wC ty adC vC ++ (wH ty adH adS vH ++ wS ty adS vS))) H → va_D A (wX aX adC adH adF adT vX ++ (wC ty adC vC ++ (wH ty adH adS vH ++ wS ty adS vS))) → va_S A s.heap H locs → lv_has ls 2 [(0, .ref aX), (1, .int p1)] → W p l e (headSpec wsX4_setFunction { frames := 3, cells := 0, slots := 0, locals := 83 }).room s m ([.ref aX, .int p1] : List Value).toArray below meth c H locs 0 0 Q (F0 m 0 ls []) := by
    intro H locs ls hP hD hS hl
    refine lv_aload_n hx hb dX4_setFunction_0 rfl (lv_at hl 0 rfl) ?_
    refine va_get (D := D) (ci := 4) (v := .ref (adH 0)) (C := RX4) (T := TX4) (N := 6) hx hb hts hinX4 hown hK.1 hP 0 rfl rfl 1 (by decide) wf0 (fun _ h9 => h9) rfl dX4_setFunction_1 ?_
    refine lv_aload_n hx hb dX4_setFunction_4 rfl (lv_at hl 0 rfl) ?_
    refine va_get (D := D) (ci := 4) (v := .ref (adC 0)) (C := RX4) (T := TX4) (N := 6) hx hb hts hinX4 hown hK.1 hP 0 rfl rfl 0 (by decide) wf2 (fun _ h9 => h9) rfl dX4_setFunction_5 ?_
    obtain ⟨r8, e8, h⟩ := kBd h
    refine kCallWV (As := [.ref (adC 0)]) (rest := []) (sg := [wX aX adC adH adF adT vX, wC ty adC vC, wH ty adH adS vH, wS ty adS vS]) (sc := [wC ty adC vC, wH ty adH adS vH, wS ty adS vS]) (s1 := [wC ty adC vC, wH ty adH adS vH, wS ty adS r8]) (sn := [wX aX adC adH adF adT vX, wC ty adC vC, wH ty adH adS vH, wS ty adS r8]) ⟨hx, hb, hml, hown, hts⟩ (cX2_prepare_ok l D ty adC adH adS H.size vC vH vS  r8 e8) (cwV 1 hts gX4_setFunction_X2_prepare rfl rfl rfl (by decide +kernel) ⟨Nat.le_of_ble_eq_true rfl, Nat.le_of_ble_eq_true rfl⟩) hP hK hD hS hA [1, 2, 3] (by decide) rfl 2 9 rfl rfl rfl rfl hl.1 rfl (Nat.le_of_ble_eq_true rfl) dX4_setFunction_8 ⟨Nat.le_of_ble_eq_true rfl, Nat.le_of_ble_eq_true rfl⟩ rfl rfl (fun H locs hP hD hS => ?_)
    have hP : va_P D vwCl (wX aX adC adH adF adT vX ++ (wC ty adC vC ++ (wH ty adH adS vH ++ wS ty adS r8))) H := hP
    have hD : va_D A (wX aX adC adH adF adT vX ++ (wC ty adC vC ++ (wH ty adH adS vH ++ wS ty adS r8))) := hD
    refine lv_aload_n hx hb dX4_setFunction_11 rfl (lv_at hl 0 rfl) ?_
    refine lv_aload_n hx hb dX4_setFunction_12 rfl (lv_at hl 0 rfl) ?_
    refine va_get (D := D) (ci := 4) (v := .ref (adC 0)) (C := RX4) (T := TX4) (N := 6) hx hb hts hinX4 hown hK.1 hP 0 rfl rfl 0 (by decide) wf2 (fun _ h9 => h9) rfl dX4_setFunction_13 ?_
    refine lv_iload_n hx hb dX4_setFunction_16 rfl (lv_at hl 1 rfl) ?_
    obtain ⟨r17, e17, h⟩ := kBd h
    refine kCallWI (As := [.int p1]) (rest := [.ref aX]) (sg := [wX aX adC adH adF adT vX, wC ty adC vC, wH ty adH adS vH, wS ty adS r8]) (sc := [wC ty adC vC]) (s1 := [wC ty adC r17.2]) (sn := [wX aX adC adH adF adT vX, wC ty adC r17.2, wH ty adH adS vH, wS ty adS r8]) ⟨hx, hb, hml, hown, hts⟩ (cX0_putFunction_ok l D ty adC H.size vC p1  r17 e17) (cwV 1 hts gX4_setFunction_X0_putFunction rfl rfl rfl (by decide +kernel) ⟨Nat.le_of_ble_eq_true rfl, Nat.le_of_ble_eq_true rfl⟩) hP hK hD hS hA [1] (by decide) rfl 0 1 rfl rfl rfl rfl hl.1 rfl (Nat.le_of_ble_eq_true rfl) dX4_setFunction_17 ⟨Nat.le_of_ble_eq_true rfl, Nat.le_of_ble_eq_true rfl⟩ rfl rfl (fun H locs hP hD hS => ?_)
    have hP : va_P D vwCl (wX aX adC adH adF adT vX ++ (wC ty adC r17.2 ++ (wH ty adH adS vH ++ wS ty adS r8))) H := hP
    have hD : va_D A (wX aX adC adH adF adT vX ++ (wC ty adC r17.2 ++ (wH ty adH adS vH ++ wS ty adS r8))) := hD
    obtain ⟨r20, e20, h⟩ := kBd h
    refine kCallWI (As := [.int r17.1]) (rest := []) (sg := [wX aX adC adH adF adT vX, wC ty adC r17.2, wH ty adH adS vH, wS ty adS r8]) (sc := [wX aX adC adH adF adT vX, wH ty adH adS vH]) (s1 := [wX aX adC adH adF adT r20.2.1, wH ty adH adS r20.2.2]) (sn := [wX aX adC adH adF adT r20.2.1, wC ty adC r17.2, wH ty adH adS r20.2.2, wS ty adS r8]) ⟨hx, hb, hml, hown, hts⟩ (cX4_closeAct_ok l D ty aX adC adF adH adT adS H.size vX vH r17.1  r20 e20) (cwV 1 hts gX4_setFunction_X4_closeAct rfl rfl rfl (by decide +kernel) ⟨Nat.le_of_ble_eq_true rfl, Nat.le_of_ble_eq_true rfl⟩) hP hK hD hS hA [0, 2] (by decide) rfl 4 0 rfl rfl rfl rfl hl.1 rfl (Nat.le_of_ble_eq_true rfl) dX4_setFunction_20 ⟨Nat.le_of_ble_eq_true rfl, Nat.le_of_ble_eq_true rfl⟩ rfl rfl (fun H locs hP hD hS => ?_)
    have hP : va_P D vwCl (wX aX adC adH adF adT r20.2.1 ++ (wC ty adC r17.2 ++ (wH ty adH adS r20.2.2 ++ wS ty adS r8))) H := hP
    have hD : va_D A (wX aX adC adH adF adT r20.2.1 ++ (wC ty adC r17.2 ++ (wH ty adH adS r20.2.2 ++ wS ty adS r8))) := hD
    obtain rfl := Option.some.inj h
    subst hQ
    exact W.iret (v := r20.1) hx hb hr (fun t ht hW => ⟨⟨r20.1, (), rfl, rfl, kEnd ht hP⟩, hS.F ht⟩) hS.2.2 dX4_setFunction_23
  exact E0 s.heap [] ls hP hD hS hl
def fX4_setKink (vX : KX) (vC : KC) (vH : KH) (vS : KS) (p1 : Int32) : Option (Int32 × KX × KC × KH × KS) := (fX2_prepare vC vH vS).bind fun r8 => (fX0_putKink vC p1).bind fun r17 => (fX4_closeAct vX vH r17.1).bind fun r20 => some (r20.1, r20.2.1, r17.2, r20.2.2, r8)
set_option maxHeartbeats 4000000 in
set_option maxRecDepth 100000 in
theorem cX4_setKink_ok (l : Launch) (D : va_G) (ty : kTy) (aX : Nat) (adC adF adH adT : Nat → Nat) (adS : Nat → Nat → Nat) (sz : Nat) (vX : KX) (vC : KC) (vH : KH) (vS : KS) (p1 : Int32)  (res : Int32 × KX × KC × KH × KS) (h : fX4_setKink vX vC vH vS p1 = some res) : kMI l yX4_setKink wsX4_setKink { frames := 3, cells := 0, slots := 0, locals := 83 } [.ref aX, .int p1] D ty (wX aX adC adH adF adT vX ++ (wC ty adC vC ++ (wH ty adH adS vH ++ wS ty adS vS))) sz res.1 (wX aX adC adH adF adT res.2.1 ++ (wC ty adC res.2.2.1 ++ (wH ty adH adS res.2.2.2.1 ++ wS ty adS res.2.2.2.2))) := by
  refine Met.ofW (cc := cX4_setKink) (maxL := 2) (ret := (some .int)) (by decide) rfl ?_
  intro p e s m args below meth c s₁ B hml hv
  obtain ⟨rfl, hsz, hP, hK, hD0⟩ := hv
  have hx := B.exec
  have hb := B.bytes
  have hr := B.returns
  have hts := atoms_spec (ws := wsX4_setKink) B.pre
  have hown : s.vm.findClass RX4 = some m.cls := findClass_of_methodNamed B.named
  have hlocks := B.notSynchronized
  subst hsz
  have hD := hD0.self (sz := s.heap.size)
  generalize hAe : va_A (wX aX adC adH adF adT vX ++ (wC ty adC vC ++ (wH ty adH adS vH ++ wS ty adS vS))) s.heap.size = A at hD ⊢
  have hA : ∀ q : Nat, s.heap.size ≤ q → A q := fun q h => by rw [← hAe]; exact Or.inr h
  have hS : va_S A s.heap s.heap [] := va_S.rf
  refine kGenW (fun Q hQ => ?_)
  have wf0 := hts (.fieldLink RX4 19 "IceCoreDater" "log" "LIceCoreDater$Log;") (by decide +kernel)
  have hinX4 : ∀ w ∈ wsX40, w ∈ wsX4_setKink := by decide +kernel
  have wf2 := hts (.fieldLink RX4 10 "IceCoreDater" "core" "LIceCoreDater$Core;") (by decide +kernel)
  have hl := lv_entry ([.ref aX, .int p1]) (n := 2) (Nat.le_of_ble_eq_true rfl)
  rw [lg_entry_eq]
  generalize (lg_sl ([.ref aX, .int p1]) ++ List.replicate (2 - (lg_sl ([.ref aX, .int p1])).length) Slot.unset).toArray = ls at hl ⊢
  have hl : lv_has ls 2 [(0, .ref aX), (1, .int p1)] := hl
  unfold fX4_setKink at h
  have E0 : ∀ (H : Heap) (locs : List Loc) (ls : Array Slot), va_P D vwCl (wX aX adC adH adF adT vX ++ (wC ty adC vC ++ (wH ty adH adS vH ++ wS ty adS vS))) H → va_D A (wX aX adC adH adF adT vX ++ (wC ty adC vC ++ (wH ty adH adS vH ++ wS ty adS vS))) → va_S A s.heap H locs → lv_has ls 2 [(0, .ref aX), (1, .int p1)] → W p l e (headSpec wsX4_setKink { frames := 3, cells := 0, slots := 0, locals := 83 }).room s m ([.ref aX, .int p1] : List Value).toArray below meth c H locs 0 0 Q (F0 m 0 ls []) := by
    intro H locs ls hP hD hS hl
    refine lv_aload_n hx hb dX4_setKink_0 rfl (lv_at hl 0 rfl) ?_
    refine va_get (D := D) (ci := 4) (v := .ref (adH 0)) (C := RX4) (T := TX4) (N := 6) hx hb hts hinX4 hown hK.1 hP 0 rfl rfl 1 (by decide) wf0 (fun _ h9 => h9) rfl dX4_setKink_1 ?_
    refine lv_aload_n hx hb dX4_setKink_4 rfl (lv_at hl 0 rfl) ?_
    refine va_get (D := D) (ci := 4) (v := .ref (adC 0)) (C := RX4) (T := TX4) (N := 6) hx hb hts hinX4 hown hK.1 hP 0 rfl rfl 0 (by decide) wf2 (fun _ h9 => h9) rfl dX4_setKink_5 ?_
    obtain ⟨r8, e8, h⟩ := kBd h
    refine kCallWV (As := [.ref (adC 0)]) (rest := []) (sg := [wX aX adC adH adF adT vX, wC ty adC vC, wH ty adH adS vH, wS ty adS vS]) (sc := [wC ty adC vC, wH ty adH adS vH, wS ty adS vS]) (s1 := [wC ty adC vC, wH ty adH adS vH, wS ty adS r8]) (sn := [wX aX adC adH adF adT vX, wC ty adC vC, wH ty adH adS vH, wS ty adS r8]) ⟨hx, hb, hml, hown, hts⟩ (cX2_prepare_ok l D ty adC adH adS H.size vC vH vS  r8 e8) (cwV 1 hts gX4_setKink_X2_prepare rfl rfl rfl (by decide +kernel) ⟨Nat.le_of_ble_eq_true rfl, Nat.le_of_ble_eq_true rfl⟩) hP hK hD hS hA [1, 2, 3] (by decide) rfl 2 9 rfl rfl rfl rfl hl.1 rfl (Nat.le_of_ble_eq_true rfl) dX4_setKink_8 ⟨Nat.le_of_ble_eq_true rfl, Nat.le_of_ble_eq_true rfl⟩ rfl rfl (fun H locs hP hD hS => ?_)
    have hP : va_P D vwCl (wX aX adC adH adF adT vX ++ (wC ty adC vC ++ (wH ty adH adS vH ++ wS ty adS r8))) H := hP
    have hD : va_D A (wX aX adC adH adF adT vX ++ (wC ty adC vC ++ (wH ty adH adS vH ++ wS ty adS r8))) := hD
    refine lv_aload_n hx hb dX4_setKink_11 rfl (lv_at hl 0 rfl) ?_
    refine lv_aload_n hx hb dX4_setKink_12 rfl (lv_at hl 0 rfl) ?_
    refine va_get (D := D) (ci := 4) (v := .ref (adC 0)) (C := RX4) (T := TX4) (N := 6) hx hb hts hinX4 hown hK.1 hP 0 rfl rfl 0 (by decide) wf2 (fun _ h9 => h9) rfl dX4_setKink_13 ?_
    refine lv_iload_n hx hb dX4_setKink_16 rfl (lv_at hl 1 rfl) ?_
    obtain ⟨r17, e17, h⟩ := kBd h
    refine kCallWI (As := [.int p1]) (rest := [.ref aX]) (sg := [wX aX adC adH adF adT vX, wC ty adC vC, wH ty adH adS vH, wS ty adS r8]) (sc := [wC ty adC vC]) (s1 := [wC ty adC r17.2]) (sn := [wX aX adC adH adF adT vX, wC ty adC r17.2, wH ty adH adS vH, wS ty adS r8]) ⟨hx, hb, hml, hown, hts⟩ (cX0_putKink_ok l D ty adC H.size vC p1  r17 e17) (cwV 1 hts gX4_setKink_X0_putKink rfl rfl rfl (by decide +kernel) ⟨Nat.le_of_ble_eq_true rfl, Nat.le_of_ble_eq_true rfl⟩) hP hK hD hS hA [1] (by decide) rfl 0 1 rfl rfl rfl rfl hl.1 rfl (Nat.le_of_ble_eq_true rfl) dX4_setKink_17 ⟨Nat.le_of_ble_eq_true rfl, Nat.le_of_ble_eq_true rfl⟩ rfl rfl (fun H locs hP hD hS => ?_)
    have hP : va_P D vwCl (wX aX adC adH adF adT vX ++ (wC ty adC r17.2 ++ (wH ty adH adS vH ++ wS ty adS r8))) H := hP
    have hD : va_D A (wX aX adC adH adF adT vX ++ (wC ty adC r17.2 ++ (wH ty adH adS vH ++ wS ty adS r8))) := hD
    obtain ⟨r20, e20, h⟩ := kBd h
    refine kCallWI (As := [.int r17.1]) (rest := []) (sg := [wX aX adC adH adF adT vX, wC ty adC r17.2, wH ty adH adS vH, wS ty adS r8]) (sc := [wX aX adC adH adF adT vX, wH ty adH adS vH]) (s1 := [wX aX adC adH adF adT r20.2.1, wH ty adH adS r20.2.2]) (sn := [wX aX adC adH adF adT r20.2.1, wC ty adC r17.2, wH ty adH adS r20.2.2, wS ty adS r8]) ⟨hx, hb, hml, hown, hts⟩ (cX4_closeAct_ok l D ty aX adC adF adH adT adS H.size vX vH r17.1  r20 e20) (cwV 1 hts gX4_setKink_X4_closeAct rfl rfl rfl (by decide +kernel) ⟨Nat.le_of_ble_eq_true rfl, Nat.le_of_ble_eq_true rfl⟩) hP hK hD hS hA [0, 2] (by decide) rfl 4 0 rfl rfl rfl rfl hl.1 rfl (Nat.le_of_ble_eq_true rfl) dX4_setKink_20 ⟨Nat.le_of_ble_eq_true rfl, Nat.le_of_ble_eq_true rfl⟩ rfl rfl (fun H locs hP hD hS => ?_)
    have hP : va_P D vwCl (wX aX adC adH adF adT r20.2.1 ++ (wC ty adC r17.2 ++ (wH ty adH adS r20.2.2 ++ wS ty adS r8))) H := hP
    have hD : va_D A (wX aX adC adH adF adT r20.2.1 ++ (wC ty adC r17.2 ++ (wH ty adH adS r20.2.2 ++ wS ty adS r8))) := hD
    obtain rfl := Option.some.inj h
    subst hQ
    exact W.iret (v := r20.1) hx hb hr (fun t ht hW => ⟨⟨r20.1, (), rfl, rfl, kEnd ht hP⟩, hS.F ht⟩) hS.2.2 dX4_setKink_23
  exact E0 s.heap [] ls hP hD hS hl
def fX4_tellThinning (vX : KX) (vC : KC) (vH : KH) (vS : KS) (p1 : Int32) (p2 : Int32) : Option (Int32 × KX × KC × KH × KS) := (fX2_prepare vC vH vS).bind fun r8 => (fX0_putTold vC p1 p2).bind fun r18 => (fX4_closeAct vX vH r18.1).bind fun r21 => some (r21.1, r21.2.1, r18.2, r21.2.2, r8)
set_option maxHeartbeats 4000000 in
set_option maxRecDepth 100000 in
theorem cX4_tellThinning_ok (l : Launch) (D : va_G) (ty : kTy) (aX : Nat) (adC adF adH adT : Nat → Nat) (adS : Nat → Nat → Nat) (sz : Nat) (vX : KX) (vC : KC) (vH : KH) (vS : KS) (p1 : Int32) (p2 : Int32)  (res : Int32 × KX × KC × KH × KS) (h : fX4_tellThinning vX vC vH vS p1 p2 = some res) : kMI l yX4_tellThinning wsX4_tellThinning { frames := 3, cells := 0, slots := 0, locals := 83 } [.ref aX, .int p1, .int p2] D ty (wX aX adC adH adF adT vX ++ (wC ty adC vC ++ (wH ty adH adS vH ++ wS ty adS vS))) sz res.1 (wX aX adC adH adF adT res.2.1 ++ (wC ty adC res.2.2.1 ++ (wH ty adH adS res.2.2.2.1 ++ wS ty adS res.2.2.2.2))) := by
  refine Met.ofW (cc := cX4_tellThinning) (maxL := 3) (ret := (some .int)) (by decide) rfl ?_
  intro p e s m args below meth c s₁ B hml hv
  obtain ⟨rfl, hsz, hP, hK, hD0⟩ := hv
  have hx := B.exec
  have hb := B.bytes
  have hr := B.returns
  have hts := atoms_spec (ws := wsX4_tellThinning) B.pre
  have hown : s.vm.findClass RX4 = some m.cls := findClass_of_methodNamed B.named
  have hlocks := B.notSynchronized
  subst hsz
  have hD := hD0.self (sz := s.heap.size)
  generalize hAe : va_A (wX aX adC adH adF adT vX ++ (wC ty adC vC ++ (wH ty adH adS vH ++ wS ty adS vS))) s.heap.size = A at hD ⊢
  have hA : ∀ q : Nat, s.heap.size ≤ q → A q := fun q h => by rw [← hAe]; exact Or.inr h
  have hS : va_S A s.heap s.heap [] := va_S.rf
  refine kGenW (fun Q hQ => ?_)
  have wf0 := hts (.fieldLink RX4 19 "IceCoreDater" "log" "LIceCoreDater$Log;") (by decide +kernel)
  have hinX4 : ∀ w ∈ wsX40, w ∈ wsX4_tellThinning := by decide +kernel
  have wf2 := hts (.fieldLink RX4 10 "IceCoreDater" "core" "LIceCoreDater$Core;") (by decide +kernel)
  have hl := lv_entry ([.ref aX, .int p1, .int p2]) (n := 3) (Nat.le_of_ble_eq_true rfl)
  rw [lg_entry_eq]
  generalize (lg_sl ([.ref aX, .int p1, .int p2]) ++ List.replicate (3 - (lg_sl ([.ref aX, .int p1, .int p2])).length) Slot.unset).toArray = ls at hl ⊢
  have hl : lv_has ls 3 [(0, .ref aX), (1, .int p1), (2, .int p2)] := hl
  unfold fX4_tellThinning at h
  have E0 : ∀ (H : Heap) (locs : List Loc) (ls : Array Slot), va_P D vwCl (wX aX adC adH adF adT vX ++ (wC ty adC vC ++ (wH ty adH adS vH ++ wS ty adS vS))) H → va_D A (wX aX adC adH adF adT vX ++ (wC ty adC vC ++ (wH ty adH adS vH ++ wS ty adS vS))) → va_S A s.heap H locs → lv_has ls 3 [(0, .ref aX), (1, .int p1), (2, .int p2)] → W p l e (headSpec wsX4_tellThinning { frames := 3, cells := 0, slots := 0, locals := 83 }).room s m ([.ref aX, .int p1, .int p2] : List Value).toArray below meth c H locs 0 0 Q (F0 m 0 ls []) := by
    intro H locs ls hP hD hS hl
    refine lv_aload_n hx hb dX4_tellThinning_0 rfl (lv_at hl 0 rfl) ?_
    refine va_get (D := D) (ci := 4) (v := .ref (adH 0)) (C := RX4) (T := TX4) (N := 6) hx hb hts hinX4 hown hK.1 hP 0 rfl rfl 1 (by decide) wf0 (fun _ h9 => h9) rfl dX4_tellThinning_1 ?_
    refine lv_aload_n hx hb dX4_tellThinning_4 rfl (lv_at hl 0 rfl) ?_
    refine va_get (D := D) (ci := 4) (v := .ref (adC 0)) (C := RX4) (T := TX4) (N := 6) hx hb hts hinX4 hown hK.1 hP 0 rfl rfl 0 (by decide) wf2 (fun _ h9 => h9) rfl dX4_tellThinning_5 ?_
    obtain ⟨r8, e8, h⟩ := kBd h
    refine kCallWV (As := [.ref (adC 0)]) (rest := []) (sg := [wX aX adC adH adF adT vX, wC ty adC vC, wH ty adH adS vH, wS ty adS vS]) (sc := [wC ty adC vC, wH ty adH adS vH, wS ty adS vS]) (s1 := [wC ty adC vC, wH ty adH adS vH, wS ty adS r8]) (sn := [wX aX adC adH adF adT vX, wC ty adC vC, wH ty adH adS vH, wS ty adS r8]) ⟨hx, hb, hml, hown, hts⟩ (cX2_prepare_ok l D ty adC adH adS H.size vC vH vS  r8 e8) (cwV 1 hts gX4_tellThinning_X2_prepare rfl rfl rfl (by decide +kernel) ⟨Nat.le_of_ble_eq_true rfl, Nat.le_of_ble_eq_true rfl⟩) hP hK hD hS hA [1, 2, 3] (by decide) rfl 2 9 rfl rfl rfl rfl hl.1 rfl (Nat.le_of_ble_eq_true rfl) dX4_tellThinning_8 ⟨Nat.le_of_ble_eq_true rfl, Nat.le_of_ble_eq_true rfl⟩ rfl rfl (fun H locs hP hD hS => ?_)
    have hP : va_P D vwCl (wX aX adC adH adF adT vX ++ (wC ty adC vC ++ (wH ty adH adS vH ++ wS ty adS r8))) H := hP
    have hD : va_D A (wX aX adC adH adF adT vX ++ (wC ty adC vC ++ (wH ty adH adS vH ++ wS ty adS r8))) := hD
    refine lv_aload_n hx hb dX4_tellThinning_11 rfl (lv_at hl 0 rfl) ?_
    refine lv_aload_n hx hb dX4_tellThinning_12 rfl (lv_at hl 0 rfl) ?_
    refine va_get (D := D) (ci := 4) (v := .ref (adC 0)) (C := RX4) (T := TX4) (N := 6) hx hb hts hinX4 hown hK.1 hP 0 rfl rfl 0 (by decide) wf2 (fun _ h9 => h9) rfl dX4_tellThinning_13 ?_
    refine lv_iload_n hx hb dX4_tellThinning_16 rfl (lv_at hl 1 rfl) ?_
    refine lv_iload_n hx hb dX4_tellThinning_17 rfl (lv_at hl 2 rfl) ?_
    obtain ⟨r18, e18, h⟩ := kBd h
    refine kCallWI (As := [.int p1, .int p2]) (rest := [.ref aX]) (sg := [wX aX adC adH adF adT vX, wC ty adC vC, wH ty adH adS vH, wS ty adS r8]) (sc := [wC ty adC vC]) (s1 := [wC ty adC r18.2]) (sn := [wX aX adC adH adF adT vX, wC ty adC r18.2, wH ty adH adS vH, wS ty adS r8]) ⟨hx, hb, hml, hown, hts⟩ (cX0_putTold_ok l D ty adC H.size vC p1 p2  r18 e18) (cwV 2 hts gX4_tellThinning_X0_putTold rfl rfl rfl (by decide +kernel) ⟨Nat.le_of_ble_eq_true rfl, Nat.le_of_ble_eq_true rfl⟩) hP hK hD hS hA [1] (by decide) rfl 0 1 rfl rfl rfl rfl hl.1 rfl (Nat.le_of_ble_eq_true rfl) dX4_tellThinning_18 ⟨Nat.le_of_ble_eq_true rfl, Nat.le_of_ble_eq_true rfl⟩ rfl rfl (fun H locs hP hD hS => ?_)
    have hP : va_P D vwCl (wX aX adC adH adF adT vX ++ (wC ty adC r18.2 ++ (wH ty adH adS vH ++ wS ty adS r8))) H := hP
    have hD : va_D A (wX aX adC adH adF adT vX ++ (wC ty adC r18.2 ++ (wH ty adH adS vH ++ wS ty adS r8))) := hD
    obtain ⟨r21, e21, h⟩ := kBd h
    refine kCallWI (As := [.int r18.1]) (rest := []) (sg := [wX aX adC adH adF adT vX, wC ty adC r18.2, wH ty adH adS vH, wS ty adS r8]) (sc := [wX aX adC adH adF adT vX, wH ty adH adS vH]) (s1 := [wX aX adC adH adF adT r21.2.1, wH ty adH adS r21.2.2]) (sn := [wX aX adC adH adF adT r21.2.1, wC ty adC r18.2, wH ty adH adS r21.2.2, wS ty adS r8]) ⟨hx, hb, hml, hown, hts⟩ (cX4_closeAct_ok l D ty aX adC adF adH adT adS H.size vX vH r18.1  r21 e21) (cwV 1 hts gX4_tellThinning_X4_closeAct rfl rfl rfl (by decide +kernel) ⟨Nat.le_of_ble_eq_true rfl, Nat.le_of_ble_eq_true rfl⟩) hP hK hD hS hA [0, 2] (by decide) rfl 4 0 rfl rfl rfl rfl hl.1 rfl (Nat.le_of_ble_eq_true rfl) dX4_tellThinning_21 ⟨Nat.le_of_ble_eq_true rfl, Nat.le_of_ble_eq_true rfl⟩ rfl rfl (fun H locs hP hD hS => ?_)
    have hP : va_P D vwCl (wX aX adC adH adF adT r21.2.1 ++ (wC ty adC r18.2 ++ (wH ty adH adS r21.2.2 ++ wS ty adS r8))) H := hP
    have hD : va_D A (wX aX adC adH adF adT r21.2.1 ++ (wC ty adC r18.2 ++ (wH ty adH adS r21.2.2 ++ wS ty adS r8))) := hD
    obtain rfl := Option.some.inj h
    subst hQ
    exact W.iret (v := r21.1) hx hb hr (fun t ht hW => ⟨⟨r21.1, (), rfl, rfl, kEnd ht hP⟩, hS.F ht⟩) hS.2.2 dX4_tellThinning_24
  exact E0 s.heap [] ls hP hD hS hl
def fX4_correct (vX : KX) (vC : KC) (vH : KH) (vS : KS) (p1 : Int32) (p2 : Int32) : Option (Int32 × KX × KC × KH × KS) := (fX2_prepare vC vH vS).bind fun r8 => (fX0_putCorrection vC p1 p2).bind fun r18 => (fX4_closeAct vX vH r18.1).bind fun r21 => some (r21.1, r21.2.1, r18.2, r21.2.2, r8)
set_option maxHeartbeats 4000000 in
set_option maxRecDepth 100000 in
theorem cX4_correct_ok (l : Launch) (D : va_G) (ty : kTy) (aX : Nat) (adC adF adH adT : Nat → Nat) (adS : Nat → Nat → Nat) (sz : Nat) (vX : KX) (vC : KC) (vH : KH) (vS : KS) (p1 : Int32) (p2 : Int32)  (res : Int32 × KX × KC × KH × KS) (h : fX4_correct vX vC vH vS p1 p2 = some res) : kMI l yX4_correct wsX4_correct { frames := 3, cells := 0, slots := 0, locals := 83 } [.ref aX, .int p1, .int p2] D ty (wX aX adC adH adF adT vX ++ (wC ty adC vC ++ (wH ty adH adS vH ++ wS ty adS vS))) sz res.1 (wX aX adC adH adF adT res.2.1 ++ (wC ty adC res.2.2.1 ++ (wH ty adH adS res.2.2.2.1 ++ wS ty adS res.2.2.2.2))) := by
  refine Met.ofW (cc := cX4_correct) (maxL := 3) (ret := (some .int)) (by decide) rfl ?_
  intro p e s m args below meth c s₁ B hml hv
  obtain ⟨rfl, hsz, hP, hK, hD0⟩ := hv
  have hx := B.exec
  have hb := B.bytes
  have hr := B.returns
  have hts := atoms_spec (ws := wsX4_correct) B.pre
  have hown : s.vm.findClass RX4 = some m.cls := findClass_of_methodNamed B.named
  have hlocks := B.notSynchronized
  subst hsz
  have hD := hD0.self (sz := s.heap.size)
  generalize hAe : va_A (wX aX adC adH adF adT vX ++ (wC ty adC vC ++ (wH ty adH adS vH ++ wS ty adS vS))) s.heap.size = A at hD ⊢
  have hA : ∀ q : Nat, s.heap.size ≤ q → A q := fun q h => by rw [← hAe]; exact Or.inr h
  have hS : va_S A s.heap s.heap [] := va_S.rf
  refine kGenW (fun Q hQ => ?_)
  have wf0 := hts (.fieldLink RX4 19 "IceCoreDater" "log" "LIceCoreDater$Log;") (by decide +kernel)
  have hinX4 : ∀ w ∈ wsX40, w ∈ wsX4_correct := by decide +kernel
  have wf2 := hts (.fieldLink RX4 10 "IceCoreDater" "core" "LIceCoreDater$Core;") (by decide +kernel)
  have hl := lv_entry ([.ref aX, .int p1, .int p2]) (n := 3) (Nat.le_of_ble_eq_true rfl)
  rw [lg_entry_eq]
  generalize (lg_sl ([.ref aX, .int p1, .int p2]) ++ List.replicate (3 - (lg_sl ([.ref aX, .int p1, .int p2])).length) Slot.unset).toArray = ls at hl ⊢
  have hl : lv_has ls 3 [(0, .ref aX), (1, .int p1), (2, .int p2)] := hl
  unfold fX4_correct at h
  have E0 : ∀ (H : Heap) (locs : List Loc) (ls : Array Slot), va_P D vwCl (wX aX adC adH adF adT vX ++ (wC ty adC vC ++ (wH ty adH adS vH ++ wS ty adS vS))) H → va_D A (wX aX adC adH adF adT vX ++ (wC ty adC vC ++ (wH ty adH adS vH ++ wS ty adS vS))) → va_S A s.heap H locs → lv_has ls 3 [(0, .ref aX), (1, .int p1), (2, .int p2)] → W p l e (headSpec wsX4_correct { frames := 3, cells := 0, slots := 0, locals := 83 }).room s m ([.ref aX, .int p1, .int p2] : List Value).toArray below meth c H locs 0 0 Q (F0 m 0 ls []) := by
    intro H locs ls hP hD hS hl
    refine lv_aload_n hx hb dX4_correct_0 rfl (lv_at hl 0 rfl) ?_
    refine va_get (D := D) (ci := 4) (v := .ref (adH 0)) (C := RX4) (T := TX4) (N := 6) hx hb hts hinX4 hown hK.1 hP 0 rfl rfl 1 (by decide) wf0 (fun _ h9 => h9) rfl dX4_correct_1 ?_
    refine lv_aload_n hx hb dX4_correct_4 rfl (lv_at hl 0 rfl) ?_
    refine va_get (D := D) (ci := 4) (v := .ref (adC 0)) (C := RX4) (T := TX4) (N := 6) hx hb hts hinX4 hown hK.1 hP 0 rfl rfl 0 (by decide) wf2 (fun _ h9 => h9) rfl dX4_correct_5 ?_
    obtain ⟨r8, e8, h⟩ := kBd h
    refine kCallWV (As := [.ref (adC 0)]) (rest := []) (sg := [wX aX adC adH adF adT vX, wC ty adC vC, wH ty adH adS vH, wS ty adS vS]) (sc := [wC ty adC vC, wH ty adH adS vH, wS ty adS vS]) (s1 := [wC ty adC vC, wH ty adH adS vH, wS ty adS r8]) (sn := [wX aX adC adH adF adT vX, wC ty adC vC, wH ty adH adS vH, wS ty adS r8]) ⟨hx, hb, hml, hown, hts⟩ (cX2_prepare_ok l D ty adC adH adS H.size vC vH vS  r8 e8) (cwV 1 hts gX4_correct_X2_prepare rfl rfl rfl (by decide +kernel) ⟨Nat.le_of_ble_eq_true rfl, Nat.le_of_ble_eq_true rfl⟩) hP hK hD hS hA [1, 2, 3] (by decide) rfl 2 9 rfl rfl rfl rfl hl.1 rfl (Nat.le_of_ble_eq_true rfl) dX4_correct_8 ⟨Nat.le_of_ble_eq_true rfl, Nat.le_of_ble_eq_true rfl⟩ rfl rfl (fun H locs hP hD hS => ?_)
    have hP : va_P D vwCl (wX aX adC adH adF adT vX ++ (wC ty adC vC ++ (wH ty adH adS vH ++ wS ty adS r8))) H := hP
    have hD : va_D A (wX aX adC adH adF adT vX ++ (wC ty adC vC ++ (wH ty adH adS vH ++ wS ty adS r8))) := hD
    refine lv_aload_n hx hb dX4_correct_11 rfl (lv_at hl 0 rfl) ?_
    refine lv_aload_n hx hb dX4_correct_12 rfl (lv_at hl 0 rfl) ?_
    refine va_get (D := D) (ci := 4) (v := .ref (adC 0)) (C := RX4) (T := TX4) (N := 6) hx hb hts hinX4 hown hK.1 hP 0 rfl rfl 0 (by decide) wf2 (fun _ h9 => h9) rfl dX4_correct_13 ?_
    refine lv_iload_n hx hb dX4_correct_16 rfl (lv_at hl 1 rfl) ?_
    refine lv_iload_n hx hb dX4_correct_17 rfl (lv_at hl 2 rfl) ?_
    obtain ⟨r18, e18, h⟩ := kBd h
    refine kCallWI (As := [.int p1, .int p2]) (rest := [.ref aX]) (sg := [wX aX adC adH adF adT vX, wC ty adC vC, wH ty adH adS vH, wS ty adS r8]) (sc := [wC ty adC vC]) (s1 := [wC ty adC r18.2]) (sn := [wX aX adC adH adF adT vX, wC ty adC r18.2, wH ty adH adS vH, wS ty adS r8]) ⟨hx, hb, hml, hown, hts⟩ (cX0_putCorrection_ok l D ty adC H.size vC p1 p2  r18 e18) (cwV 2 hts gX4_correct_X0_putCorrection rfl rfl rfl (by decide +kernel) ⟨Nat.le_of_ble_eq_true rfl, Nat.le_of_ble_eq_true rfl⟩) hP hK hD hS hA [1] (by decide) rfl 0 1 rfl rfl rfl rfl hl.1 rfl (Nat.le_of_ble_eq_true rfl) dX4_correct_18 ⟨Nat.le_of_ble_eq_true rfl, Nat.le_of_ble_eq_true rfl⟩ rfl rfl (fun H locs hP hD hS => ?_)
    have hP : va_P D vwCl (wX aX adC adH adF adT vX ++ (wC ty adC r18.2 ++ (wH ty adH adS vH ++ wS ty adS r8))) H := hP
    have hD : va_D A (wX aX adC adH adF adT vX ++ (wC ty adC r18.2 ++ (wH ty adH adS vH ++ wS ty adS r8))) := hD
    obtain ⟨r21, e21, h⟩ := kBd h
    refine kCallWI (As := [.int r18.1]) (rest := []) (sg := [wX aX adC adH adF adT vX, wC ty adC r18.2, wH ty adH adS vH, wS ty adS r8]) (sc := [wX aX adC adH adF adT vX, wH ty adH adS vH]) (s1 := [wX aX adC adH adF adT r21.2.1, wH ty adH adS r21.2.2]) (sn := [wX aX adC adH adF adT r21.2.1, wC ty adC r18.2, wH ty adH adS r21.2.2, wS ty adS r8]) ⟨hx, hb, hml, hown, hts⟩ (cX4_closeAct_ok l D ty aX adC adF adH adT adS H.size vX vH r18.1  r21 e21) (cwV 1 hts gX4_correct_X4_closeAct rfl rfl rfl (by decide +kernel) ⟨Nat.le_of_ble_eq_true rfl, Nat.le_of_ble_eq_true rfl⟩) hP hK hD hS hA [0, 2] (by decide) rfl 4 0 rfl rfl rfl rfl hl.1 rfl (Nat.le_of_ble_eq_true rfl) dX4_correct_21 ⟨Nat.le_of_ble_eq_true rfl, Nat.le_of_ble_eq_true rfl⟩ rfl rfl (fun H locs hP hD hS => ?_)
    have hP : va_P D vwCl (wX aX adC adH adF adT r21.2.1 ++ (wC ty adC r18.2 ++ (wH ty adH adS r21.2.2 ++ wS ty adS r8))) H := hP
    have hD : va_D A (wX aX adC adH adF adT r21.2.1 ++ (wC ty adC r18.2 ++ (wH ty adH adS r21.2.2 ++ wS ty adS r8))) := hD
    obtain rfl := Option.some.inj h
    subst hQ
    exact W.iret (v := r21.1) hx hb hr (fun t ht hW => ⟨⟨r21.1, (), rfl, rfl, kEnd ht hP⟩, hS.F ht⟩) hS.2.2 dX4_correct_24
  exact E0 s.heap [] ls hP hD hS hl
def fX4_setCloseOff (vX : KX) (vC : KC) (vH : KH) (vS : KS) (p1 : Int32) : Option (Int32 × KX × KC × KH × KS) := (fX2_prepare vC vH vS).bind fun r8 => (fX0_putCloseOff vC p1).bind fun r17 => (fX4_closeAct vX vH r17.1).bind fun r20 => some (r20.1, r20.2.1, r17.2, r20.2.2, r8)
set_option maxHeartbeats 4000000 in
set_option maxRecDepth 100000 in
theorem cX4_setCloseOff_ok (l : Launch) (D : va_G) (ty : kTy) (aX : Nat) (adC adF adH adT : Nat → Nat) (adS : Nat → Nat → Nat) (sz : Nat) (vX : KX) (vC : KC) (vH : KH) (vS : KS) (p1 : Int32)  (res : Int32 × KX × KC × KH × KS) (h : fX4_setCloseOff vX vC vH vS p1 = some res) : kMI l yX4_setCloseOff wsX4_setCloseOff { frames := 3, cells := 0, slots := 0, locals := 83 } [.ref aX, .int p1] D ty (wX aX adC adH adF adT vX ++ (wC ty adC vC ++ (wH ty adH adS vH ++ wS ty adS vS))) sz res.1 (wX aX adC adH adF adT res.2.1 ++ (wC ty adC res.2.2.1 ++ (wH ty adH adS res.2.2.2.1 ++ wS ty adS res.2.2.2.2))) := by
  refine Met.ofW (cc := cX4_setCloseOff) (maxL := 2) (ret := (some .int)) (by decide) rfl ?_
  intro p e s m args below meth c s₁ B hml hv
  obtain ⟨rfl, hsz, hP, hK, hD0⟩ := hv
  have hx := B.exec
  have hb := B.bytes
  have hr := B.returns
  have hts := atoms_spec (ws := wsX4_setCloseOff) B.pre
  have hown : s.vm.findClass RX4 = some m.cls := findClass_of_methodNamed B.named
  have hlocks := B.notSynchronized
  subst hsz
  have hD := hD0.self (sz := s.heap.size)
  generalize hAe : va_A (wX aX adC adH adF adT vX ++ (wC ty adC vC ++ (wH ty adH adS vH ++ wS ty adS vS))) s.heap.size = A at hD ⊢
  have hA : ∀ q : Nat, s.heap.size ≤ q → A q := fun q h => by rw [← hAe]; exact Or.inr h
  have hS : va_S A s.heap s.heap [] := va_S.rf
  refine kGenW (fun Q hQ => ?_)
  have wf0 := hts (.fieldLink RX4 19 "IceCoreDater" "log" "LIceCoreDater$Log;") (by decide +kernel)
  have hinX4 : ∀ w ∈ wsX40, w ∈ wsX4_setCloseOff := by decide +kernel
  have wf2 := hts (.fieldLink RX4 10 "IceCoreDater" "core" "LIceCoreDater$Core;") (by decide +kernel)
  have hl := lv_entry ([.ref aX, .int p1]) (n := 2) (Nat.le_of_ble_eq_true rfl)
  rw [lg_entry_eq]
  generalize (lg_sl ([.ref aX, .int p1]) ++ List.replicate (2 - (lg_sl ([.ref aX, .int p1])).length) Slot.unset).toArray = ls at hl ⊢
  have hl : lv_has ls 2 [(0, .ref aX), (1, .int p1)] := hl
  unfold fX4_setCloseOff at h
  have E0 : ∀ (H : Heap) (locs : List Loc) (ls : Array Slot), va_P D vwCl (wX aX adC adH adF adT vX ++ (wC ty adC vC ++ (wH ty adH adS vH ++ wS ty adS vS))) H → va_D A (wX aX adC adH adF adT vX ++ (wC ty adC vC ++ (wH ty adH adS vH ++ wS ty adS vS))) → va_S A s.heap H locs → lv_has ls 2 [(0, .ref aX), (1, .int p1)] → W p l e (headSpec wsX4_setCloseOff { frames := 3, cells := 0, slots := 0, locals := 83 }).room s m ([.ref aX, .int p1] : List Value).toArray below meth c H locs 0 0 Q (F0 m 0 ls []) := by
    intro H locs ls hP hD hS hl
    refine lv_aload_n hx hb dX4_setCloseOff_0 rfl (lv_at hl 0 rfl) ?_
    refine va_get (D := D) (ci := 4) (v := .ref (adH 0)) (C := RX4) (T := TX4) (N := 6) hx hb hts hinX4 hown hK.1 hP 0 rfl rfl 1 (by decide) wf0 (fun _ h9 => h9) rfl dX4_setCloseOff_1 ?_
    refine lv_aload_n hx hb dX4_setCloseOff_4 rfl (lv_at hl 0 rfl) ?_
    refine va_get (D := D) (ci := 4) (v := .ref (adC 0)) (C := RX4) (T := TX4) (N := 6) hx hb hts hinX4 hown hK.1 hP 0 rfl rfl 0 (by decide) wf2 (fun _ h9 => h9) rfl dX4_setCloseOff_5 ?_
    obtain ⟨r8, e8, h⟩ := kBd h
    refine kCallWV (As := [.ref (adC 0)]) (rest := []) (sg := [wX aX adC adH adF adT vX, wC ty adC vC, wH ty adH adS vH, wS ty adS vS]) (sc := [wC ty adC vC, wH ty adH adS vH, wS ty adS vS]) (s1 := [wC ty adC vC, wH ty adH adS vH, wS ty adS r8]) (sn := [wX aX adC adH adF adT vX, wC ty adC vC, wH ty adH adS vH, wS ty adS r8]) ⟨hx, hb, hml, hown, hts⟩ (cX2_prepare_ok l D ty adC adH adS H.size vC vH vS  r8 e8) (cwV 1 hts gX4_setCloseOff_X2_prepare rfl rfl rfl (by decide +kernel) ⟨Nat.le_of_ble_eq_true rfl, Nat.le_of_ble_eq_true rfl⟩) hP hK hD hS hA [1, 2, 3] (by decide) rfl 2 9 rfl rfl rfl rfl hl.1 rfl (Nat.le_of_ble_eq_true rfl) dX4_setCloseOff_8 ⟨Nat.le_of_ble_eq_true rfl, Nat.le_of_ble_eq_true rfl⟩ rfl rfl (fun H locs hP hD hS => ?_)
    have hP : va_P D vwCl (wX aX adC adH adF adT vX ++ (wC ty adC vC ++ (wH ty adH adS vH ++ wS ty adS r8))) H := hP
    have hD : va_D A (wX aX adC adH adF adT vX ++ (wC ty adC vC ++ (wH ty adH adS vH ++ wS ty adS r8))) := hD
    refine lv_aload_n hx hb dX4_setCloseOff_11 rfl (lv_at hl 0 rfl) ?_
    refine lv_aload_n hx hb dX4_setCloseOff_12 rfl (lv_at hl 0 rfl) ?_
    refine va_get (D := D) (ci := 4) (v := .ref (adC 0)) (C := RX4) (T := TX4) (N := 6) hx hb hts hinX4 hown hK.1 hP 0 rfl rfl 0 (by decide) wf2 (fun _ h9 => h9) rfl dX4_setCloseOff_13 ?_
    refine lv_iload_n hx hb dX4_setCloseOff_16 rfl (lv_at hl 1 rfl) ?_
    obtain ⟨r17, e17, h⟩ := kBd h
    refine kCallWI (As := [.int p1]) (rest := [.ref aX]) (sg := [wX aX adC adH adF adT vX, wC ty adC vC, wH ty adH adS vH, wS ty adS r8]) (sc := [wC ty adC vC]) (s1 := [wC ty adC r17.2]) (sn := [wX aX adC adH adF adT vX, wC ty adC r17.2, wH ty adH adS vH, wS ty adS r8]) ⟨hx, hb, hml, hown, hts⟩ (cX0_putCloseOff_ok l D ty adC H.size vC p1  r17 e17) (cwV 1 hts gX4_setCloseOff_X0_putCloseOff rfl rfl rfl (by decide +kernel) ⟨Nat.le_of_ble_eq_true rfl, Nat.le_of_ble_eq_true rfl⟩) hP hK hD hS hA [1] (by decide) rfl 0 1 rfl rfl rfl rfl hl.1 rfl (Nat.le_of_ble_eq_true rfl) dX4_setCloseOff_17 ⟨Nat.le_of_ble_eq_true rfl, Nat.le_of_ble_eq_true rfl⟩ rfl rfl (fun H locs hP hD hS => ?_)
    have hP : va_P D vwCl (wX aX adC adH adF adT vX ++ (wC ty adC r17.2 ++ (wH ty adH adS vH ++ wS ty adS r8))) H := hP
    have hD : va_D A (wX aX adC adH adF adT vX ++ (wC ty adC r17.2 ++ (wH ty adH adS vH ++ wS ty adS r8))) := hD
    obtain ⟨r20, e20, h⟩ := kBd h
    refine kCallWI (As := [.int r17.1]) (rest := []) (sg := [wX aX adC adH adF adT vX, wC ty adC r17.2, wH ty adH adS vH, wS ty adS r8]) (sc := [wX aX adC adH adF adT vX, wH ty adH adS vH]) (s1 := [wX aX adC adH adF adT r20.2.1, wH ty adH adS r20.2.2]) (sn := [wX aX adC adH adF adT r20.2.1, wC ty adC r17.2, wH ty adH adS r20.2.2, wS ty adS r8]) ⟨hx, hb, hml, hown, hts⟩ (cX4_closeAct_ok l D ty aX adC adF adH adT adS H.size vX vH r17.1  r20 e20) (cwV 1 hts gX4_setCloseOff_X4_closeAct rfl rfl rfl (by decide +kernel) ⟨Nat.le_of_ble_eq_true rfl, Nat.le_of_ble_eq_true rfl⟩) hP hK hD hS hA [0, 2] (by decide) rfl 4 0 rfl rfl rfl rfl hl.1 rfl (Nat.le_of_ble_eq_true rfl) dX4_setCloseOff_20 ⟨Nat.le_of_ble_eq_true rfl, Nat.le_of_ble_eq_true rfl⟩ rfl rfl (fun H locs hP hD hS => ?_)
    have hP : va_P D vwCl (wX aX adC adH adF adT r20.2.1 ++ (wC ty adC r17.2 ++ (wH ty adH adS r20.2.2 ++ wS ty adS r8))) H := hP
    have hD : va_D A (wX aX adC adH adF adT r20.2.1 ++ (wC ty adC r17.2 ++ (wH ty adH adS r20.2.2 ++ wS ty adS r8))) := hD
    obtain rfl := Option.some.inj h
    subst hQ
    exact W.iret (v := r20.1) hx hb hr (fun t ht hW => ⟨⟨r20.1, (), rfl, rfl, kEnd ht hP⟩, hS.F ht⟩) hS.2.2 dX4_setCloseOff_23
  exact E0 s.heap [] ls hP hD hS hl
def fX4_setAsh (vX : KX) (vC : KC) (vH : KH) (vS : KS) (p1 : Int32) (p2 : Int32) (p3 : Int32) : Option (Int32 × KX × KC × KH × KS) := (fX2_prepare vC vH vS).bind fun r8 => (fX0_putAsh vC p1 p2 p3).bind fun r19 => (fX4_closeAct vX vH r19.1).bind fun r22 => some (r22.1, r22.2.1, r19.2, r22.2.2, r8)
set_option maxHeartbeats 4000000 in
set_option maxRecDepth 100000 in
theorem cX4_setAsh_ok (l : Launch) (D : va_G) (ty : kTy) (aX : Nat) (adC adF adH adT : Nat → Nat) (adS : Nat → Nat → Nat) (sz : Nat) (vX : KX) (vC : KC) (vH : KH) (vS : KS) (p1 : Int32) (p2 : Int32) (p3 : Int32)  (res : Int32 × KX × KC × KH × KS) (h : fX4_setAsh vX vC vH vS p1 p2 p3 = some res) : kMI l yX4_setAsh wsX4_setAsh { frames := 4, cells := 0, slots := 0, locals := 87 } [.ref aX, .int p1, .int p2, .int p3] D ty (wX aX adC adH adF adT vX ++ (wC ty adC vC ++ (wH ty adH adS vH ++ wS ty adS vS))) sz res.1 (wX aX adC adH adF adT res.2.1 ++ (wC ty adC res.2.2.1 ++ (wH ty adH adS res.2.2.2.1 ++ wS ty adS res.2.2.2.2))) := by
  refine Met.ofW (cc := cX4_setAsh) (maxL := 4) (ret := (some .int)) (by decide) rfl ?_
  intro p e s m args below meth c s₁ B hml hv
  obtain ⟨rfl, hsz, hP, hK, hD0⟩ := hv
  have hx := B.exec
  have hb := B.bytes
  have hr := B.returns
  have hts := atoms_spec (ws := wsX4_setAsh) B.pre
  have hown : s.vm.findClass RX4 = some m.cls := findClass_of_methodNamed B.named
  have hlocks := B.notSynchronized
  subst hsz
  have hD := hD0.self (sz := s.heap.size)
  generalize hAe : va_A (wX aX adC adH adF adT vX ++ (wC ty adC vC ++ (wH ty adH adS vH ++ wS ty adS vS))) s.heap.size = A at hD ⊢
  have hA : ∀ q : Nat, s.heap.size ≤ q → A q := fun q h => by rw [← hAe]; exact Or.inr h
  have hS : va_S A s.heap s.heap [] := va_S.rf
  refine kGenW (fun Q hQ => ?_)
  have wf0 := hts (.fieldLink RX4 19 "IceCoreDater" "log" "LIceCoreDater$Log;") (by decide +kernel)
  have hinX4 : ∀ w ∈ wsX40, w ∈ wsX4_setAsh := by decide +kernel
  have wf2 := hts (.fieldLink RX4 10 "IceCoreDater" "core" "LIceCoreDater$Core;") (by decide +kernel)
  have hl := lv_entry ([.ref aX, .int p1, .int p2, .int p3]) (n := 4) (Nat.le_of_ble_eq_true rfl)
  rw [lg_entry_eq]
  generalize (lg_sl ([.ref aX, .int p1, .int p2, .int p3]) ++ List.replicate (4 - (lg_sl ([.ref aX, .int p1, .int p2, .int p3])).length) Slot.unset).toArray = ls at hl ⊢
  have hl : lv_has ls 4 [(0, .ref aX), (1, .int p1), (2, .int p2), (3, .int p3)] := hl
  unfold fX4_setAsh at h
  have E0 : ∀ (H : Heap) (locs : List Loc) (ls : Array Slot), va_P D vwCl (wX aX adC adH adF adT vX ++ (wC ty adC vC ++ (wH ty adH adS vH ++ wS ty adS vS))) H → va_D A (wX aX adC adH adF adT vX ++ (wC ty adC vC ++ (wH ty adH adS vH ++ wS ty adS vS))) → va_S A s.heap H locs → lv_has ls 4 [(0, .ref aX), (1, .int p1), (2, .int p2), (3, .int p3)] → W p l e (headSpec wsX4_setAsh { frames := 4, cells := 0, slots := 0, locals := 87 }).room s m ([.ref aX, .int p1, .int p2, .int p3] : List Value).toArray below meth c H locs 0 0 Q (F0 m 0 ls []) := by
    intro H locs ls hP hD hS hl
    refine lv_aload_n hx hb dX4_setAsh_0 rfl (lv_at hl 0 rfl) ?_
    refine va_get (D := D) (ci := 4) (v := .ref (adH 0)) (C := RX4) (T := TX4) (N := 6) hx hb hts hinX4 hown hK.1 hP 0 rfl rfl 1 (by decide) wf0 (fun _ h9 => h9) rfl dX4_setAsh_1 ?_
    refine lv_aload_n hx hb dX4_setAsh_4 rfl (lv_at hl 0 rfl) ?_
    refine va_get (D := D) (ci := 4) (v := .ref (adC 0)) (C := RX4) (T := TX4) (N := 6) hx hb hts hinX4 hown hK.1 hP 0 rfl rfl 0 (by decide) wf2 (fun _ h9 => h9) rfl dX4_setAsh_5 ?_
    obtain ⟨r8, e8, h⟩ := kBd h
    refine kCallWV (As := [.ref (adC 0)]) (rest := []) (sg := [wX aX adC adH adF adT vX, wC ty adC vC, wH ty adH adS vH, wS ty adS vS]) (sc := [wC ty adC vC, wH ty adH adS vH, wS ty adS vS]) (s1 := [wC ty adC vC, wH ty adH adS vH, wS ty adS r8]) (sn := [wX aX adC adH adF adT vX, wC ty adC vC, wH ty adH adS vH, wS ty adS r8]) ⟨hx, hb, hml, hown, hts⟩ (cX2_prepare_ok l D ty adC adH adS H.size vC vH vS  r8 e8) (cwV 1 hts gX4_setAsh_X2_prepare rfl rfl rfl (by decide +kernel) ⟨Nat.le_of_ble_eq_true rfl, Nat.le_of_ble_eq_true rfl⟩) hP hK hD hS hA [1, 2, 3] (by decide) rfl 2 9 rfl rfl rfl rfl hl.1 rfl (Nat.le_of_ble_eq_true rfl) dX4_setAsh_8 ⟨Nat.le_of_ble_eq_true rfl, Nat.le_of_ble_eq_true rfl⟩ rfl rfl (fun H locs hP hD hS => ?_)
    have hP : va_P D vwCl (wX aX adC adH adF adT vX ++ (wC ty adC vC ++ (wH ty adH adS vH ++ wS ty adS r8))) H := hP
    have hD : va_D A (wX aX adC adH adF adT vX ++ (wC ty adC vC ++ (wH ty adH adS vH ++ wS ty adS r8))) := hD
    refine lv_aload_n hx hb dX4_setAsh_11 rfl (lv_at hl 0 rfl) ?_
    refine lv_aload_n hx hb dX4_setAsh_12 rfl (lv_at hl 0 rfl) ?_
    refine va_get (D := D) (ci := 4) (v := .ref (adC 0)) (C := RX4) (T := TX4) (N := 6) hx hb hts hinX4 hown hK.1 hP 0 rfl rfl 0 (by decide) wf2 (fun _ h9 => h9) rfl dX4_setAsh_13 ?_
    refine lv_iload_n hx hb dX4_setAsh_16 rfl (lv_at hl 1 rfl) ?_
    refine lv_iload_n hx hb dX4_setAsh_17 rfl (lv_at hl 2 rfl) ?_
    refine lv_iload_n hx hb dX4_setAsh_18 rfl (lv_at hl 3 rfl) ?_
    obtain ⟨r19, e19, h⟩ := kBd h
    refine kCallWI (As := [.int p1, .int p2, .int p3]) (rest := [.ref aX]) (sg := [wX aX adC adH adF adT vX, wC ty adC vC, wH ty adH adS vH, wS ty adS r8]) (sc := [wC ty adC vC]) (s1 := [wC ty adC r19.2]) (sn := [wX aX adC adH adF adT vX, wC ty adC r19.2, wH ty adH adS vH, wS ty adS r8]) ⟨hx, hb, hml, hown, hts⟩ (cX0_putAsh_ok l D ty adC H.size vC p1 p2 p3  r19 e19) (cwV 3 hts gX4_setAsh_X0_putAsh rfl rfl rfl (by decide +kernel) ⟨Nat.le_of_ble_eq_true rfl, Nat.le_of_ble_eq_true rfl⟩) hP hK hD hS hA [1] (by decide) rfl 0 1 rfl rfl rfl rfl hl.1 rfl (Nat.le_of_ble_eq_true rfl) dX4_setAsh_19 ⟨Nat.le_of_ble_eq_true rfl, Nat.le_of_ble_eq_true rfl⟩ rfl rfl (fun H locs hP hD hS => ?_)
    have hP : va_P D vwCl (wX aX adC adH adF adT vX ++ (wC ty adC r19.2 ++ (wH ty adH adS vH ++ wS ty adS r8))) H := hP
    have hD : va_D A (wX aX adC adH adF adT vX ++ (wC ty adC r19.2 ++ (wH ty adH adS vH ++ wS ty adS r8))) := hD
    obtain ⟨r22, e22, h⟩ := kBd h
    refine kCallWI (As := [.int r19.1]) (rest := []) (sg := [wX aX adC adH adF adT vX, wC ty adC r19.2, wH ty adH adS vH, wS ty adS r8]) (sc := [wX aX adC adH adF adT vX, wH ty adH adS vH]) (s1 := [wX aX adC adH adF adT r22.2.1, wH ty adH adS r22.2.2]) (sn := [wX aX adC adH adF adT r22.2.1, wC ty adC r19.2, wH ty adH adS r22.2.2, wS ty adS r8]) ⟨hx, hb, hml, hown, hts⟩ (cX4_closeAct_ok l D ty aX adC adF adH adT adS H.size vX vH r19.1  r22 e22) (cwV 1 hts gX4_setAsh_X4_closeAct rfl rfl rfl (by decide +kernel) ⟨Nat.le_of_ble_eq_true rfl, Nat.le_of_ble_eq_true rfl⟩) hP hK hD hS hA [0, 2] (by decide) rfl 4 0 rfl rfl rfl rfl hl.1 rfl (Nat.le_of_ble_eq_true rfl) dX4_setAsh_22 ⟨Nat.le_of_ble_eq_true rfl, Nat.le_of_ble_eq_true rfl⟩ rfl rfl (fun H locs hP hD hS => ?_)
    have hP : va_P D vwCl (wX aX adC adH adF adT r22.2.1 ++ (wC ty adC r19.2 ++ (wH ty adH adS r22.2.2 ++ wS ty adS r8))) H := hP
    have hD : va_D A (wX aX adC adH adF adT r22.2.1 ++ (wC ty adC r19.2 ++ (wH ty adH adS r22.2.2 ++ wS ty adS r8))) := hD
    obtain rfl := Option.some.inj h
    subst hQ
    exact W.iret (v := r22.1) hx hb hr (fun t ht hW => ⟨⟨r22.1, (), rfl, rfl, kEnd ht hP⟩, hS.F ht⟩) hS.2.2 dX4_setAsh_25
  exact E0 s.heap [] ls hP hD hS hl
def fX4_removeAsh (vX : KX) (vC : KC) (vH : KH) (vS : KS) (p1 : Int32) : Option (Int32 × KX × KC × KH × KS) := (fX2_prepare vC vH vS).bind fun r8 => (fX0_dropAsh vC p1).bind fun r17 => (fX4_closeAct vX vH r17.1).bind fun r20 => some (r20.1, r20.2.1, r17.2, r20.2.2, r8)
set_option maxHeartbeats 4000000 in
set_option maxRecDepth 100000 in
theorem cX4_removeAsh_ok (l : Launch) (D : va_G) (ty : kTy) (aX : Nat) (adC adF adH adT : Nat → Nat) (adS : Nat → Nat → Nat) (sz : Nat) (vX : KX) (vC : KC) (vH : KH) (vS : KS) (p1 : Int32)  (res : Int32 × KX × KC × KH × KS) (h : fX4_removeAsh vX vC vH vS p1 = some res) : kMI l yX4_removeAsh wsX4_removeAsh { frames := 4, cells := 0, slots := 0, locals := 85 } [.ref aX, .int p1] D ty (wX aX adC adH adF adT vX ++ (wC ty adC vC ++ (wH ty adH adS vH ++ wS ty adS vS))) sz res.1 (wX aX adC adH adF adT res.2.1 ++ (wC ty adC res.2.2.1 ++ (wH ty adH adS res.2.2.2.1 ++ wS ty adS res.2.2.2.2))) := by
  refine Met.ofW (cc := cX4_removeAsh) (maxL := 2) (ret := (some .int)) (by decide) rfl ?_
  intro p e s m args below meth c s₁ B hml hv
  obtain ⟨rfl, hsz, hP, hK, hD0⟩ := hv
  have hx := B.exec
  have hb := B.bytes
  have hr := B.returns
  have hts := atoms_spec (ws := wsX4_removeAsh) B.pre
  have hown : s.vm.findClass RX4 = some m.cls := findClass_of_methodNamed B.named
  have hlocks := B.notSynchronized
  subst hsz
  have hD := hD0.self (sz := s.heap.size)
  generalize hAe : va_A (wX aX adC adH adF adT vX ++ (wC ty adC vC ++ (wH ty adH adS vH ++ wS ty adS vS))) s.heap.size = A at hD ⊢
  have hA : ∀ q : Nat, s.heap.size ≤ q → A q := fun q h => by rw [← hAe]; exact Or.inr h
  have hS : va_S A s.heap s.heap [] := va_S.rf
  refine kGenW (fun Q hQ => ?_)
  have wf0 := hts (.fieldLink RX4 19 "IceCoreDater" "log" "LIceCoreDater$Log;") (by decide +kernel)
  have hinX4 : ∀ w ∈ wsX40, w ∈ wsX4_removeAsh := by decide +kernel
  have wf2 := hts (.fieldLink RX4 10 "IceCoreDater" "core" "LIceCoreDater$Core;") (by decide +kernel)
  have hl := lv_entry ([.ref aX, .int p1]) (n := 2) (Nat.le_of_ble_eq_true rfl)
  rw [lg_entry_eq]
  generalize (lg_sl ([.ref aX, .int p1]) ++ List.replicate (2 - (lg_sl ([.ref aX, .int p1])).length) Slot.unset).toArray = ls at hl ⊢
  have hl : lv_has ls 2 [(0, .ref aX), (1, .int p1)] := hl
  unfold fX4_removeAsh at h
  have E0 : ∀ (H : Heap) (locs : List Loc) (ls : Array Slot), va_P D vwCl (wX aX adC adH adF adT vX ++ (wC ty adC vC ++ (wH ty adH adS vH ++ wS ty adS vS))) H → va_D A (wX aX adC adH adF adT vX ++ (wC ty adC vC ++ (wH ty adH adS vH ++ wS ty adS vS))) → va_S A s.heap H locs → lv_has ls 2 [(0, .ref aX), (1, .int p1)] → W p l e (headSpec wsX4_removeAsh { frames := 4, cells := 0, slots := 0, locals := 85 }).room s m ([.ref aX, .int p1] : List Value).toArray below meth c H locs 0 0 Q (F0 m 0 ls []) := by
    intro H locs ls hP hD hS hl
    refine lv_aload_n hx hb dX4_removeAsh_0 rfl (lv_at hl 0 rfl) ?_
    refine va_get (D := D) (ci := 4) (v := .ref (adH 0)) (C := RX4) (T := TX4) (N := 6) hx hb hts hinX4 hown hK.1 hP 0 rfl rfl 1 (by decide) wf0 (fun _ h9 => h9) rfl dX4_removeAsh_1 ?_
    refine lv_aload_n hx hb dX4_removeAsh_4 rfl (lv_at hl 0 rfl) ?_
    refine va_get (D := D) (ci := 4) (v := .ref (adC 0)) (C := RX4) (T := TX4) (N := 6) hx hb hts hinX4 hown hK.1 hP 0 rfl rfl 0 (by decide) wf2 (fun _ h9 => h9) rfl dX4_removeAsh_5 ?_
    obtain ⟨r8, e8, h⟩ := kBd h
    refine kCallWV (As := [.ref (adC 0)]) (rest := []) (sg := [wX aX adC adH adF adT vX, wC ty adC vC, wH ty adH adS vH, wS ty adS vS]) (sc := [wC ty adC vC, wH ty adH adS vH, wS ty adS vS]) (s1 := [wC ty adC vC, wH ty adH adS vH, wS ty adS r8]) (sn := [wX aX adC adH adF adT vX, wC ty adC vC, wH ty adH adS vH, wS ty adS r8]) ⟨hx, hb, hml, hown, hts⟩ (cX2_prepare_ok l D ty adC adH adS H.size vC vH vS  r8 e8) (cwV 1 hts gX4_removeAsh_X2_prepare rfl rfl rfl (by decide +kernel) ⟨Nat.le_of_ble_eq_true rfl, Nat.le_of_ble_eq_true rfl⟩) hP hK hD hS hA [1, 2, 3] (by decide) rfl 2 9 rfl rfl rfl rfl hl.1 rfl (Nat.le_of_ble_eq_true rfl) dX4_removeAsh_8 ⟨Nat.le_of_ble_eq_true rfl, Nat.le_of_ble_eq_true rfl⟩ rfl rfl (fun H locs hP hD hS => ?_)
    have hP : va_P D vwCl (wX aX adC adH adF adT vX ++ (wC ty adC vC ++ (wH ty adH adS vH ++ wS ty adS r8))) H := hP
    have hD : va_D A (wX aX adC adH adF adT vX ++ (wC ty adC vC ++ (wH ty adH adS vH ++ wS ty adS r8))) := hD
    refine lv_aload_n hx hb dX4_removeAsh_11 rfl (lv_at hl 0 rfl) ?_
    refine lv_aload_n hx hb dX4_removeAsh_12 rfl (lv_at hl 0 rfl) ?_
    refine va_get (D := D) (ci := 4) (v := .ref (adC 0)) (C := RX4) (T := TX4) (N := 6) hx hb hts hinX4 hown hK.1 hP 0 rfl rfl 0 (by decide) wf2 (fun _ h9 => h9) rfl dX4_removeAsh_13 ?_
    refine lv_iload_n hx hb dX4_removeAsh_16 rfl (lv_at hl 1 rfl) ?_
    obtain ⟨r17, e17, h⟩ := kBd h
    refine kCallWI (As := [.int p1]) (rest := [.ref aX]) (sg := [wX aX adC adH adF adT vX, wC ty adC vC, wH ty adH adS vH, wS ty adS r8]) (sc := [wC ty adC vC]) (s1 := [wC ty adC r17.2]) (sn := [wX aX adC adH adF adT vX, wC ty adC r17.2, wH ty adH adS vH, wS ty adS r8]) ⟨hx, hb, hml, hown, hts⟩ (cX0_dropAsh_ok l D ty adC H.size vC p1  r17 e17) (cwV 1 hts gX4_removeAsh_X0_dropAsh rfl rfl rfl (by decide +kernel) ⟨Nat.le_of_ble_eq_true rfl, Nat.le_of_ble_eq_true rfl⟩) hP hK hD hS hA [1] (by decide) rfl 0 1 rfl rfl rfl rfl hl.1 rfl (Nat.le_of_ble_eq_true rfl) dX4_removeAsh_17 ⟨Nat.le_of_ble_eq_true rfl, Nat.le_of_ble_eq_true rfl⟩ rfl rfl (fun H locs hP hD hS => ?_)
    have hP : va_P D vwCl (wX aX adC adH adF adT vX ++ (wC ty adC r17.2 ++ (wH ty adH adS vH ++ wS ty adS r8))) H := hP
    have hD : va_D A (wX aX adC adH adF adT vX ++ (wC ty adC r17.2 ++ (wH ty adH adS vH ++ wS ty adS r8))) := hD
    obtain ⟨r20, e20, h⟩ := kBd h
    refine kCallWI (As := [.int r17.1]) (rest := []) (sg := [wX aX adC adH adF adT vX, wC ty adC r17.2, wH ty adH adS vH, wS ty adS r8]) (sc := [wX aX adC adH adF adT vX, wH ty adH adS vH]) (s1 := [wX aX adC adH adF adT r20.2.1, wH ty adH adS r20.2.2]) (sn := [wX aX adC adH adF adT r20.2.1, wC ty adC r17.2, wH ty adH adS r20.2.2, wS ty adS r8]) ⟨hx, hb, hml, hown, hts⟩ (cX4_closeAct_ok l D ty aX adC adF adH adT adS H.size vX vH r17.1  r20 e20) (cwV 1 hts gX4_removeAsh_X4_closeAct rfl rfl rfl (by decide +kernel) ⟨Nat.le_of_ble_eq_true rfl, Nat.le_of_ble_eq_true rfl⟩) hP hK hD hS hA [0, 2] (by decide) rfl 4 0 rfl rfl rfl rfl hl.1 rfl (Nat.le_of_ble_eq_true rfl) dX4_removeAsh_20 ⟨Nat.le_of_ble_eq_true rfl, Nat.le_of_ble_eq_true rfl⟩ rfl rfl (fun H locs hP hD hS => ?_)
    have hP : va_P D vwCl (wX aX adC adH adF adT r20.2.1 ++ (wC ty adC r17.2 ++ (wH ty adH adS r20.2.2 ++ wS ty adS r8))) H := hP
    have hD : va_D A (wX aX adC adH adF adT r20.2.1 ++ (wC ty adC r17.2 ++ (wH ty adH adS r20.2.2 ++ wS ty adS r8))) := hD
    obtain rfl := Option.some.inj h
    subst hQ
    exact W.iret (v := r20.1) hx hb hr (fun t ht hW => ⟨⟨r20.1, (), rfl, rfl, kEnd ht hP⟩, hS.F ht⟩) hS.2.2 dX4_removeAsh_23
  exact E0 s.heap [] ls hP hD hS hl
def fX4_setCount (vX : KX) (vC : KC) (vH : KH) (vS : KS) (p1 : Int32) (p2 : Int32) : Option (Int32 × KX × KC × KH × KS) := (fX2_prepare vC vH vS).bind fun r8 => (fX0_putCount vC p1 p2).bind fun r18 => (fX4_closeAct vX vH r18.1).bind fun r21 => some (r21.1, r21.2.1, r18.2, r21.2.2, r8)
set_option maxHeartbeats 4000000 in
set_option maxRecDepth 100000 in
theorem cX4_setCount_ok (l : Launch) (D : va_G) (ty : kTy) (aX : Nat) (adC adF adH adT : Nat → Nat) (adS : Nat → Nat → Nat) (sz : Nat) (vX : KX) (vC : KC) (vH : KH) (vS : KS) (p1 : Int32) (p2 : Int32)  (res : Int32 × KX × KC × KH × KS) (h : fX4_setCount vX vC vH vS p1 p2 = some res) : kMI l yX4_setCount wsX4_setCount { frames := 5, cells := 0, slots := 0, locals := 125 } [.ref aX, .int p1, .int p2] D ty (wX aX adC adH adF adT vX ++ (wC ty adC vC ++ (wH ty adH adS vH ++ wS ty adS vS))) sz res.1 (wX aX adC adH adF adT res.2.1 ++ (wC ty adC res.2.2.1 ++ (wH ty adH adS res.2.2.2.1 ++ wS ty adS res.2.2.2.2))) := by
  refine Met.ofW (cc := cX4_setCount) (maxL := 3) (ret := (some .int)) (by decide) rfl ?_
  intro p e s m args below meth c s₁ B hml hv
  obtain ⟨rfl, hsz, hP, hK, hD0⟩ := hv
  have hx := B.exec
  have hb := B.bytes
  have hr := B.returns
  have hts := atoms_spec (ws := wsX4_setCount) B.pre
  have hown : s.vm.findClass RX4 = some m.cls := findClass_of_methodNamed B.named
  have hlocks := B.notSynchronized
  subst hsz
  have hD := hD0.self (sz := s.heap.size)
  generalize hAe : va_A (wX aX adC adH adF adT vX ++ (wC ty adC vC ++ (wH ty adH adS vH ++ wS ty adS vS))) s.heap.size = A at hD ⊢
  have hA : ∀ q : Nat, s.heap.size ≤ q → A q := fun q h => by rw [← hAe]; exact Or.inr h
  have hS : va_S A s.heap s.heap [] := va_S.rf
  refine kGenW (fun Q hQ => ?_)
  have wf0 := hts (.fieldLink RX4 19 "IceCoreDater" "log" "LIceCoreDater$Log;") (by decide +kernel)
  have hinX4 : ∀ w ∈ wsX40, w ∈ wsX4_setCount := by decide +kernel
  have wf2 := hts (.fieldLink RX4 10 "IceCoreDater" "core" "LIceCoreDater$Core;") (by decide +kernel)
  have hl := lv_entry ([.ref aX, .int p1, .int p2]) (n := 3) (Nat.le_of_ble_eq_true rfl)
  rw [lg_entry_eq]
  generalize (lg_sl ([.ref aX, .int p1, .int p2]) ++ List.replicate (3 - (lg_sl ([.ref aX, .int p1, .int p2])).length) Slot.unset).toArray = ls at hl ⊢
  have hl : lv_has ls 3 [(0, .ref aX), (1, .int p1), (2, .int p2)] := hl
  unfold fX4_setCount at h
  have E0 : ∀ (H : Heap) (locs : List Loc) (ls : Array Slot), va_P D vwCl (wX aX adC adH adF adT vX ++ (wC ty adC vC ++ (wH ty adH adS vH ++ wS ty adS vS))) H → va_D A (wX aX adC adH adF adT vX ++ (wC ty adC vC ++ (wH ty adH adS vH ++ wS ty adS vS))) → va_S A s.heap H locs → lv_has ls 3 [(0, .ref aX), (1, .int p1), (2, .int p2)] → W p l e (headSpec wsX4_setCount { frames := 5, cells := 0, slots := 0, locals := 125 }).room s m ([.ref aX, .int p1, .int p2] : List Value).toArray below meth c H locs 0 0 Q (F0 m 0 ls []) := by
    intro H locs ls hP hD hS hl
    refine lv_aload_n hx hb dX4_setCount_0 rfl (lv_at hl 0 rfl) ?_
    refine va_get (D := D) (ci := 4) (v := .ref (adH 0)) (C := RX4) (T := TX4) (N := 6) hx hb hts hinX4 hown hK.1 hP 0 rfl rfl 1 (by decide) wf0 (fun _ h9 => h9) rfl dX4_setCount_1 ?_
    refine lv_aload_n hx hb dX4_setCount_4 rfl (lv_at hl 0 rfl) ?_
    refine va_get (D := D) (ci := 4) (v := .ref (adC 0)) (C := RX4) (T := TX4) (N := 6) hx hb hts hinX4 hown hK.1 hP 0 rfl rfl 0 (by decide) wf2 (fun _ h9 => h9) rfl dX4_setCount_5 ?_
    obtain ⟨r8, e8, h⟩ := kBd h
    refine kCallWV (As := [.ref (adC 0)]) (rest := []) (sg := [wX aX adC adH adF adT vX, wC ty adC vC, wH ty adH adS vH, wS ty adS vS]) (sc := [wC ty adC vC, wH ty adH adS vH, wS ty adS vS]) (s1 := [wC ty adC vC, wH ty adH adS vH, wS ty adS r8]) (sn := [wX aX adC adH adF adT vX, wC ty adC vC, wH ty adH adS vH, wS ty adS r8]) ⟨hx, hb, hml, hown, hts⟩ (cX2_prepare_ok l D ty adC adH adS H.size vC vH vS  r8 e8) (cwV 1 hts gX4_setCount_X2_prepare rfl rfl rfl (by decide +kernel) ⟨Nat.le_of_ble_eq_true rfl, Nat.le_of_ble_eq_true rfl⟩) hP hK hD hS hA [1, 2, 3] (by decide) rfl 2 9 rfl rfl rfl rfl hl.1 rfl (Nat.le_of_ble_eq_true rfl) dX4_setCount_8 ⟨Nat.le_of_ble_eq_true rfl, Nat.le_of_ble_eq_true rfl⟩ rfl rfl (fun H locs hP hD hS => ?_)
    have hP : va_P D vwCl (wX aX adC adH adF adT vX ++ (wC ty adC vC ++ (wH ty adH adS vH ++ wS ty adS r8))) H := hP
    have hD : va_D A (wX aX adC adH adF adT vX ++ (wC ty adC vC ++ (wH ty adH adS vH ++ wS ty adS r8))) := hD
    refine lv_aload_n hx hb dX4_setCount_11 rfl (lv_at hl 0 rfl) ?_
    refine lv_aload_n hx hb dX4_setCount_12 rfl (lv_at hl 0 rfl) ?_
    refine va_get (D := D) (ci := 4) (v := .ref (adC 0)) (C := RX4) (T := TX4) (N := 6) hx hb hts hinX4 hown hK.1 hP 0 rfl rfl 0 (by decide) wf2 (fun _ h9 => h9) rfl dX4_setCount_13 ?_
    refine lv_iload_n hx hb dX4_setCount_16 rfl (lv_at hl 1 rfl) ?_
    refine lv_iload_n hx hb dX4_setCount_17 rfl (lv_at hl 2 rfl) ?_
    obtain ⟨r18, e18, h⟩ := kBd h
    refine kCallWI (As := [.int p1, .int p2]) (rest := [.ref aX]) (sg := [wX aX adC adH adF adT vX, wC ty adC vC, wH ty adH adS vH, wS ty adS r8]) (sc := [wC ty adC vC]) (s1 := [wC ty adC r18.2]) (sn := [wX aX adC adH adF adT vX, wC ty adC r18.2, wH ty adH adS vH, wS ty adS r8]) ⟨hx, hb, hml, hown, hts⟩ (cX0_putCount_ok l D ty adC H.size vC p1 p2  r18 e18) (cwV 2 hts gX4_setCount_X0_putCount rfl rfl rfl (by decide +kernel) ⟨Nat.le_of_ble_eq_true rfl, Nat.le_of_ble_eq_true rfl⟩) hP hK hD hS hA [1] (by decide) rfl 0 1 rfl rfl rfl rfl hl.1 rfl (Nat.le_of_ble_eq_true rfl) dX4_setCount_18 ⟨Nat.le_of_ble_eq_true rfl, Nat.le_of_ble_eq_true rfl⟩ rfl rfl (fun H locs hP hD hS => ?_)
    have hP : va_P D vwCl (wX aX adC adH adF adT vX ++ (wC ty adC r18.2 ++ (wH ty adH adS vH ++ wS ty adS r8))) H := hP
    have hD : va_D A (wX aX adC adH adF adT vX ++ (wC ty adC r18.2 ++ (wH ty adH adS vH ++ wS ty adS r8))) := hD
    obtain ⟨r21, e21, h⟩ := kBd h
    refine kCallWI (As := [.int r18.1]) (rest := []) (sg := [wX aX adC adH adF adT vX, wC ty adC r18.2, wH ty adH adS vH, wS ty adS r8]) (sc := [wX aX adC adH adF adT vX, wH ty adH adS vH]) (s1 := [wX aX adC adH adF adT r21.2.1, wH ty adH adS r21.2.2]) (sn := [wX aX adC adH adF adT r21.2.1, wC ty adC r18.2, wH ty adH adS r21.2.2, wS ty adS r8]) ⟨hx, hb, hml, hown, hts⟩ (cX4_closeAct_ok l D ty aX adC adF adH adT adS H.size vX vH r18.1  r21 e21) (cwV 1 hts gX4_setCount_X4_closeAct rfl rfl rfl (by decide +kernel) ⟨Nat.le_of_ble_eq_true rfl, Nat.le_of_ble_eq_true rfl⟩) hP hK hD hS hA [0, 2] (by decide) rfl 4 0 rfl rfl rfl rfl hl.1 rfl (Nat.le_of_ble_eq_true rfl) dX4_setCount_21 ⟨Nat.le_of_ble_eq_true rfl, Nat.le_of_ble_eq_true rfl⟩ rfl rfl (fun H locs hP hD hS => ?_)
    have hP : va_P D vwCl (wX aX adC adH adF adT r21.2.1 ++ (wC ty adC r18.2 ++ (wH ty adH adS r21.2.2 ++ wS ty adS r8))) H := hP
    have hD : va_D A (wX aX adC adH adF adT r21.2.1 ++ (wC ty adC r18.2 ++ (wH ty adH adS r21.2.2 ++ wS ty adS r8))) := hD
    obtain rfl := Option.some.inj h
    subst hQ
    exact W.iret (v := r21.1) hx hb hr (fun t ht hW => ⟨⟨r21.1, (), rfl, rfl, kEnd ht hP⟩, hS.F ht⟩) hS.2.2 dX4_setCount_24
  exact E0 s.heap [] ls hP hD hS hl
def fX4_tune (vX : KX) (vC : KC) (vF : KF) (vH : KH) (vS : KS) : Option (Int32 × KX × KC × KF × KH × KS) := (fX2_prepare vC vH vS).bind fun r8 => (fX0_fitCorrections vC vF).bind fun r20 => (fX4_closeAct vX vH r20.1).bind fun r23 => some (r23.1, r23.2.1, r20.2.1, r20.2.2, r23.2.2, r8)
set_option maxHeartbeats 4000000 in
set_option maxRecDepth 100000 in
theorem cX4_tune_ok (l : Launch) (D : va_G) (ty : kTy) (aX : Nat) (adC adF adH adT : Nat → Nat) (adS : Nat → Nat → Nat) (sz : Nat) (vX : KX) (vC : KC) (vF : KF) (vH : KH) (vS : KS)  (res : Int32 × KX × KC × KF × KH × KS) (h : fX4_tune vX vC vF vH vS = some res) : kMI l yX4_tune wsX4_tune { frames := 5, cells := 0, slots := 0, locals := 129 } [.ref aX] D ty (wX aX adC adH adF adT vX ++ (wC ty adC vC ++ (wF ty adF vF ++ (wH ty adH adS vH ++ wS ty adS vS)))) sz res.1 (wX aX adC adH adF adT res.2.1 ++ (wC ty adC res.2.2.1 ++ (wF ty adF res.2.2.2.1 ++ (wH ty adH adS res.2.2.2.2.1 ++ wS ty adS res.2.2.2.2.2)))) := by
  refine Met.ofW (cc := cX4_tune) (maxL := 1) (ret := (some .int)) (by decide) rfl ?_
  intro p e s m args below meth c s₁ B hml hv
  obtain ⟨rfl, hsz, hP, hK, hD0⟩ := hv
  have hx := B.exec
  have hb := B.bytes
  have hr := B.returns
  have hts := atoms_spec (ws := wsX4_tune) B.pre
  have hown : s.vm.findClass RX4 = some m.cls := findClass_of_methodNamed B.named
  have hlocks := B.notSynchronized
  subst hsz
  have hD := hD0.self (sz := s.heap.size)
  generalize hAe : va_A (wX aX adC adH adF adT vX ++ (wC ty adC vC ++ (wF ty adF vF ++ (wH ty adH adS vH ++ wS ty adS vS)))) s.heap.size = A at hD ⊢
  have hA : ∀ q : Nat, s.heap.size ≤ q → A q := fun q h => by rw [← hAe]; exact Or.inr h
  have hS : va_S A s.heap s.heap [] := va_S.rf
  refine kGenW (fun Q hQ => ?_)
  have wf0 := hts (.fieldLink RX4 19 "IceCoreDater" "log" "LIceCoreDater$Log;") (by decide +kernel)
  have hinX4 : ∀ w ∈ wsX40, w ∈ wsX4_tune := by decide +kernel
  have wf2 := hts (.fieldLink RX4 10 "IceCoreDater" "core" "LIceCoreDater$Core;") (by decide +kernel)
  have wf3 := hts (.fieldLink RX4 26 "IceCoreDater" "falling" "LIceCoreDater$Falling;") (by decide +kernel)
  have hl := lv_entry ([.ref aX]) (n := 1) (Nat.le_of_ble_eq_true rfl)
  rw [lg_entry_eq]
  generalize (lg_sl ([.ref aX]) ++ List.replicate (1 - (lg_sl ([.ref aX])).length) Slot.unset).toArray = ls at hl ⊢
  have hl : lv_has ls 1 [(0, .ref aX)] := hl
  unfold fX4_tune at h
  have E0 : ∀ (H : Heap) (locs : List Loc) (ls : Array Slot), va_P D vwCl (wX aX adC adH adF adT vX ++ (wC ty adC vC ++ (wF ty adF vF ++ (wH ty adH adS vH ++ wS ty adS vS)))) H → va_D A (wX aX adC adH adF adT vX ++ (wC ty adC vC ++ (wF ty adF vF ++ (wH ty adH adS vH ++ wS ty adS vS)))) → va_S A s.heap H locs → lv_has ls 1 [(0, .ref aX)] → W p l e (headSpec wsX4_tune { frames := 5, cells := 0, slots := 0, locals := 129 }).room s m ([.ref aX] : List Value).toArray below meth c H locs 0 0 Q (F0 m 0 ls []) := by
    intro H locs ls hP hD hS hl
    refine lv_aload_n hx hb dX4_tune_0 rfl (lv_at hl 0 rfl) ?_
    refine va_get (D := D) (ci := 4) (v := .ref (adH 0)) (C := RX4) (T := TX4) (N := 6) hx hb hts hinX4 hown hK.1 hP 0 rfl rfl 1 (by decide) wf0 (fun _ h9 => h9) rfl dX4_tune_1 ?_
    refine lv_aload_n hx hb dX4_tune_4 rfl (lv_at hl 0 rfl) ?_
    refine va_get (D := D) (ci := 4) (v := .ref (adC 0)) (C := RX4) (T := TX4) (N := 6) hx hb hts hinX4 hown hK.1 hP 0 rfl rfl 0 (by decide) wf2 (fun _ h9 => h9) rfl dX4_tune_5 ?_
    obtain ⟨r8, e8, h⟩ := kBd h
    refine kCallWV (As := [.ref (adC 0)]) (rest := []) (sg := [wX aX adC adH adF adT vX, wC ty adC vC, wF ty adF vF, wH ty adH adS vH, wS ty adS vS]) (sc := [wC ty adC vC, wH ty adH adS vH, wS ty adS vS]) (s1 := [wC ty adC vC, wH ty adH adS vH, wS ty adS r8]) (sn := [wX aX adC adH adF adT vX, wC ty adC vC, wF ty adF vF, wH ty adH adS vH, wS ty adS r8]) ⟨hx, hb, hml, hown, hts⟩ (cX2_prepare_ok l D ty adC adH adS H.size vC vH vS  r8 e8) (cwV 1 hts gX4_tune_X2_prepare rfl rfl rfl (by decide +kernel) ⟨Nat.le_of_ble_eq_true rfl, Nat.le_of_ble_eq_true rfl⟩) hP hK hD hS hA [1, 3, 4] (by decide) rfl 2 12 rfl rfl rfl rfl hl.1 rfl (Nat.le_of_ble_eq_true rfl) dX4_tune_8 ⟨Nat.le_of_ble_eq_true rfl, Nat.le_of_ble_eq_true rfl⟩ rfl rfl (fun H locs hP hD hS => ?_)
    have hP : va_P D vwCl (wX aX adC adH adF adT vX ++ (wC ty adC vC ++ (wF ty adF vF ++ (wH ty adH adS vH ++ wS ty adS r8)))) H := hP
    have hD : va_D A (wX aX adC adH adF adT vX ++ (wC ty adC vC ++ (wF ty adF vF ++ (wH ty adH adS vH ++ wS ty adS r8)))) := hD
    refine lv_aload_n hx hb dX4_tune_11 rfl (lv_at hl 0 rfl) ?_
    refine lv_aload_n hx hb dX4_tune_12 rfl (lv_at hl 0 rfl) ?_
    refine va_get (D := D) (ci := 4) (v := .ref (adC 0)) (C := RX4) (T := TX4) (N := 6) hx hb hts hinX4 hown hK.1 hP 0 rfl rfl 0 (by decide) wf2 (fun _ h9 => h9) rfl dX4_tune_13 ?_
    refine lv_aload_n hx hb dX4_tune_16 rfl (lv_at hl 0 rfl) ?_
    refine va_get (D := D) (ci := 4) (v := .ref (adF 0)) (C := RX4) (T := TX4) (N := 6) hx hb hts hinX4 hown hK.1 hP 0 rfl rfl 2 (by decide) wf3 (fun _ h9 => h9) rfl dX4_tune_17 ?_
    obtain ⟨r20, e20, h⟩ := kBd h
    refine kCallWI (As := [.ref (adF 0)]) (rest := [.ref aX]) (sg := [wX aX adC adH adF adT vX, wC ty adC vC, wF ty adF vF, wH ty adH adS vH, wS ty adS r8]) (sc := [wC ty adC vC, wF ty adF vF]) (s1 := [wC ty adC r20.2.1, wF ty adF r20.2.2]) (sn := [wX aX adC adH adF adT vX, wC ty adC r20.2.1, wF ty adF r20.2.2, wH ty adH adS vH, wS ty adS r8]) ⟨hx, hb, hml, hown, hts⟩ (cX0_fitCorrections_ok l D ty adC adF H.size vC vF  r20 e20) (cwV 1 hts gX4_tune_X0_fitCorrections rfl rfl rfl (by decide +kernel) ⟨Nat.le_of_ble_eq_true rfl, Nat.le_of_ble_eq_true rfl⟩) hP hK hD hS hA [1, 2] (by decide) rfl 0 1 rfl rfl rfl rfl hl.1 rfl (Nat.le_of_ble_eq_true rfl) dX4_tune_20 ⟨Nat.le_of_ble_eq_true rfl, Nat.le_of_ble_eq_true rfl⟩ rfl rfl (fun H locs hP hD hS => ?_)
    have hP : va_P D vwCl (wX aX adC adH adF adT vX ++ (wC ty adC r20.2.1 ++ (wF ty adF r20.2.2 ++ (wH ty adH adS vH ++ wS ty adS r8)))) H := hP
    have hD : va_D A (wX aX adC adH adF adT vX ++ (wC ty adC r20.2.1 ++ (wF ty adF r20.2.2 ++ (wH ty adH adS vH ++ wS ty adS r8)))) := hD
    obtain ⟨r23, e23, h⟩ := kBd h
    refine kCallWI (As := [.int r20.1]) (rest := []) (sg := [wX aX adC adH adF adT vX, wC ty adC r20.2.1, wF ty adF r20.2.2, wH ty adH adS vH, wS ty adS r8]) (sc := [wX aX adC adH adF adT vX, wH ty adH adS vH]) (s1 := [wX aX adC adH adF adT r23.2.1, wH ty adH adS r23.2.2]) (sn := [wX aX adC adH adF adT r23.2.1, wC ty adC r20.2.1, wF ty adF r20.2.2, wH ty adH adS r23.2.2, wS ty adS r8]) ⟨hx, hb, hml, hown, hts⟩ (cX4_closeAct_ok l D ty aX adC adF adH adT adS H.size vX vH r20.1  r23 e23) (cwV 1 hts gX4_tune_X4_closeAct rfl rfl rfl (by decide +kernel) ⟨Nat.le_of_ble_eq_true rfl, Nat.le_of_ble_eq_true rfl⟩) hP hK hD hS hA [0, 3] (by decide) rfl 4 0 rfl rfl rfl rfl hl.1 rfl (Nat.le_of_ble_eq_true rfl) dX4_tune_23 ⟨Nat.le_of_ble_eq_true rfl, Nat.le_of_ble_eq_true rfl⟩ rfl rfl (fun H locs hP hD hS => ?_)
    have hP : va_P D vwCl (wX aX adC adH adF adT r23.2.1 ++ (wC ty adC r20.2.1 ++ (wF ty adF r20.2.2 ++ (wH ty adH adS r23.2.2 ++ wS ty adS r8)))) H := hP
    have hD : va_D A (wX aX adC adH adF adT r23.2.1 ++ (wC ty adC r20.2.1 ++ (wF ty adF r20.2.2 ++ (wH ty adH adS r23.2.2 ++ wS ty adS r8)))) := hD
    obtain rfl := Option.some.inj h
    subst hQ
    exact W.iret (v := r23.1) hx hb hr (fun t ht hW => ⟨⟨r23.1, (), rfl, rfl, kEnd ht hP⟩, hS.F ht⟩) hS.2.2 dX4_tune_26
  exact E0 s.heap [] ls hP hD hS hl
def fX4_undo (vX : KX) (vC : KC) (vH : KH) (vS : KS) : Option (Int32 × KC × KH) := (fX2_restore vC vH vS).bind fun r8 => some (r8.1, r8.2.1, r8.2.2)
set_option maxHeartbeats 4000000 in
set_option maxRecDepth 100000 in
theorem cX4_undo_ok (l : Launch) (D : va_G) (ty : kTy) (aX : Nat) (adC adF adH adT : Nat → Nat) (adS : Nat → Nat → Nat) (sz : Nat) (vX : KX) (vC : KC) (vH : KH) (vS : KS)  (res : Int32 × KC × KH) (h : fX4_undo vX vC vH vS = some res) : kMI l yX4_undo wsX4_undo { frames := 3, cells := 0, slots := 0, locals := 83 } [.ref aX] D ty (wX aX adC adH adF adT vX ++ (wC ty adC vC ++ (wH ty adH adS vH ++ wS ty adS vS))) sz res.1 (wX aX adC adH adF adT vX ++ (wC ty adC res.2.1 ++ (wH ty adH adS res.2.2 ++ wS ty adS vS))) := by
  refine Met.ofW (cc := cX4_undo) (maxL := 1) (ret := (some .int)) (by decide) rfl ?_
  intro p e s m args below meth c s₁ B hml hv
  obtain ⟨rfl, hsz, hP, hK, hD0⟩ := hv
  have hx := B.exec
  have hb := B.bytes
  have hr := B.returns
  have hts := atoms_spec (ws := wsX4_undo) B.pre
  have hown : s.vm.findClass RX4 = some m.cls := findClass_of_methodNamed B.named
  have hlocks := B.notSynchronized
  subst hsz
  have hD := hD0.self (sz := s.heap.size)
  generalize hAe : va_A (wX aX adC adH adF adT vX ++ (wC ty adC vC ++ (wH ty adH adS vH ++ wS ty adS vS))) s.heap.size = A at hD ⊢
  have hA : ∀ q : Nat, s.heap.size ≤ q → A q := fun q h => by rw [← hAe]; exact Or.inr h
  have hS : va_S A s.heap s.heap [] := va_S.rf
  refine kGenW (fun Q hQ => ?_)
  have wf0 := hts (.fieldLink RX4 19 "IceCoreDater" "log" "LIceCoreDater$Log;") (by decide +kernel)
  have hinX4 : ∀ w ∈ wsX40, w ∈ wsX4_undo := by decide +kernel
  have wf2 := hts (.fieldLink RX4 10 "IceCoreDater" "core" "LIceCoreDater$Core;") (by decide +kernel)
  have hl := lv_entry ([.ref aX]) (n := 1) (Nat.le_of_ble_eq_true rfl)
  rw [lg_entry_eq]
  generalize (lg_sl ([.ref aX]) ++ List.replicate (1 - (lg_sl ([.ref aX])).length) Slot.unset).toArray = ls at hl ⊢
  have hl : lv_has ls 1 [(0, .ref aX)] := hl
  unfold fX4_undo at h
  have E0 : ∀ (H : Heap) (locs : List Loc) (ls : Array Slot), va_P D vwCl (wX aX adC adH adF adT vX ++ (wC ty adC vC ++ (wH ty adH adS vH ++ wS ty adS vS))) H → va_D A (wX aX adC adH adF adT vX ++ (wC ty adC vC ++ (wH ty adH adS vH ++ wS ty adS vS))) → va_S A s.heap H locs → lv_has ls 1 [(0, .ref aX)] → W p l e (headSpec wsX4_undo { frames := 3, cells := 0, slots := 0, locals := 83 }).room s m ([.ref aX] : List Value).toArray below meth c H locs 0 0 Q (F0 m 0 ls []) := by
    intro H locs ls hP hD hS hl
    refine lv_aload_n hx hb dX4_undo_0 rfl (lv_at hl 0 rfl) ?_
    refine va_get (D := D) (ci := 4) (v := .ref (adH 0)) (C := RX4) (T := TX4) (N := 6) hx hb hts hinX4 hown hK.1 hP 0 rfl rfl 1 (by decide) wf0 (fun _ h9 => h9) rfl dX4_undo_1 ?_
    refine lv_aload_n hx hb dX4_undo_4 rfl (lv_at hl 0 rfl) ?_
    refine va_get (D := D) (ci := 4) (v := .ref (adC 0)) (C := RX4) (T := TX4) (N := 6) hx hb hts hinX4 hown hK.1 hP 0 rfl rfl 0 (by decide) wf2 (fun _ h9 => h9) rfl dX4_undo_5 ?_
    obtain ⟨r8, e8, h⟩ := kBd h
    refine kCallWI (As := [.ref (adC 0)]) (rest := []) (sg := [wX aX adC adH adF adT vX, wC ty adC vC, wH ty adH adS vH, wS ty adS vS]) (sc := [wC ty adC vC, wH ty adH adS vH, wS ty adS vS]) (s1 := [wC ty adC r8.2.1, wH ty adH adS r8.2.2, wS ty adS vS]) (sn := [wX aX adC adH adF adT vX, wC ty adC r8.2.1, wH ty adH adS r8.2.2, wS ty adS vS]) ⟨hx, hb, hml, hown, hts⟩ (cX2_restore_ok l D ty adC adH adS H.size vC vH vS  r8 e8) (cwV 1 hts gX4_undo_X2_restore rfl rfl rfl (by decide +kernel) ⟨Nat.le_of_ble_eq_true rfl, Nat.le_of_ble_eq_true rfl⟩) hP hK hD hS hA [1, 2, 3] (by decide) rfl 2 9 rfl rfl rfl rfl hl.1 rfl (Nat.le_of_ble_eq_true rfl) dX4_undo_8 ⟨Nat.le_of_ble_eq_true rfl, Nat.le_of_ble_eq_true rfl⟩ rfl rfl (fun H locs hP hD hS => ?_)
    have hP : va_P D vwCl (wX aX adC adH adF adT vX ++ (wC ty adC r8.2.1 ++ (wH ty adH adS r8.2.2 ++ wS ty adS vS))) H := hP
    have hD : va_D A (wX aX adC adH adF adT vX ++ (wC ty adC r8.2.1 ++ (wH ty adH adS r8.2.2 ++ wS ty adS vS))) := hD
    obtain rfl := Option.some.inj h
    subst hQ
    exact W.iret (v := r8.1) hx hb hr (fun t ht hW => ⟨⟨r8.1, (), rfl, rfl, kEnd ht hP⟩, hS.F ht⟩) hS.2.2 dX4_undo_11
  exact E0 s.heap [] ls hP hD hS hl
def fX4_layers (vX : KX) (vC : KC) : Option (Int32) := some vC.1
set_option maxHeartbeats 4000000 in
set_option maxRecDepth 100000 in
theorem cX4_layers_ok (l : Launch) (D : va_G) (ty : kTy) (aX : Nat) (adC adF adH adT : Nat → Nat) (sz : Nat) (vX : KX) (vC : KC)  (res : Int32) (h : fX4_layers vX vC = some res) : kMI l yX4_layers wsX4_layers { frames := 0, cells := 0, slots := 0, locals := 0 } [.ref aX] D ty (wX aX adC adH adF adT vX ++ wC ty adC vC) sz res (wX aX adC adH adF adT vX ++ wC ty adC vC) := by
  refine Met.ofW (cc := cX4_layers) (maxL := 1) (ret := (some .int)) (by decide) rfl ?_
  intro p e s m args below meth c s₁ B hml hv
  obtain ⟨rfl, hsz, hP, hK, hD0⟩ := hv
  have hx := B.exec
  have hb := B.bytes
  have hr := B.returns
  have hts := atoms_spec (ws := wsX4_layers) B.pre
  have hown : s.vm.findClass RX4 = some m.cls := findClass_of_methodNamed B.named
  have hlocks := B.notSynchronized
  subst hsz
  have hD := hD0.self (sz := s.heap.size)
  generalize hAe : va_A (wX aX adC adH adF adT vX ++ wC ty adC vC) s.heap.size = A at hD ⊢
  have hA : ∀ q : Nat, s.heap.size ≤ q → A q := fun q h => by rw [← hAe]; exact Or.inr h
  have hS : va_S A s.heap s.heap [] := va_S.rf
  refine kGenW (fun Q hQ => ?_)
  have wf0 := hts (.fieldLink RX4 10 "IceCoreDater" "core" "LIceCoreDater$Core;") (by decide +kernel)
  have hinX4 : ∀ w ∈ wsX40, w ∈ wsX4_layers := by decide +kernel
  have wf2 := hts (.fieldLink RX4 125 "IceCoreDater$Core" "size" "I") (by decide +kernel)
  have hinX0 : ∀ w ∈ wsX00, w ∈ wsX4_layers := by decide +kernel
  have hl := lv_entry ([.ref aX]) (n := 1) (Nat.le_of_ble_eq_true rfl)
  rw [lg_entry_eq]
  generalize (lg_sl ([.ref aX]) ++ List.replicate (1 - (lg_sl ([.ref aX])).length) Slot.unset).toArray = ls at hl ⊢
  have hl : lv_has ls 1 [(0, .ref aX)] := hl
  unfold fX4_layers at h
  have E0 : ∀ (H : Heap) (locs : List Loc) (ls : Array Slot), va_P D vwCl (wX aX adC adH adF adT vX ++ wC ty adC vC) H → va_D A (wX aX adC adH adF adT vX ++ wC ty adC vC) → va_S A s.heap H locs → lv_has ls 1 [(0, .ref aX)] → W p l e (headSpec wsX4_layers { frames := 0, cells := 0, slots := 0, locals := 0 }).room s m ([.ref aX] : List Value).toArray below meth c H locs 0 0 Q (F0 m 0 ls []) := by
    intro H locs ls hP hD hS hl
    refine lv_aload_n hx hb dX4_layers_0 rfl (lv_at hl 0 rfl) ?_
    refine va_get (D := D) (ci := 4) (v := .ref (adC 0)) (C := RX4) (T := TX4) (N := 6) hx hb hts hinX4 hown hK.1 hP 0 rfl rfl 0 (by decide) wf0 (fun _ h9 => h9) rfl dX4_layers_1 ?_
    refine va_get (D := D) (ci := 0) (v := .int vC.1) (C := RX0) (T := TX0) (N := 12) hx hb hts hinX0 hown hK.1 hP 1 rfl rfl 0 (by decide) wf2 (fun _ h9 => h9) rfl dX4_layers_4 ?_
    obtain rfl := Option.some.inj h
    subst hQ
    exact W.iret (v := vC.1) hx hb hr (fun t ht hW => ⟨⟨vC.1, (), rfl, rfl, kEnd ht hP⟩, hS.F ht⟩) hS.2.2 dX4_layers_7
  exact E0 s.heap [] ls hP hD hS hl
def fX4_depth (vX : KX) (vC : KC) : Option (Int32) := (fX0_bottom vC).bind fun r4 => some r4
set_option maxHeartbeats 4000000 in
set_option maxRecDepth 100000 in
theorem cX4_depth_ok (l : Launch) (D : va_G) (ty : kTy) (aX : Nat) (adC adF adH adT : Nat → Nat) (sz : Nat) (vX : KX) (vC : KC)  (res : Int32) (h : fX4_depth vX vC = some res) : kMI l yX4_depth wsX4_depth { frames := 2, cells := 0, slots := 0, locals := 43 } [.ref aX] D ty (wX aX adC adH adF adT vX ++ wC ty adC vC) sz res (wX aX adC adH adF adT vX ++ wC ty adC vC) := by
  refine Met.ofW (cc := cX4_depth) (maxL := 1) (ret := (some .int)) (by decide) rfl ?_
  intro p e s m args below meth c s₁ B hml hv
  obtain ⟨rfl, hsz, hP, hK, hD0⟩ := hv
  have hx := B.exec
  have hb := B.bytes
  have hr := B.returns
  have hts := atoms_spec (ws := wsX4_depth) B.pre
  have hown : s.vm.findClass RX4 = some m.cls := findClass_of_methodNamed B.named
  have hlocks := B.notSynchronized
  subst hsz
  have hD := hD0.self (sz := s.heap.size)
  generalize hAe : va_A (wX aX adC adH adF adT vX ++ wC ty adC vC) s.heap.size = A at hD ⊢
  have hA : ∀ q : Nat, s.heap.size ≤ q → A q := fun q h => by rw [← hAe]; exact Or.inr h
  have hS : va_S A s.heap s.heap [] := va_S.rf
  refine kGenW (fun Q hQ => ?_)
  have wf0 := hts (.fieldLink RX4 10 "IceCoreDater" "core" "LIceCoreDater$Core;") (by decide +kernel)
  have hinX4 : ∀ w ∈ wsX40, w ∈ wsX4_depth := by decide +kernel
  have hl := lv_entry ([.ref aX]) (n := 1) (Nat.le_of_ble_eq_true rfl)
  rw [lg_entry_eq]
  generalize (lg_sl ([.ref aX]) ++ List.replicate (1 - (lg_sl ([.ref aX])).length) Slot.unset).toArray = ls at hl ⊢
  have hl : lv_has ls 1 [(0, .ref aX)] := hl
  unfold fX4_depth at h
  have E0 : ∀ (H : Heap) (locs : List Loc) (ls : Array Slot), va_P D vwCl (wX aX adC adH adF adT vX ++ wC ty adC vC) H → va_D A (wX aX adC adH adF adT vX ++ wC ty adC vC) → va_S A s.heap H locs → lv_has ls 1 [(0, .ref aX)] → W p l e (headSpec wsX4_depth { frames := 2, cells := 0, slots := 0, locals := 43 }).room s m ([.ref aX] : List Value).toArray below meth c H locs 0 0 Q (F0 m 0 ls []) := by
    intro H locs ls hP hD hS hl
    refine lv_aload_n hx hb dX4_depth_0 rfl (lv_at hl 0 rfl) ?_
    refine va_get (D := D) (ci := 4) (v := .ref (adC 0)) (C := RX4) (T := TX4) (N := 6) hx hb hts hinX4 hown hK.1 hP 0 rfl rfl 0 (by decide) wf0 (fun _ h9 => h9) rfl dX4_depth_1 ?_
    obtain ⟨r4, e4, h⟩ := kBd h
    refine kCallVI (As := []) (rest := []) (wc := wC ty adC vC) (w1 := wC ty adC vC) (wn := wX aX adC adH adF adT vX ++ wC ty adC vC) ⟨hx, hb, hml, hown, hts⟩ (cX0_bottom_ok l D ty adC H.size vC  r4 e4) (cwV 0 hts gX4_depth_X0_bottom rfl rfl rfl (by decide +kernel) ⟨Nat.le_of_ble_eq_true rfl, Nat.le_of_ble_eq_true rfl⟩) hP hK hD hS hA [1, 2, 3, 4, 5, 6, 7, 8] (by decide +kernel) rfl 0 1 rfl rfl rfl rfl hl.1 rfl (Nat.le_of_ble_eq_true rfl) dX4_depth_4 ⟨Nat.le_of_ble_eq_true rfl, Nat.le_of_ble_eq_true rfl⟩ rfl rfl (fun H locs hP hD hS => ?_)
    obtain rfl := Option.some.inj h
    subst hQ
    exact W.iret (v := r4) hx hb hr (fun t ht hW => ⟨⟨r4, (), rfl, rfl, kEnd ht hP⟩, hS.F ht⟩) hS.2.2 dX4_depth_7
  exact E0 s.heap [] ls hP hD hS hl
def fX4_thickness (vX : KX) (vC : KC) (p1 : Int32) : Option (Int32) := (fX0_has vC p1).bind fun r5 => if r5 = (0 : Int32) then (some (-1000000001 : Int32)) else (if kIn p1 16 = true then (some (vC.2.2.2.2.2.1 p1.toNatClampNeg)) else none)
set_option maxHeartbeats 4000000 in
set_option maxRecDepth 100000 in
theorem cX4_thickness_ok (l : Launch) (D : va_G) (ty : kTy) (aX : Nat) (adC adF adH adT : Nat → Nat) (sz : Nat) (vX : KX) (vC : KC) (p1 : Int32)  (res : Int32) (h : fX4_thickness vX vC p1 = some res) : kMI l yX4_thickness wsX4_thickness { frames := 1, cells := 0, slots := 0, locals := 21 } [.ref aX, .int p1] D ty (wX aX adC adH adF adT vX ++ wC ty adC vC) sz res (wX aX adC adH adF adT vX ++ wC ty adC vC) := by
  refine Met.ofW (cc := cX4_thickness) (maxL := 2) (ret := (some .int)) (by decide) rfl ?_
  intro p e s m args below meth c s₁ B hml hv
  obtain ⟨rfl, hsz, hP, hK, hD0⟩ := hv
  have hx := B.exec
  have hb := B.bytes
  have hr := B.returns
  have hts := atoms_spec (ws := wsX4_thickness) B.pre
  have hown : s.vm.findClass RX4 = some m.cls := findClass_of_methodNamed B.named
  have hlocks := B.notSynchronized
  subst hsz
  have hD := hD0.self (sz := s.heap.size)
  generalize hAe : va_A (wX aX adC adH adF adT vX ++ wC ty adC vC) s.heap.size = A at hD ⊢
  have hA : ∀ q : Nat, s.heap.size ≤ q → A q := fun q h => by rw [← hAe]; exact Or.inr h
  have hS : va_S A s.heap s.heap [] := va_S.rf
  refine kGenW (fun Q hQ => ?_)
  have wf0 := hts (.fieldLink RX4 10 "IceCoreDater" "core" "LIceCoreDater$Core;") (by decide +kernel)
  have hinX4 : ∀ w ∈ wsX40, w ∈ wsX4_thickness := by decide +kernel
  have wf2 := hts (.constant RX4 139 (-1000000001)) (by decide +kernel)
  have wf3 := hts (.fieldLink RX4 135 "IceCoreDater$Core" "thickness" "[I") (by decide +kernel)
  have hinX0 : ∀ w ∈ wsX00, w ∈ wsX4_thickness := by decide +kernel
  have hl := lv_entry ([.ref aX, .int p1]) (n := 2) (Nat.le_of_ble_eq_true rfl)
  rw [lg_entry_eq]
  generalize (lg_sl ([.ref aX, .int p1]) ++ List.replicate (2 - (lg_sl ([.ref aX, .int p1])).length) Slot.unset).toArray = ls at hl ⊢
  have hl : lv_has ls 2 [(0, .ref aX), (1, .int p1)] := hl
  unfold fX4_thickness at h
  have E0 : ∀ (H : Heap) (locs : List Loc) (ls : Array Slot), va_P D vwCl (wX aX adC adH adF adT vX ++ wC ty adC vC) H → va_D A (wX aX adC adH adF adT vX ++ wC ty adC vC) → va_S A s.heap H locs → lv_has ls 2 [(0, .ref aX), (1, .int p1)] → W p l e (headSpec wsX4_thickness { frames := 1, cells := 0, slots := 0, locals := 21 }).room s m ([.ref aX, .int p1] : List Value).toArray below meth c H locs 0 0 Q (F0 m 0 ls []) := by
    intro H locs ls hP hD hS hl
    refine lv_aload_n hx hb dX4_thickness_0 rfl (lv_at hl 0 rfl) ?_
    refine va_get (D := D) (ci := 4) (v := .ref (adC 0)) (C := RX4) (T := TX4) (N := 6) hx hb hts hinX4 hown hK.1 hP 0 rfl rfl 0 (by decide) wf0 (fun _ h9 => h9) rfl dX4_thickness_1 ?_
    refine lv_iload_n hx hb dX4_thickness_4 rfl (lv_at hl 1 rfl) ?_
    obtain ⟨r5, e5, h⟩ := kBd h
    refine kCallVI (As := [.int p1]) (rest := []) (wc := wC ty adC vC) (w1 := wC ty adC vC) (wn := wX aX adC adH adF adT vX ++ wC ty adC vC) ⟨hx, hb, hml, hown, hts⟩ (cX0_has_ok l D ty adC H.size vC p1  r5 e5) (cwV 1 hts gX4_thickness_X0_has rfl rfl rfl (by decide +kernel) ⟨Nat.le_of_ble_eq_true rfl, Nat.le_of_ble_eq_true rfl⟩) hP hK hD hS hA [1, 2, 3, 4, 5, 6, 7, 8] (by decide +kernel) rfl 0 1 rfl rfl rfl rfl hl.1 rfl (Nat.le_of_ble_eq_true rfl) dX4_thickness_5 ⟨Nat.le_of_ble_eq_true rfl, Nat.le_of_ble_eq_true rfl⟩ rfl rfl (fun H locs hP hD hS => ?_)
    refine lv_if_eq (tgt := 23) hx hb dX4_thickness_8 (by decide) (fun c8 => ?_) (fun c8 => ?_)
    · have h := kT h c8
      refine lv_ldc hx hb hown wf2 dX4_thickness_23 ?_
      obtain rfl := Option.some.inj h
      subst hQ
      exact W.iret (v := (-1000000001 : Int32)) hx hb hr (fun t ht hW => ⟨⟨(-1000000001 : Int32), (), rfl, rfl, kEnd ht hP⟩, hS.F ht⟩) hS.2.2 dX4_thickness_25
    · have h := kF h c8
      refine lv_aload_n hx hb dX4_thickness_11 rfl (lv_at hl 0 rfl) ?_
      refine va_get (D := D) (ci := 4) (v := .ref (adC 0)) (C := RX4) (T := TX4) (N := 6) hx hb hts hinX4 hown hK.1 hP 0 rfl rfl 0 (by decide) wf0 (fun _ h9 => h9) rfl dX4_thickness_12 ?_
      refine va_get (D := D) (ci := 0) (v := .ref (adC 1)) (C := RX0) (T := TX0) (N := 12) hx hb hts hinX0 hown hK.1 hP 1 rfl rfl 5 (by decide) wf3 (fun _ h9 => h9) rfl dX4_thickness_15 ?_
      refine lv_iload_n hx hb dX4_thickness_18 rfl (lv_at hl 1 rfl) ?_
      obtain ⟨b19, h⟩ := kIf h
      refine va_iald (f := vC.2.2.2.2.2.1) (n := 16) hx hb hK.1 hP 2 0 rfl rfl (kIn_ok b19) dX4_thickness_19 ?_
      refine lv_goto (tgt := 25) hx hb dX4_thickness_20 (by decide) ?_
      obtain rfl := Option.some.inj h
      subst hQ
      exact W.iret (v := (vC.2.2.2.2.2.1 p1.toNatClampNeg)) hx hb hr (fun t ht hW => ⟨⟨(vC.2.2.2.2.2.1 p1.toNatClampNeg), (), rfl, rfl, kEnd ht hP⟩, hS.F ht⟩) hS.2.2 dX4_thickness_25
  exact E0 s.heap [] ls hP hD hS hl
def fX4_thinning (vX : KX) (vC : KC) (p1 : Int32) : Option (Int32) := (fX0_has vC p1).bind fun r5 => if r5 = (0 : Int32) then (some (-1000000001 : Int32)) else ((fX0_thinningOf vC p1 vC.2.2.1 vC.2.2.2.1).bind fun r30 => some r30)
set_option maxHeartbeats 4000000 in
set_option maxRecDepth 100000 in
theorem cX4_thinning_ok (l : Launch) (D : va_G) (ty : kTy) (aX : Nat) (adC adF adH adT : Nat → Nat) (sz : Nat) (vX : KX) (vC : KC) (p1 : Int32)  (res : Int32) (h : fX4_thinning vX vC p1 = some res) : kMI l yX4_thinning wsX4_thinning { frames := 2, cells := 0, slots := 0, locals := 57 } [.ref aX, .int p1] D ty (wX aX adC adH adF adT vX ++ wC ty adC vC) sz res (wX aX adC adH adF adT vX ++ wC ty adC vC) := by
  refine Met.ofW (cc := cX4_thinning) (maxL := 2) (ret := (some .int)) (by decide) rfl ?_
  intro p e s m args below meth c s₁ B hml hv
  obtain ⟨rfl, hsz, hP, hK, hD0⟩ := hv
  have hx := B.exec
  have hb := B.bytes
  have hr := B.returns
  have hts := atoms_spec (ws := wsX4_thinning) B.pre
  have hown : s.vm.findClass RX4 = some m.cls := findClass_of_methodNamed B.named
  have hlocks := B.notSynchronized
  subst hsz
  have hD := hD0.self (sz := s.heap.size)
  generalize hAe : va_A (wX aX adC adH adF adT vX ++ wC ty adC vC) s.heap.size = A at hD ⊢
  have hA : ∀ q : Nat, s.heap.size ≤ q → A q := fun q h => by rw [← hAe]; exact Or.inr h
  have hS : va_S A s.heap s.heap [] := va_S.rf
  refine kGenW (fun Q hQ => ?_)
  have wf0 := hts (.fieldLink RX4 10 "IceCoreDater" "core" "LIceCoreDater$Core;") (by decide +kernel)
  have hinX4 : ∀ w ∈ wsX40, w ∈ wsX4_thinning := by decide +kernel
  have wf2 := hts (.constant RX4 139 (-1000000001)) (by decide +kernel)
  have wf3 := hts (.fieldLink RX4 146 "IceCoreDater$Core" "function" "I") (by decide +kernel)
  have hinX0 : ∀ w ∈ wsX00, w ∈ wsX4_thinning := by decide +kernel
  have wf5 := hts (.fieldLink RX4 149 "IceCoreDater$Core" "kink" "I") (by decide +kernel)
  have hl := lv_entry ([.ref aX, .int p1]) (n := 2) (Nat.le_of_ble_eq_true rfl)
  rw [lg_entry_eq]
  generalize (lg_sl ([.ref aX, .int p1]) ++ List.replicate (2 - (lg_sl ([.ref aX, .int p1])).length) Slot.unset).toArray = ls at hl ⊢
  have hl : lv_has ls 2 [(0, .ref aX), (1, .int p1)] := hl
  unfold fX4_thinning at h
  have E0 : ∀ (H : Heap) (locs : List Loc) (ls : Array Slot), va_P D vwCl (wX aX adC adH adF adT vX ++ wC ty adC vC) H → va_D A (wX aX adC adH adF adT vX ++ wC ty adC vC) → va_S A s.heap H locs → lv_has ls 2 [(0, .ref aX), (1, .int p1)] → W p l e (headSpec wsX4_thinning { frames := 2, cells := 0, slots := 0, locals := 57 }).room s m ([.ref aX, .int p1] : List Value).toArray below meth c H locs 0 0 Q (F0 m 0 ls []) := by
    intro H locs ls hP hD hS hl
    refine lv_aload_n hx hb dX4_thinning_0 rfl (lv_at hl 0 rfl) ?_
    refine va_get (D := D) (ci := 4) (v := .ref (adC 0)) (C := RX4) (T := TX4) (N := 6) hx hb hts hinX4 hown hK.1 hP 0 rfl rfl 0 (by decide) wf0 (fun _ h9 => h9) rfl dX4_thinning_1 ?_
    refine lv_iload_n hx hb dX4_thinning_4 rfl (lv_at hl 1 rfl) ?_
    obtain ⟨r5, e5, h⟩ := kBd h
    refine kCallVI (As := [.int p1]) (rest := []) (wc := wC ty adC vC) (w1 := wC ty adC vC) (wn := wX aX adC adH adF adT vX ++ wC ty adC vC) ⟨hx, hb, hml, hown, hts⟩ (cX0_has_ok l D ty adC H.size vC p1  r5 e5) (cwV 1 hts gX4_thinning_X0_has rfl rfl rfl (by decide +kernel) ⟨Nat.le_of_ble_eq_true rfl, Nat.le_of_ble_eq_true rfl⟩) hP hK hD hS hA [1, 2, 3, 4, 5, 6, 7, 8] (by decide +kernel) rfl 0 1 rfl rfl rfl rfl hl.1 rfl (Nat.le_of_ble_eq_true rfl) dX4_thinning_5 ⟨Nat.le_of_ble_eq_true rfl, Nat.le_of_ble_eq_true rfl⟩ rfl rfl (fun H locs hP hD hS => ?_)
    refine lv_if_eq (tgt := 36) hx hb dX4_thinning_8 (by decide) (fun c8 => ?_) (fun c8 => ?_)
    · have h := kT h c8
      refine lv_ldc hx hb hown wf2 dX4_thinning_36 ?_
      obtain rfl := Option.some.inj h
      subst hQ
      exact W.iret (v := (-1000000001 : Int32)) hx hb hr (fun t ht hW => ⟨⟨(-1000000001 : Int32), (), rfl, rfl, kEnd ht hP⟩, hS.F ht⟩) hS.2.2 dX4_thinning_38
    · have h := kF h c8
      refine lv_aload_n hx hb dX4_thinning_11 rfl (lv_at hl 0 rfl) ?_
      refine va_get (D := D) (ci := 4) (v := .ref (adC 0)) (C := RX4) (T := TX4) (N := 6) hx hb hts hinX4 hown hK.1 hP 0 rfl rfl 0 (by decide) wf0 (fun _ h9 => h9) rfl dX4_thinning_12 ?_
      refine lv_iload_n hx hb dX4_thinning_15 rfl (lv_at hl 1 rfl) ?_
      refine lv_aload_n hx hb dX4_thinning_16 rfl (lv_at hl 0 rfl) ?_
      refine va_get (D := D) (ci := 4) (v := .ref (adC 0)) (C := RX4) (T := TX4) (N := 6) hx hb hts hinX4 hown hK.1 hP 0 rfl rfl 0 (by decide) wf0 (fun _ h9 => h9) rfl dX4_thinning_17 ?_
      refine va_get (D := D) (ci := 0) (v := .int vC.2.2.1) (C := RX0) (T := TX0) (N := 12) hx hb hts hinX0 hown hK.1 hP 1 rfl rfl 2 (by decide) wf3 (fun _ h9 => h9) rfl dX4_thinning_20 ?_
      refine lv_aload_n hx hb dX4_thinning_23 rfl (lv_at hl 0 rfl) ?_
      refine va_get (D := D) (ci := 4) (v := .ref (adC 0)) (C := RX4) (T := TX4) (N := 6) hx hb hts hinX4 hown hK.1 hP 0 rfl rfl 0 (by decide) wf0 (fun _ h9 => h9) rfl dX4_thinning_24 ?_
      refine va_get (D := D) (ci := 0) (v := .int vC.2.2.2.1) (C := RX0) (T := TX0) (N := 12) hx hb hts hinX0 hown hK.1 hP 1 rfl rfl 3 (by decide) wf5 (fun _ h9 => h9) rfl dX4_thinning_27 ?_
      obtain ⟨r30, e30, h⟩ := kBd h
      refine kCallVI (As := [.int p1, .int vC.2.2.1, .int vC.2.2.2.1]) (rest := []) (wc := wC ty adC vC) (w1 := wC ty adC vC) (wn := wX aX adC adH adF adT vX ++ wC ty adC vC) ⟨hx, hb, hml, hown, hts⟩ (cX0_thinningOf_ok l D ty adC H.size vC p1 vC.2.2.1 vC.2.2.2.1  r30 e30) (cwV 3 hts gX4_thinning_X0_thinningOf rfl rfl rfl (by decide +kernel) ⟨Nat.le_of_ble_eq_true rfl, Nat.le_of_ble_eq_true rfl⟩) hP hK hD hS hA [1, 2, 3, 4, 5, 6, 7, 8] (by decide +kernel) rfl 0 1 rfl rfl rfl rfl hl.1 rfl (Nat.le_of_ble_eq_true rfl) dX4_thinning_30 ⟨Nat.le_of_ble_eq_true rfl, Nat.le_of_ble_eq_true rfl⟩ rfl rfl (fun H locs hP hD hS => ?_)
      refine lv_goto (tgt := 38) hx hb dX4_thinning_33 (by decide) ?_
      obtain rfl := Option.some.inj h
      subst hQ
      exact W.iret (v := r30) hx hb hr (fun t ht hW => ⟨⟨r30, (), rfl, rfl, kEnd ht hP⟩, hS.F ht⟩) hS.2.2 dX4_thinning_38
  exact E0 s.heap [] ls hP hD hS hl
def fX4_years (vX : KX) (vC : KC) (p1 : Int32) : Option (Int32) := (fX0_has vC p1).bind fun r5 => if r5 = (0 : Int32) then (some (-1000000001 : Int32)) else ((fX0_yearsOf vC p1 vC.2.2.1 vC.2.2.2.1).bind fun r30 => some r30)
set_option maxHeartbeats 4000000 in
set_option maxRecDepth 100000 in
theorem cX4_years_ok (l : Launch) (D : va_G) (ty : kTy) (aX : Nat) (adC adF adH adT : Nat → Nat) (sz : Nat) (vX : KX) (vC : KC) (p1 : Int32)  (res : Int32) (h : fX4_years vX vC p1 = some res) : kMI l yX4_years wsX4_years { frames := 3, cells := 0, slots := 0, locals := 82 } [.ref aX, .int p1] D ty (wX aX adC adH adF adT vX ++ wC ty adC vC) sz res (wX aX adC adH adF adT vX ++ wC ty adC vC) := by
  refine Met.ofW (cc := cX4_years) (maxL := 2) (ret := (some .int)) (by decide) rfl ?_
  intro p e s m args below meth c s₁ B hml hv
  obtain ⟨rfl, hsz, hP, hK, hD0⟩ := hv
  have hx := B.exec
  have hb := B.bytes
  have hr := B.returns
  have hts := atoms_spec (ws := wsX4_years) B.pre
  have hown : s.vm.findClass RX4 = some m.cls := findClass_of_methodNamed B.named
  have hlocks := B.notSynchronized
  subst hsz
  have hD := hD0.self (sz := s.heap.size)
  generalize hAe : va_A (wX aX adC adH adF adT vX ++ wC ty adC vC) s.heap.size = A at hD ⊢
  have hA : ∀ q : Nat, s.heap.size ≤ q → A q := fun q h => by rw [← hAe]; exact Or.inr h
  have hS : va_S A s.heap s.heap [] := va_S.rf
  refine kGenW (fun Q hQ => ?_)
  have wf0 := hts (.fieldLink RX4 10 "IceCoreDater" "core" "LIceCoreDater$Core;") (by decide +kernel)
  have hinX4 : ∀ w ∈ wsX40, w ∈ wsX4_years := by decide +kernel
  have wf2 := hts (.constant RX4 139 (-1000000001)) (by decide +kernel)
  have wf3 := hts (.fieldLink RX4 146 "IceCoreDater$Core" "function" "I") (by decide +kernel)
  have hinX0 : ∀ w ∈ wsX00, w ∈ wsX4_years := by decide +kernel
  have wf5 := hts (.fieldLink RX4 149 "IceCoreDater$Core" "kink" "I") (by decide +kernel)
  have hl := lv_entry ([.ref aX, .int p1]) (n := 2) (Nat.le_of_ble_eq_true rfl)
  rw [lg_entry_eq]
  generalize (lg_sl ([.ref aX, .int p1]) ++ List.replicate (2 - (lg_sl ([.ref aX, .int p1])).length) Slot.unset).toArray = ls at hl ⊢
  have hl : lv_has ls 2 [(0, .ref aX), (1, .int p1)] := hl
  unfold fX4_years at h
  have E0 : ∀ (H : Heap) (locs : List Loc) (ls : Array Slot), va_P D vwCl (wX aX adC adH adF adT vX ++ wC ty adC vC) H → va_D A (wX aX adC adH adF adT vX ++ wC ty adC vC) → va_S A s.heap H locs → lv_has ls 2 [(0, .ref aX), (1, .int p1)] → W p l e (headSpec wsX4_years { frames := 3, cells := 0, slots := 0, locals := 82 }).room s m ([.ref aX, .int p1] : List Value).toArray below meth c H locs 0 0 Q (F0 m 0 ls []) := by
    intro H locs ls hP hD hS hl
    refine lv_aload_n hx hb dX4_years_0 rfl (lv_at hl 0 rfl) ?_
    refine va_get (D := D) (ci := 4) (v := .ref (adC 0)) (C := RX4) (T := TX4) (N := 6) hx hb hts hinX4 hown hK.1 hP 0 rfl rfl 0 (by decide) wf0 (fun _ h9 => h9) rfl dX4_years_1 ?_
    refine lv_iload_n hx hb dX4_years_4 rfl (lv_at hl 1 rfl) ?_
    obtain ⟨r5, e5, h⟩ := kBd h
    refine kCallVI (As := [.int p1]) (rest := []) (wc := wC ty adC vC) (w1 := wC ty adC vC) (wn := wX aX adC adH adF adT vX ++ wC ty adC vC) ⟨hx, hb, hml, hown, hts⟩ (cX0_has_ok l D ty adC H.size vC p1  r5 e5) (cwV 1 hts gX4_years_X0_has rfl rfl rfl (by decide +kernel) ⟨Nat.le_of_ble_eq_true rfl, Nat.le_of_ble_eq_true rfl⟩) hP hK hD hS hA [1, 2, 3, 4, 5, 6, 7, 8] (by decide +kernel) rfl 0 1 rfl rfl rfl rfl hl.1 rfl (Nat.le_of_ble_eq_true rfl) dX4_years_5 ⟨Nat.le_of_ble_eq_true rfl, Nat.le_of_ble_eq_true rfl⟩ rfl rfl (fun H locs hP hD hS => ?_)
    refine lv_if_eq (tgt := 36) hx hb dX4_years_8 (by decide) (fun c8 => ?_) (fun c8 => ?_)
    · have h := kT h c8
      refine lv_ldc hx hb hown wf2 dX4_years_36 ?_
      obtain rfl := Option.some.inj h
      subst hQ
      exact W.iret (v := (-1000000001 : Int32)) hx hb hr (fun t ht hW => ⟨⟨(-1000000001 : Int32), (), rfl, rfl, kEnd ht hP⟩, hS.F ht⟩) hS.2.2 dX4_years_38
    · have h := kF h c8
      refine lv_aload_n hx hb dX4_years_11 rfl (lv_at hl 0 rfl) ?_
      refine va_get (D := D) (ci := 4) (v := .ref (adC 0)) (C := RX4) (T := TX4) (N := 6) hx hb hts hinX4 hown hK.1 hP 0 rfl rfl 0 (by decide) wf0 (fun _ h9 => h9) rfl dX4_years_12 ?_
      refine lv_iload_n hx hb dX4_years_15 rfl (lv_at hl 1 rfl) ?_
      refine lv_aload_n hx hb dX4_years_16 rfl (lv_at hl 0 rfl) ?_
      refine va_get (D := D) (ci := 4) (v := .ref (adC 0)) (C := RX4) (T := TX4) (N := 6) hx hb hts hinX4 hown hK.1 hP 0 rfl rfl 0 (by decide) wf0 (fun _ h9 => h9) rfl dX4_years_17 ?_
      refine va_get (D := D) (ci := 0) (v := .int vC.2.2.1) (C := RX0) (T := TX0) (N := 12) hx hb hts hinX0 hown hK.1 hP 1 rfl rfl 2 (by decide) wf3 (fun _ h9 => h9) rfl dX4_years_20 ?_
      refine lv_aload_n hx hb dX4_years_23 rfl (lv_at hl 0 rfl) ?_
      refine va_get (D := D) (ci := 4) (v := .ref (adC 0)) (C := RX4) (T := TX4) (N := 6) hx hb hts hinX4 hown hK.1 hP 0 rfl rfl 0 (by decide) wf0 (fun _ h9 => h9) rfl dX4_years_24 ?_
      refine va_get (D := D) (ci := 0) (v := .int vC.2.2.2.1) (C := RX0) (T := TX0) (N := 12) hx hb hts hinX0 hown hK.1 hP 1 rfl rfl 3 (by decide) wf5 (fun _ h9 => h9) rfl dX4_years_27 ?_
      obtain ⟨r30, e30, h⟩ := kBd h
      refine kCallVI (As := [.int p1, .int vC.2.2.1, .int vC.2.2.2.1]) (rest := []) (wc := wC ty adC vC) (w1 := wC ty adC vC) (wn := wX aX adC adH adF adT vX ++ wC ty adC vC) ⟨hx, hb, hml, hown, hts⟩ (cX0_yearsOf_ok l D ty adC H.size vC p1 vC.2.2.1 vC.2.2.2.1  r30 e30) (cwV 3 hts gX4_years_X0_yearsOf rfl rfl rfl (by decide +kernel) ⟨Nat.le_of_ble_eq_true rfl, Nat.le_of_ble_eq_true rfl⟩) hP hK hD hS hA [1, 2, 3, 4, 5, 6, 7, 8] (by decide +kernel) rfl 0 1 rfl rfl rfl rfl hl.1 rfl (Nat.le_of_ble_eq_true rfl) dX4_years_30 ⟨Nat.le_of_ble_eq_true rfl, Nat.le_of_ble_eq_true rfl⟩ rfl rfl (fun H locs hP hD hS => ?_)
      refine lv_goto (tgt := 38) hx hb dX4_years_33 (by decide) ?_
      obtain rfl := Option.some.inj h
      subst hQ
      exact W.iret (v := r30) hx hb hr (fun t ht hW => ⟨⟨r30, (), rfl, rfl, kEnd ht hP⟩, hS.F ht⟩) hS.2.2 dX4_years_38
  exact E0 s.heap [] ls hP hD hS hl
def fX4_delay (vX : KX) (vC : KC) (p1 : Int32) : Option (Int32) := (fX0_has vC p1).bind fun r5 => if r5 = (0 : Int32) then (some (-1000000001 : Int32)) else ((fX0_delayOf vC p1).bind fun r16 => some r16)
set_option maxHeartbeats 4000000 in
set_option maxRecDepth 100000 in
theorem cX4_delay_ok (l : Launch) (D : va_G) (ty : kTy) (aX : Nat) (adC adF adH adT : Nat → Nat) (sz : Nat) (vX : KX) (vC : KC) (p1 : Int32)  (res : Int32) (h : fX4_delay vX vC p1 = some res) : kMI l yX4_delay wsX4_delay { frames := 2, cells := 0, slots := 0, locals := 44 } [.ref aX, .int p1] D ty (wX aX adC adH adF adT vX ++ wC ty adC vC) sz res (wX aX adC adH adF adT vX ++ wC ty adC vC) := by
  refine Met.ofW (cc := cX4_delay) (maxL := 2) (ret := (some .int)) (by decide) rfl ?_
  intro p e s m args below meth c s₁ B hml hv
  obtain ⟨rfl, hsz, hP, hK, hD0⟩ := hv
  have hx := B.exec
  have hb := B.bytes
  have hr := B.returns
  have hts := atoms_spec (ws := wsX4_delay) B.pre
  have hown : s.vm.findClass RX4 = some m.cls := findClass_of_methodNamed B.named
  have hlocks := B.notSynchronized
  subst hsz
  have hD := hD0.self (sz := s.heap.size)
  generalize hAe : va_A (wX aX adC adH adF adT vX ++ wC ty adC vC) s.heap.size = A at hD ⊢
  have hA : ∀ q : Nat, s.heap.size ≤ q → A q := fun q h => by rw [← hAe]; exact Or.inr h
  have hS : va_S A s.heap s.heap [] := va_S.rf
  refine kGenW (fun Q hQ => ?_)
  have wf0 := hts (.fieldLink RX4 10 "IceCoreDater" "core" "LIceCoreDater$Core;") (by decide +kernel)
  have hinX4 : ∀ w ∈ wsX40, w ∈ wsX4_delay := by decide +kernel
  have wf2 := hts (.constant RX4 139 (-1000000001)) (by decide +kernel)
  have hl := lv_entry ([.ref aX, .int p1]) (n := 2) (Nat.le_of_ble_eq_true rfl)
  rw [lg_entry_eq]
  generalize (lg_sl ([.ref aX, .int p1]) ++ List.replicate (2 - (lg_sl ([.ref aX, .int p1])).length) Slot.unset).toArray = ls at hl ⊢
  have hl : lv_has ls 2 [(0, .ref aX), (1, .int p1)] := hl
  unfold fX4_delay at h
  have E0 : ∀ (H : Heap) (locs : List Loc) (ls : Array Slot), va_P D vwCl (wX aX adC adH adF adT vX ++ wC ty adC vC) H → va_D A (wX aX adC adH adF adT vX ++ wC ty adC vC) → va_S A s.heap H locs → lv_has ls 2 [(0, .ref aX), (1, .int p1)] → W p l e (headSpec wsX4_delay { frames := 2, cells := 0, slots := 0, locals := 44 }).room s m ([.ref aX, .int p1] : List Value).toArray below meth c H locs 0 0 Q (F0 m 0 ls []) := by
    intro H locs ls hP hD hS hl
    refine lv_aload_n hx hb dX4_delay_0 rfl (lv_at hl 0 rfl) ?_
    refine va_get (D := D) (ci := 4) (v := .ref (adC 0)) (C := RX4) (T := TX4) (N := 6) hx hb hts hinX4 hown hK.1 hP 0 rfl rfl 0 (by decide) wf0 (fun _ h9 => h9) rfl dX4_delay_1 ?_
    refine lv_iload_n hx hb dX4_delay_4 rfl (lv_at hl 1 rfl) ?_
    obtain ⟨r5, e5, h⟩ := kBd h
    refine kCallVI (As := [.int p1]) (rest := []) (wc := wC ty adC vC) (w1 := wC ty adC vC) (wn := wX aX adC adH adF adT vX ++ wC ty adC vC) ⟨hx, hb, hml, hown, hts⟩ (cX0_has_ok l D ty adC H.size vC p1  r5 e5) (cwV 1 hts gX4_delay_X0_has rfl rfl rfl (by decide +kernel) ⟨Nat.le_of_ble_eq_true rfl, Nat.le_of_ble_eq_true rfl⟩) hP hK hD hS hA [1, 2, 3, 4, 5, 6, 7, 8] (by decide +kernel) rfl 0 1 rfl rfl rfl rfl hl.1 rfl (Nat.le_of_ble_eq_true rfl) dX4_delay_5 ⟨Nat.le_of_ble_eq_true rfl, Nat.le_of_ble_eq_true rfl⟩ rfl rfl (fun H locs hP hD hS => ?_)
    refine lv_if_eq (tgt := 22) hx hb dX4_delay_8 (by decide) (fun c8 => ?_) (fun c8 => ?_)
    · have h := kT h c8
      refine lv_ldc hx hb hown wf2 dX4_delay_22 ?_
      obtain rfl := Option.some.inj h
      subst hQ
      exact W.iret (v := (-1000000001 : Int32)) hx hb hr (fun t ht hW => ⟨⟨(-1000000001 : Int32), (), rfl, rfl, kEnd ht hP⟩, hS.F ht⟩) hS.2.2 dX4_delay_24
    · have h := kF h c8
      refine lv_aload_n hx hb dX4_delay_11 rfl (lv_at hl 0 rfl) ?_
      refine va_get (D := D) (ci := 4) (v := .ref (adC 0)) (C := RX4) (T := TX4) (N := 6) hx hb hts hinX4 hown hK.1 hP 0 rfl rfl 0 (by decide) wf0 (fun _ h9 => h9) rfl dX4_delay_12 ?_
      refine lv_iload_n hx hb dX4_delay_15 rfl (lv_at hl 1 rfl) ?_
      obtain ⟨r16, e16, h⟩ := kBd h
      refine kCallVI (As := [.int p1]) (rest := []) (wc := wC ty adC vC) (w1 := wC ty adC vC) (wn := wX aX adC adH adF adT vX ++ wC ty adC vC) ⟨hx, hb, hml, hown, hts⟩ (cX0_delayOf_ok l D ty adC H.size vC p1  r16 e16) (cwV 1 hts gX4_delay_X0_delayOf rfl rfl rfl (by decide +kernel) ⟨Nat.le_of_ble_eq_true rfl, Nat.le_of_ble_eq_true rfl⟩) hP hK hD hS hA [1, 2, 3, 4, 5, 6, 7, 8] (by decide +kernel) rfl 0 1 rfl rfl rfl rfl hl.1 rfl (Nat.le_of_ble_eq_true rfl) dX4_delay_16 ⟨Nat.le_of_ble_eq_true rfl, Nat.le_of_ble_eq_true rfl⟩ rfl rfl (fun H locs hP hD hS => ?_)
      refine lv_goto (tgt := 24) hx hb dX4_delay_19 (by decide) ?_
      obtain rfl := Option.some.inj h
      subst hQ
      exact W.iret (v := r16) hx hb hr (fun t ht hW => ⟨⟨r16, (), rfl, rfl, kEnd ht hP⟩, hS.F ht⟩) hS.2.2 dX4_delay_24
  exact E0 s.heap [] ls hP hD hS hl
def fX4_residual (vX : KX) (vC : KC) (p1 : Int32) : Option (Int32) := (fX0_has vC p1).bind fun r5 => if ¬ r5 = (0 : Int32) then ((fX0_hasAsh vC p1).bind fun r19 => if r19 = (0 : Int32) then (some (-1000000005 : Int32)) else ((fX0_residualOf vC p1).bind fun r30 => some r30)) else (some (-1000000001 : Int32))
set_option maxHeartbeats 4000000 in
set_option maxRecDepth 100000 in
theorem cX4_residual_ok (l : Launch) (D : va_G) (ty : kTy) (aX : Nat) (adC adF adH adT : Nat → Nat) (sz : Nat) (vX : KX) (vC : KC) (p1 : Int32)  (res : Int32) (h : fX4_residual vX vC p1 = some res) : kMI l yX4_residual wsX4_residual { frames := 4, cells := 0, slots := 0, locals := 105 } [.ref aX, .int p1] D ty (wX aX adC adH adF adT vX ++ wC ty adC vC) sz res (wX aX adC adH adF adT vX ++ wC ty adC vC) := by
  refine Met.ofW (cc := cX4_residual) (maxL := 2) (ret := (some .int)) (by decide) rfl ?_
  intro p e s m args below meth c s₁ B hml hv
  obtain ⟨rfl, hsz, hP, hK, hD0⟩ := hv
  have hx := B.exec
  have hb := B.bytes
  have hr := B.returns
  have hts := atoms_spec (ws := wsX4_residual) B.pre
  have hown : s.vm.findClass RX4 = some m.cls := findClass_of_methodNamed B.named
  have hlocks := B.notSynchronized
  subst hsz
  have hD := hD0.self (sz := s.heap.size)
  generalize hAe : va_A (wX aX adC adH adF adT vX ++ wC ty adC vC) s.heap.size = A at hD ⊢
  have hA : ∀ q : Nat, s.heap.size ≤ q → A q := fun q h => by rw [← hAe]; exact Or.inr h
  have hS : va_S A s.heap s.heap [] := va_S.rf
  refine kGenW (fun Q hQ => ?_)
  have wf0 := hts (.fieldLink RX4 10 "IceCoreDater" "core" "LIceCoreDater$Core;") (by decide +kernel)
  have hinX4 : ∀ w ∈ wsX40, w ∈ wsX4_residual := by decide +kernel
  have wf2 := hts (.constant RX4 41 (-1000000005)) (by decide +kernel)
  have wf3 := hts (.constant RX4 139 (-1000000001)) (by decide +kernel)
  have hl := lv_entry ([.ref aX, .int p1]) (n := 2) (Nat.le_of_ble_eq_true rfl)
  rw [lg_entry_eq]
  generalize (lg_sl ([.ref aX, .int p1]) ++ List.replicate (2 - (lg_sl ([.ref aX, .int p1])).length) Slot.unset).toArray = ls at hl ⊢
  have hl : lv_has ls 2 [(0, .ref aX), (1, .int p1)] := hl
  unfold fX4_residual at h
  have E0 : ∀ (H : Heap) (locs : List Loc) (ls : Array Slot), va_P D vwCl (wX aX adC adH adF adT vX ++ wC ty adC vC) H → va_D A (wX aX adC adH adF adT vX ++ wC ty adC vC) → va_S A s.heap H locs → lv_has ls 2 [(0, .ref aX), (1, .int p1)] → W p l e (headSpec wsX4_residual { frames := 4, cells := 0, slots := 0, locals := 105 }).room s m ([.ref aX, .int p1] : List Value).toArray below meth c H locs 0 0 Q (F0 m 0 ls []) := by
    intro H locs ls hP hD hS hl
    refine lv_aload_n hx hb dX4_residual_0 rfl (lv_at hl 0 rfl) ?_
    refine va_get (D := D) (ci := 4) (v := .ref (adC 0)) (C := RX4) (T := TX4) (N := 6) hx hb hts hinX4 hown hK.1 hP 0 rfl rfl 0 (by decide) wf0 (fun _ h9 => h9) rfl dX4_residual_1 ?_
    refine lv_iload_n hx hb dX4_residual_4 rfl (lv_at hl 1 rfl) ?_
    obtain ⟨r5, e5, h⟩ := kBd h
    refine kCallVI (As := [.int p1]) (rest := []) (wc := wC ty adC vC) (w1 := wC ty adC vC) (wn := wX aX adC adH adF adT vX ++ wC ty adC vC) ⟨hx, hb, hml, hown, hts⟩ (cX0_has_ok l D ty adC H.size vC p1  r5 e5) (cwV 1 hts gX4_residual_X0_has rfl rfl rfl (by decide +kernel) ⟨Nat.le_of_ble_eq_true rfl, Nat.le_of_ble_eq_true rfl⟩) hP hK hD hS hA [1, 2, 3, 4, 5, 6, 7, 8] (by decide +kernel) rfl 0 1 rfl rfl rfl rfl hl.1 rfl (Nat.le_of_ble_eq_true rfl) dX4_residual_5 ⟨Nat.le_of_ble_eq_true rfl, Nat.le_of_ble_eq_true rfl⟩ rfl rfl (fun H locs hP hD hS => ?_)
    refine lv_if_ne (tgt := 14) hx hb dX4_residual_8 (by decide) (fun c8 => ?_) (fun c8 => ?_)
    · have h := kT h c8
      refine lv_aload_n hx hb dX4_residual_14 rfl (lv_at hl 0 rfl) ?_
      refine va_get (D := D) (ci := 4) (v := .ref (adC 0)) (C := RX4) (T := TX4) (N := 6) hx hb hts hinX4 hown hK.1 hP 0 rfl rfl 0 (by decide) wf0 (fun _ h9 => h9) rfl dX4_residual_15 ?_
      refine lv_iload_n hx hb dX4_residual_18 rfl (lv_at hl 1 rfl) ?_
      obtain ⟨r19, e19, h⟩ := kBd h
      refine kCallVI (As := [.int p1]) (rest := []) (wc := wC ty adC vC) (w1 := wC ty adC vC) (wn := wX aX adC adH adF adT vX ++ wC ty adC vC) ⟨hx, hb, hml, hown, hts⟩ (cX0_hasAsh_ok l D ty adC H.size vC p1  r19 e19) (cwV 1 hts gX4_residual_X0_hasAsh rfl rfl rfl (by decide +kernel) ⟨Nat.le_of_ble_eq_true rfl, Nat.le_of_ble_eq_true rfl⟩) hP hK hD hS hA [1, 2, 3, 4, 5, 6, 7, 8] (by decide +kernel) rfl 0 1 rfl rfl rfl rfl hl.1 rfl (Nat.le_of_ble_eq_true rfl) dX4_residual_19 ⟨Nat.le_of_ble_eq_true rfl, Nat.le_of_ble_eq_true rfl⟩ rfl rfl (fun H locs hP hD hS => ?_)
      refine lv_if_eq (tgt := 36) hx hb dX4_residual_22 (by decide) (fun c22 => ?_) (fun c22 => ?_)
      · have h := kT h c22
        refine lv_ldc hx hb hown wf2 dX4_residual_36 ?_
        obtain rfl := Option.some.inj h
        subst hQ
        exact W.iret (v := (-1000000005 : Int32)) hx hb hr (fun t ht hW => ⟨⟨(-1000000005 : Int32), (), rfl, rfl, kEnd ht hP⟩, hS.F ht⟩) hS.2.2 dX4_residual_38
      · have h := kF h c22
        refine lv_aload_n hx hb dX4_residual_25 rfl (lv_at hl 0 rfl) ?_
        refine va_get (D := D) (ci := 4) (v := .ref (adC 0)) (C := RX4) (T := TX4) (N := 6) hx hb hts hinX4 hown hK.1 hP 0 rfl rfl 0 (by decide) wf0 (fun _ h9 => h9) rfl dX4_residual_26 ?_
        refine lv_iload_n hx hb dX4_residual_29 rfl (lv_at hl 1 rfl) ?_
        obtain ⟨r30, e30, h⟩ := kBd h
        refine kCallVI (As := [.int p1]) (rest := []) (wc := wC ty adC vC) (w1 := wC ty adC vC) (wn := wX aX adC adH adF adT vX ++ wC ty adC vC) ⟨hx, hb, hml, hown, hts⟩ (cX0_residualOf_ok l D ty adC H.size vC p1  r30 e30) (cwV 1 hts gX4_residual_X0_residualOf rfl rfl rfl (by decide +kernel) ⟨Nat.le_of_ble_eq_true rfl, Nat.le_of_ble_eq_true rfl⟩) hP hK hD hS hA [1, 2, 3, 4, 5, 6, 7, 8] (by decide +kernel) rfl 0 1 rfl rfl rfl rfl hl.1 rfl (Nat.le_of_ble_eq_true rfl) dX4_residual_30 ⟨Nat.le_of_ble_eq_true rfl, Nat.le_of_ble_eq_true rfl⟩ rfl rfl (fun H locs hP hD hS => ?_)
        refine lv_goto (tgt := 38) hx hb dX4_residual_33 (by decide) ?_
        obtain rfl := Option.some.inj h
        subst hQ
        exact W.iret (v := r30) hx hb hr (fun t ht hW => ⟨⟨r30, (), rfl, rfl, kEnd ht hP⟩, hS.F ht⟩) hS.2.2 dX4_residual_38
    · have h := kF h (fun z => z c8)
      refine lv_ldc hx hb hown wf3 dX4_residual_11 ?_
      obtain rfl := Option.some.inj h
      subst hQ
      exact W.iret (v := (-1000000001 : Int32)) hx hb hr (fun t ht hW => ⟨⟨(-1000000001 : Int32), (), rfl, rfl, kEnd ht hP⟩, hS.F ht⟩) hS.2.2 dX4_residual_13
  exact E0 s.heap [] ls hP hD hS hl
def fX4_countError (vX : KX) (vC : KC) (p1 : Int32) : Option (Int32) := (fX0_has vC p1).bind fun r5 => if ¬ r5 = (0 : Int32) then ((fX0_hasCount vC p1).bind fun r19 => if r19 = (0 : Int32) then (some (-1000000005 : Int32)) else ((fX0_countErrorOf vC p1).bind fun r30 => some r30)) else (some (-1000000001 : Int32))
set_option maxHeartbeats 4000000 in
set_option maxRecDepth 100000 in
theorem cX4_countError_ok (l : Launch) (D : va_G) (ty : kTy) (aX : Nat) (adC adF adH adT : Nat → Nat) (sz : Nat) (vX : KX) (vC : KC) (p1 : Int32)  (res : Int32) (h : fX4_countError vX vC p1 = some res) : kMI l yX4_countError wsX4_countError { frames := 4, cells := 0, slots := 0, locals := 103 } [.ref aX, .int p1] D ty (wX aX adC adH adF adT vX ++ wC ty adC vC) sz res (wX aX adC adH adF adT vX ++ wC ty adC vC) := by
  refine Met.ofW (cc := cX4_countError) (maxL := 2) (ret := (some .int)) (by decide) rfl ?_
  intro p e s m args below meth c s₁ B hml hv
  obtain ⟨rfl, hsz, hP, hK, hD0⟩ := hv
  have hx := B.exec
  have hb := B.bytes
  have hr := B.returns
  have hts := atoms_spec (ws := wsX4_countError) B.pre
  have hown : s.vm.findClass RX4 = some m.cls := findClass_of_methodNamed B.named
  have hlocks := B.notSynchronized
  subst hsz
  have hD := hD0.self (sz := s.heap.size)
  generalize hAe : va_A (wX aX adC adH adF adT vX ++ wC ty adC vC) s.heap.size = A at hD ⊢
  have hA : ∀ q : Nat, s.heap.size ≤ q → A q := fun q h => by rw [← hAe]; exact Or.inr h
  have hS : va_S A s.heap s.heap [] := va_S.rf
  refine kGenW (fun Q hQ => ?_)
  have wf0 := hts (.fieldLink RX4 10 "IceCoreDater" "core" "LIceCoreDater$Core;") (by decide +kernel)
  have hinX4 : ∀ w ∈ wsX40, w ∈ wsX4_countError := by decide +kernel
  have wf2 := hts (.constant RX4 41 (-1000000005)) (by decide +kernel)
  have wf3 := hts (.constant RX4 139 (-1000000001)) (by decide +kernel)
  have hl := lv_entry ([.ref aX, .int p1]) (n := 2) (Nat.le_of_ble_eq_true rfl)
  rw [lg_entry_eq]
  generalize (lg_sl ([.ref aX, .int p1]) ++ List.replicate (2 - (lg_sl ([.ref aX, .int p1])).length) Slot.unset).toArray = ls at hl ⊢
  have hl : lv_has ls 2 [(0, .ref aX), (1, .int p1)] := hl
  unfold fX4_countError at h
  have E0 : ∀ (H : Heap) (locs : List Loc) (ls : Array Slot), va_P D vwCl (wX aX adC adH adF adT vX ++ wC ty adC vC) H → va_D A (wX aX adC adH adF adT vX ++ wC ty adC vC) → va_S A s.heap H locs → lv_has ls 2 [(0, .ref aX), (1, .int p1)] → W p l e (headSpec wsX4_countError { frames := 4, cells := 0, slots := 0, locals := 103 }).room s m ([.ref aX, .int p1] : List Value).toArray below meth c H locs 0 0 Q (F0 m 0 ls []) := by
    intro H locs ls hP hD hS hl
    refine lv_aload_n hx hb dX4_countError_0 rfl (lv_at hl 0 rfl) ?_
    refine va_get (D := D) (ci := 4) (v := .ref (adC 0)) (C := RX4) (T := TX4) (N := 6) hx hb hts hinX4 hown hK.1 hP 0 rfl rfl 0 (by decide) wf0 (fun _ h9 => h9) rfl dX4_countError_1 ?_
    refine lv_iload_n hx hb dX4_countError_4 rfl (lv_at hl 1 rfl) ?_
    obtain ⟨r5, e5, h⟩ := kBd h
    refine kCallVI (As := [.int p1]) (rest := []) (wc := wC ty adC vC) (w1 := wC ty adC vC) (wn := wX aX adC adH adF adT vX ++ wC ty adC vC) ⟨hx, hb, hml, hown, hts⟩ (cX0_has_ok l D ty adC H.size vC p1  r5 e5) (cwV 1 hts gX4_countError_X0_has rfl rfl rfl (by decide +kernel) ⟨Nat.le_of_ble_eq_true rfl, Nat.le_of_ble_eq_true rfl⟩) hP hK hD hS hA [1, 2, 3, 4, 5, 6, 7, 8] (by decide +kernel) rfl 0 1 rfl rfl rfl rfl hl.1 rfl (Nat.le_of_ble_eq_true rfl) dX4_countError_5 ⟨Nat.le_of_ble_eq_true rfl, Nat.le_of_ble_eq_true rfl⟩ rfl rfl (fun H locs hP hD hS => ?_)
    refine lv_if_ne (tgt := 14) hx hb dX4_countError_8 (by decide) (fun c8 => ?_) (fun c8 => ?_)
    · have h := kT h c8
      refine lv_aload_n hx hb dX4_countError_14 rfl (lv_at hl 0 rfl) ?_
      refine va_get (D := D) (ci := 4) (v := .ref (adC 0)) (C := RX4) (T := TX4) (N := 6) hx hb hts hinX4 hown hK.1 hP 0 rfl rfl 0 (by decide) wf0 (fun _ h9 => h9) rfl dX4_countError_15 ?_
      refine lv_iload_n hx hb dX4_countError_18 rfl (lv_at hl 1 rfl) ?_
      obtain ⟨r19, e19, h⟩ := kBd h
      refine kCallVI (As := [.int p1]) (rest := []) (wc := wC ty adC vC) (w1 := wC ty adC vC) (wn := wX aX adC adH adF adT vX ++ wC ty adC vC) ⟨hx, hb, hml, hown, hts⟩ (cX0_hasCount_ok l D ty adC H.size vC p1  r19 e19) (cwV 1 hts gX4_countError_X0_hasCount rfl rfl rfl (by decide +kernel) ⟨Nat.le_of_ble_eq_true rfl, Nat.le_of_ble_eq_true rfl⟩) hP hK hD hS hA [1, 2, 3, 4, 5, 6, 7, 8] (by decide +kernel) rfl 0 1 rfl rfl rfl rfl hl.1 rfl (Nat.le_of_ble_eq_true rfl) dX4_countError_19 ⟨Nat.le_of_ble_eq_true rfl, Nat.le_of_ble_eq_true rfl⟩ rfl rfl (fun H locs hP hD hS => ?_)
      refine lv_if_eq (tgt := 36) hx hb dX4_countError_22 (by decide) (fun c22 => ?_) (fun c22 => ?_)
      · have h := kT h c22
        refine lv_ldc hx hb hown wf2 dX4_countError_36 ?_
        obtain rfl := Option.some.inj h
        subst hQ
        exact W.iret (v := (-1000000005 : Int32)) hx hb hr (fun t ht hW => ⟨⟨(-1000000005 : Int32), (), rfl, rfl, kEnd ht hP⟩, hS.F ht⟩) hS.2.2 dX4_countError_38
      · have h := kF h c22
        refine lv_aload_n hx hb dX4_countError_25 rfl (lv_at hl 0 rfl) ?_
        refine va_get (D := D) (ci := 4) (v := .ref (adC 0)) (C := RX4) (T := TX4) (N := 6) hx hb hts hinX4 hown hK.1 hP 0 rfl rfl 0 (by decide) wf0 (fun _ h9 => h9) rfl dX4_countError_26 ?_
        refine lv_iload_n hx hb dX4_countError_29 rfl (lv_at hl 1 rfl) ?_
        obtain ⟨r30, e30, h⟩ := kBd h
        refine kCallVI (As := [.int p1]) (rest := []) (wc := wC ty adC vC) (w1 := wC ty adC vC) (wn := wX aX adC adH adF adT vX ++ wC ty adC vC) ⟨hx, hb, hml, hown, hts⟩ (cX0_countErrorOf_ok l D ty adC H.size vC p1  r30 e30) (cwV 1 hts gX4_countError_X0_countErrorOf rfl rfl rfl (by decide +kernel) ⟨Nat.le_of_ble_eq_true rfl, Nat.le_of_ble_eq_true rfl⟩) hP hK hD hS hA [1, 2, 3, 4, 5, 6, 7, 8] (by decide +kernel) rfl 0 1 rfl rfl rfl rfl hl.1 rfl (Nat.le_of_ble_eq_true rfl) dX4_countError_30 ⟨Nat.le_of_ble_eq_true rfl, Nat.le_of_ble_eq_true rfl⟩ rfl rfl (fun H locs hP hD hS => ?_)
        refine lv_goto (tgt := 38) hx hb dX4_countError_33 (by decide) ?_
        obtain rfl := Option.some.inj h
        subst hQ
        exact W.iret (v := r30) hx hb hr (fun t ht hW => ⟨⟨r30, (), rfl, rfl, kEnd ht hP⟩, hS.F ht⟩) hS.2.2 dX4_countError_38
    · have h := kF h (fun z => z c8)
      refine lv_ldc hx hb hown wf3 dX4_countError_11 ?_
      obtain rfl := Option.some.inj h
      subst hQ
      exact W.iret (v := (-1000000001 : Int32)) hx hb hr (fun t ht hW => ⟨⟨(-1000000001 : Int32), (), rfl, rfl, kEnd ht hP⟩, hS.F ht⟩) hS.2.2 dX4_countError_13
  exact E0 s.heap [] ls hP hD hS hl
def fX4_fitting (vX : KX) (vC : KC) : Option (Int32) := (fX0_fittingBeds vC).bind fun r4 => some r4
set_option maxHeartbeats 4000000 in
set_option maxRecDepth 100000 in
theorem cX4_fitting_ok (l : Launch) (D : va_G) (ty : kTy) (aX : Nat) (adC adF adH adT : Nat → Nat) (sz : Nat) (vX : KX) (vC : KC)  (res : Int32) (h : fX4_fitting vX vC = some res) : kMI l yX4_fitting wsX4_fitting { frames := 4, cells := 0, slots := 0, locals := 105 } [.ref aX] D ty (wX aX adC adH adF adT vX ++ wC ty adC vC) sz res (wX aX adC adH adF adT vX ++ wC ty adC vC) := by
  refine Met.ofW (cc := cX4_fitting) (maxL := 1) (ret := (some .int)) (by decide) rfl ?_
  intro p e s m args below meth c s₁ B hml hv
  obtain ⟨rfl, hsz, hP, hK, hD0⟩ := hv
  have hx := B.exec
  have hb := B.bytes
  have hr := B.returns
  have hts := atoms_spec (ws := wsX4_fitting) B.pre
  have hown : s.vm.findClass RX4 = some m.cls := findClass_of_methodNamed B.named
  have hlocks := B.notSynchronized
  subst hsz
  have hD := hD0.self (sz := s.heap.size)
  generalize hAe : va_A (wX aX adC adH adF adT vX ++ wC ty adC vC) s.heap.size = A at hD ⊢
  have hA : ∀ q : Nat, s.heap.size ≤ q → A q := fun q h => by rw [← hAe]; exact Or.inr h
  have hS : va_S A s.heap s.heap [] := va_S.rf
  refine kGenW (fun Q hQ => ?_)
  have wf0 := hts (.fieldLink RX4 10 "IceCoreDater" "core" "LIceCoreDater$Core;") (by decide +kernel)
  have hinX4 : ∀ w ∈ wsX40, w ∈ wsX4_fitting := by decide +kernel
  have hl := lv_entry ([.ref aX]) (n := 1) (Nat.le_of_ble_eq_true rfl)
  rw [lg_entry_eq]
  generalize (lg_sl ([.ref aX]) ++ List.replicate (1 - (lg_sl ([.ref aX])).length) Slot.unset).toArray = ls at hl ⊢
  have hl : lv_has ls 1 [(0, .ref aX)] := hl
  unfold fX4_fitting at h
  have E0 : ∀ (H : Heap) (locs : List Loc) (ls : Array Slot), va_P D vwCl (wX aX adC adH adF adT vX ++ wC ty adC vC) H → va_D A (wX aX adC adH adF adT vX ++ wC ty adC vC) → va_S A s.heap H locs → lv_has ls 1 [(0, .ref aX)] → W p l e (headSpec wsX4_fitting { frames := 4, cells := 0, slots := 0, locals := 105 }).room s m ([.ref aX] : List Value).toArray below meth c H locs 0 0 Q (F0 m 0 ls []) := by
    intro H locs ls hP hD hS hl
    refine lv_aload_n hx hb dX4_fitting_0 rfl (lv_at hl 0 rfl) ?_
    refine va_get (D := D) (ci := 4) (v := .ref (adC 0)) (C := RX4) (T := TX4) (N := 6) hx hb hts hinX4 hown hK.1 hP 0 rfl rfl 0 (by decide) wf0 (fun _ h9 => h9) rfl dX4_fitting_1 ?_
    obtain ⟨r4, e4, h⟩ := kBd h
    refine kCallVI (As := []) (rest := []) (wc := wC ty adC vC) (w1 := wC ty adC vC) (wn := wX aX adC adH adF adT vX ++ wC ty adC vC) ⟨hx, hb, hml, hown, hts⟩ (cX0_fittingBeds_ok l D ty adC H.size vC  r4 e4) (cwV 0 hts gX4_fitting_X0_fittingBeds rfl rfl rfl (by decide +kernel) ⟨Nat.le_of_ble_eq_true rfl, Nat.le_of_ble_eq_true rfl⟩) hP hK hD hS hA [1, 2, 3, 4, 5, 6, 7, 8] (by decide +kernel) rfl 0 1 rfl rfl rfl rfl hl.1 rfl (Nat.le_of_ble_eq_true rfl) dX4_fitting_4 ⟨Nat.le_of_ble_eq_true rfl, Nat.le_of_ble_eq_true rfl⟩ rfl rfl (fun H locs hP hD hS => ?_)
    obtain rfl := Option.some.inj h
    subst hQ
    exact W.iret (v := r4) hx hb hr (fun t ht hW => ⟨⟨r4, (), rfl, rfl, kEnd ht hP⟩, hS.F ht⟩) hS.2.2 dX4_fitting_7
  exact E0 s.heap [] ls hP hD hS hl
def fX4_depthFault (vX : KX) (vC : KC) (p1 : Int32) : Option (Int32) := if p1 < (0 : Int32) then (some (-1000000002 : Int32)) else ((fX0_bottom vC).bind fun r9 => if p1 ≤ r9 then (if ¬ vC.1 = (0 : Int32) then (some (0 : Int32)) else (some (-1000000003 : Int32))) else (some (-1000000002 : Int32)))
set_option maxHeartbeats 4000000 in
set_option maxRecDepth 100000 in
theorem cX4_depthFault_ok (l : Launch) (D : va_G) (ty : kTy) (aX : Nat) (adC adF adH adT : Nat → Nat) (sz : Nat) (vX : KX) (vC : KC) (p1 : Int32)  (res : Int32) (h : fX4_depthFault vX vC p1 = some res) : kMI l yX4_depthFault wsX4_depthFault { frames := 2, cells := 0, slots := 0, locals := 43 } [.ref aX, .int p1] D ty (wX aX adC adH adF adT vX ++ wC ty adC vC) sz res (wX aX adC adH adF adT vX ++ wC ty adC vC) := by
  refine Met.ofW (cc := cX4_depthFault) (maxL := 2) (ret := (some .int)) (by decide) rfl ?_
  intro p e s m args below meth c s₁ B hml hv
  obtain ⟨rfl, hsz, hP, hK, hD0⟩ := hv
  have hx := B.exec
  have hb := B.bytes
  have hr := B.returns
  have hts := atoms_spec (ws := wsX4_depthFault) B.pre
  have hown : s.vm.findClass RX4 = some m.cls := findClass_of_methodNamed B.named
  have hlocks := B.notSynchronized
  subst hsz
  have hD := hD0.self (sz := s.heap.size)
  generalize hAe : va_A (wX aX adC adH adF adT vX ++ wC ty adC vC) s.heap.size = A at hD ⊢
  have hA : ∀ q : Nat, s.heap.size ≤ q → A q := fun q h => by rw [← hAe]; exact Or.inr h
  have hS : va_S A s.heap s.heap [] := va_S.rf
  refine kGenW (fun Q hQ => ?_)
  have wf0 := hts (.constant RX4 185 (-1000000002)) (by decide +kernel)
  have wf1 := hts (.fieldLink RX4 10 "IceCoreDater" "core" "LIceCoreDater$Core;") (by decide +kernel)
  have hinX4 : ∀ w ∈ wsX40, w ∈ wsX4_depthFault := by decide +kernel
  have wf3 := hts (.fieldLink RX4 125 "IceCoreDater$Core" "size" "I") (by decide +kernel)
  have hinX0 : ∀ w ∈ wsX00, w ∈ wsX4_depthFault := by decide +kernel
  have wf5 := hts (.constant RX4 212 (-1000000003)) (by decide +kernel)
  have hl := lv_entry ([.ref aX, .int p1]) (n := 2) (Nat.le_of_ble_eq_true rfl)
  rw [lg_entry_eq]
  generalize (lg_sl ([.ref aX, .int p1]) ++ List.replicate (2 - (lg_sl ([.ref aX, .int p1])).length) Slot.unset).toArray = ls at hl ⊢
  have hl : lv_has ls 2 [(0, .ref aX), (1, .int p1)] := hl
  unfold fX4_depthFault at h
  have E0 : ∀ (H : Heap) (locs : List Loc) (ls : Array Slot), va_P D vwCl (wX aX adC adH adF adT vX ++ wC ty adC vC) H → va_D A (wX aX adC adH adF adT vX ++ wC ty adC vC) → va_S A s.heap H locs → lv_has ls 2 [(0, .ref aX), (1, .int p1)] → W p l e (headSpec wsX4_depthFault { frames := 2, cells := 0, slots := 0, locals := 43 }).room s m ([.ref aX, .int p1] : List Value).toArray below meth c H locs 0 0 Q (F0 m 0 ls []) := by
    intro H locs ls hP hD hS hl
    refine lv_iload_n hx hb dX4_depthFault_0 rfl (lv_at hl 1 rfl) ?_
    refine lv_if_lt (tgt := 15) hx hb dX4_depthFault_1 (by decide) (fun c1 => ?_) (fun c1 => ?_)
    · have h := kT h c1
      refine lv_ldc hx hb hown wf0 dX4_depthFault_15 ?_
      obtain rfl := Option.some.inj h
      subst hQ
      exact W.iret (v := (-1000000002 : Int32)) hx hb hr (fun t ht hW => ⟨⟨(-1000000002 : Int32), (), rfl, rfl, kEnd ht hP⟩, hS.F ht⟩) hS.2.2 dX4_depthFault_17
    · have h := kF h c1
      refine lv_iload_n hx hb dX4_depthFault_4 rfl (lv_at hl 1 rfl) ?_
      refine lv_aload_n hx hb dX4_depthFault_5 rfl (lv_at hl 0 rfl) ?_
      refine va_get (D := D) (ci := 4) (v := .ref (adC 0)) (C := RX4) (T := TX4) (N := 6) hx hb hts hinX4 hown hK.1 hP 0 rfl rfl 0 (by decide) wf1 (fun _ h9 => h9) rfl dX4_depthFault_6 ?_
      obtain ⟨r9, e9, h⟩ := kBd h
      refine kCallVI (As := []) (rest := [.int p1]) (wc := wC ty adC vC) (w1 := wC ty adC vC) (wn := wX aX adC adH adF adT vX ++ wC ty adC vC) ⟨hx, hb, hml, hown, hts⟩ (cX0_bottom_ok l D ty adC H.size vC  r9 e9) (cwV 0 hts gX4_depthFault_X0_bottom rfl rfl rfl (by decide +kernel) ⟨Nat.le_of_ble_eq_true rfl, Nat.le_of_ble_eq_true rfl⟩) hP hK hD hS hA [1, 2, 3, 4, 5, 6, 7, 8] (by decide +kernel) rfl 0 1 rfl rfl rfl rfl hl.1 rfl (Nat.le_of_ble_eq_true rfl) dX4_depthFault_9 ⟨Nat.le_of_ble_eq_true rfl, Nat.le_of_ble_eq_true rfl⟩ rfl rfl (fun H locs hP hD hS => ?_)
      refine lv_icmp_le (tgt := 18) hx hb dX4_depthFault_12 (by decide) (fun c12 => ?_) (fun c12 => ?_)
      · have h := kT h c12
        refine lv_aload_n hx hb dX4_depthFault_18 rfl (lv_at hl 0 rfl) ?_
        refine va_get (D := D) (ci := 4) (v := .ref (adC 0)) (C := RX4) (T := TX4) (N := 6) hx hb hts hinX4 hown hK.1 hP 0 rfl rfl 0 (by decide) wf1 (fun _ h9 => h9) rfl dX4_depthFault_19 ?_
        refine va_get (D := D) (ci := 0) (v := .int vC.1) (C := RX0) (T := TX0) (N := 12) hx hb hts hinX0 hown hK.1 hP 1 rfl rfl 0 (by decide) wf3 (fun _ h9 => h9) rfl dX4_depthFault_22 ?_
        refine lv_if_ne (tgt := 33) hx hb dX4_depthFault_25 (by decide) (fun c25 => ?_) (fun c25 => ?_)
        · have h := kT h c25
          refine lv_iconst (v := 0) hx hb dX4_depthFault_33 (by decide) ?_
          obtain rfl := Option.some.inj h
          subst hQ
          exact W.iret (v := (0 : Int32)) hx hb hr (fun t ht hW => ⟨⟨(0 : Int32), (), rfl, rfl, kEnd ht hP⟩, hS.F ht⟩) hS.2.2 dX4_depthFault_34
        · have h := kF h (fun z => z c25)
          refine lv_ldc hx hb hown wf5 dX4_depthFault_28 ?_
          refine lv_goto (tgt := 34) hx hb dX4_depthFault_30 (by decide) ?_
          obtain rfl := Option.some.inj h
          subst hQ
          exact W.iret (v := (-1000000003 : Int32)) hx hb hr (fun t ht hW => ⟨⟨(-1000000003 : Int32), (), rfl, rfl, kEnd ht hP⟩, hS.F ht⟩) hS.2.2 dX4_depthFault_34
      · have h := kF h c12
        refine lv_ldc hx hb hown wf0 dX4_depthFault_15 ?_
        obtain rfl := Option.some.inj h
        subst hQ
        exact W.iret (v := (-1000000002 : Int32)) hx hb hr (fun t ht hW => ⟨⟨(-1000000002 : Int32), (), rfl, rfl, kEnd ht hP⟩, hS.F ht⟩) hS.2.2 dX4_depthFault_17
  exact E0 s.heap [] ls hP hD hS hl
def fX4_age (vX : KX) (vC : KC) (p1 : Int32) : Option (Int32) := (fX4_depthFault vX vC p1).bind fun r2 => if ¬ r2 = (0 : Int32) then some r2 else ((fX0_ageAt vC p1).bind fun r15 => some r15)
set_option maxHeartbeats 4000000 in
set_option maxRecDepth 100000 in
theorem cX4_age_ok (l : Launch) (D : va_G) (ty : kTy) (aX : Nat) (adC adF adH adT : Nat → Nat) (sz : Nat) (vX : KX) (vC : KC) (p1 : Int32)  (res : Int32) (h : fX4_age vX vC p1 = some res) : kMI l yX4_age wsX4_age { frames := 4, cells := 0, slots := 0, locals := 108 } [.ref aX, .int p1] D ty (wX aX adC adH adF adT vX ++ wC ty adC vC) sz res (wX aX adC adH adF adT vX ++ wC ty adC vC) := by
  refine Met.ofW (cc := cX4_age) (maxL := 3) (ret := (some .int)) (by decide) rfl ?_
  intro p e s m args below meth c s₁ B hml hv
  obtain ⟨rfl, hsz, hP, hK, hD0⟩ := hv
  have hx := B.exec
  have hb := B.bytes
  have hr := B.returns
  have hts := atoms_spec (ws := wsX4_age) B.pre
  have hown : s.vm.findClass RX4 = some m.cls := findClass_of_methodNamed B.named
  have hlocks := B.notSynchronized
  subst hsz
  have hD := hD0.self (sz := s.heap.size)
  generalize hAe : va_A (wX aX adC adH adF adT vX ++ wC ty adC vC) s.heap.size = A at hD ⊢
  have hA : ∀ q : Nat, s.heap.size ≤ q → A q := fun q h => by rw [← hAe]; exact Or.inr h
  have hS : va_S A s.heap s.heap [] := va_S.rf
  refine kGenW (fun Q hQ => ?_)
  have wf0 := hts (.fieldLink RX4 10 "IceCoreDater" "core" "LIceCoreDater$Core;") (by decide +kernel)
  have hinX4 : ∀ w ∈ wsX40, w ∈ wsX4_age := by decide +kernel
  have hl := lv_entry ([.ref aX, .int p1]) (n := 3) (Nat.le_of_ble_eq_true rfl)
  rw [lg_entry_eq]
  generalize (lg_sl ([.ref aX, .int p1]) ++ List.replicate (3 - (lg_sl ([.ref aX, .int p1])).length) Slot.unset).toArray = ls at hl ⊢
  have hl : lv_has ls 3 [(0, .ref aX), (1, .int p1)] := hl
  unfold fX4_age at h
  have E0 : ∀ (H : Heap) (locs : List Loc) (ls : Array Slot), va_P D vwCl (wX aX adC adH adF adT vX ++ wC ty adC vC) H → va_D A (wX aX adC adH adF adT vX ++ wC ty adC vC) → va_S A s.heap H locs → lv_has ls 3 [(0, .ref aX), (1, .int p1)] → W p l e (headSpec wsX4_age { frames := 4, cells := 0, slots := 0, locals := 108 }).room s m ([.ref aX, .int p1] : List Value).toArray below meth c H locs 0 0 Q (F0 m 0 ls []) := by
    intro H locs ls hP hD hS hl
    refine lv_aload_n hx hb dX4_age_0 rfl (lv_at hl 0 rfl) ?_
    refine lv_iload_n hx hb dX4_age_1 rfl (lv_at hl 1 rfl) ?_
    obtain ⟨r2, e2, h⟩ := kBd h
    refine kCallVI (As := [.int p1]) (rest := []) (wc := wX aX adC adH adF adT vX ++ wC ty adC vC) (w1 := wX aX adC adH adF adT vX ++ wC ty adC vC) (wn := wX aX adC adH adF adT vX ++ wC ty adC vC) ⟨hx, hb, hml, hown, hts⟩ (cX4_depthFault_ok l D ty aX adC adF adH adT H.size vX vC p1  r2 e2) (cwV 1 hts gX4_age_X4_depthFault rfl rfl rfl (by decide +kernel) ⟨Nat.le_of_ble_eq_true rfl, Nat.le_of_ble_eq_true rfl⟩) hP hK hD hS hA [0, 1, 2, 3, 4, 5, 6, 7, 8] (by decide +kernel) rfl 4 0 rfl rfl rfl rfl hl.1 rfl (Nat.le_of_ble_eq_true rfl) dX4_age_2 ⟨Nat.le_of_ble_eq_true rfl, Nat.le_of_ble_eq_true rfl⟩ rfl rfl (fun H locs hP hD hS => ?_)
    refine lv_istore_n (lv' := [(2, .int r2), (0, .ref aX), (1, .int p1)]) hx hb dX4_age_5 rfl hl (by decide) rfl (fun ls hl => ?_)
    refine lv_iload_n hx hb dX4_age_6 rfl (lv_at hl 0 rfl) ?_
    refine lv_if_ne (tgt := 21) hx hb dX4_age_7 (by decide) (fun c7 => ?_) (fun c7 => ?_)
    · have h := kT h c7
      refine lv_iload_n hx hb dX4_age_21 rfl (lv_at hl 0 rfl) ?_
      obtain rfl := Option.some.inj h
      subst hQ
      exact W.iret (v := r2) hx hb hr (fun t ht hW => ⟨⟨r2, (), rfl, rfl, kEnd ht hP⟩, hS.F ht⟩) hS.2.2 dX4_age_22
    · have h := kF h (fun z => z c7)
      refine lv_aload_n hx hb dX4_age_10 rfl (lv_at hl 1 rfl) ?_
      refine va_get (D := D) (ci := 4) (v := .ref (adC 0)) (C := RX4) (T := TX4) (N := 6) hx hb hts hinX4 hown hK.1 hP 0 rfl rfl 0 (by decide) wf0 (fun _ h9 => h9) rfl dX4_age_11 ?_
      refine lv_iload_n hx hb dX4_age_14 rfl (lv_at hl 2 rfl) ?_
      obtain ⟨r15, e15, h⟩ := kBd h
      refine kCallVI (As := [.int p1]) (rest := []) (wc := wC ty adC vC) (w1 := wC ty adC vC) (wn := wX aX adC adH adF adT vX ++ wC ty adC vC) ⟨hx, hb, hml, hown, hts⟩ (cX0_ageAt_ok l D ty adC H.size vC p1  r15 e15) (cwV 1 hts gX4_age_X0_ageAt rfl rfl rfl (by decide +kernel) ⟨Nat.le_of_ble_eq_true rfl, Nat.le_of_ble_eq_true rfl⟩) hP hK hD hS hA [1, 2, 3, 4, 5, 6, 7, 8] (by decide +kernel) rfl 0 1 rfl rfl rfl rfl hl.1 rfl (Nat.le_of_ble_eq_true rfl) dX4_age_15 ⟨Nat.le_of_ble_eq_true rfl, Nat.le_of_ble_eq_true rfl⟩ rfl rfl (fun H locs hP hD hS => ?_)
      refine lv_goto (tgt := 22) hx hb dX4_age_18 (by decide) ?_
      obtain rfl := Option.some.inj h
      subst hQ
      exact W.iret (v := r15) hx hb hr (fun t ht hW => ⟨⟨r15, (), rfl, rfl, kEnd ht hP⟩, hS.F ht⟩) hS.2.2 dX4_age_22
  exact E0 s.heap [] ls hP hD hS hl
def fX4_gasAge (vX : KX) (vC : KC) (p1 : Int32) : Option (Int32) := (fX4_depthFault vX vC p1).bind fun r2 => if ¬ r2 = (0 : Int32) then some r2 else ((fX0_gasAgeAt vC p1).bind fun r15 => some r15)
set_option maxHeartbeats 4000000 in
set_option maxRecDepth 100000 in
theorem cX4_gasAge_ok (l : Launch) (D : va_G) (ty : kTy) (aX : Nat) (adC adF adH adT : Nat → Nat) (sz : Nat) (vX : KX) (vC : KC) (p1 : Int32)  (res : Int32) (h : fX4_gasAge vX vC p1 = some res) : kMI l yX4_gasAge wsX4_gasAge { frames := 5, cells := 0, slots := 0, locals := 131 } [.ref aX, .int p1] D ty (wX aX adC adH adF adT vX ++ wC ty adC vC) sz res (wX aX adC adH adF adT vX ++ wC ty adC vC) := by
  refine Met.ofW (cc := cX4_gasAge) (maxL := 3) (ret := (some .int)) (by decide) rfl ?_
  intro p e s m args below meth c s₁ B hml hv
  obtain ⟨rfl, hsz, hP, hK, hD0⟩ := hv
  have hx := B.exec
  have hb := B.bytes
  have hr := B.returns
  have hts := atoms_spec (ws := wsX4_gasAge) B.pre
  have hown : s.vm.findClass RX4 = some m.cls := findClass_of_methodNamed B.named
  have hlocks := B.notSynchronized
  subst hsz
  have hD := hD0.self (sz := s.heap.size)
  generalize hAe : va_A (wX aX adC adH adF adT vX ++ wC ty adC vC) s.heap.size = A at hD ⊢
  have hA : ∀ q : Nat, s.heap.size ≤ q → A q := fun q h => by rw [← hAe]; exact Or.inr h
  have hS : va_S A s.heap s.heap [] := va_S.rf
  refine kGenW (fun Q hQ => ?_)
  have wf0 := hts (.fieldLink RX4 10 "IceCoreDater" "core" "LIceCoreDater$Core;") (by decide +kernel)
  have hinX4 : ∀ w ∈ wsX40, w ∈ wsX4_gasAge := by decide +kernel
  have hl := lv_entry ([.ref aX, .int p1]) (n := 3) (Nat.le_of_ble_eq_true rfl)
  rw [lg_entry_eq]
  generalize (lg_sl ([.ref aX, .int p1]) ++ List.replicate (3 - (lg_sl ([.ref aX, .int p1])).length) Slot.unset).toArray = ls at hl ⊢
  have hl : lv_has ls 3 [(0, .ref aX), (1, .int p1)] := hl
  unfold fX4_gasAge at h
  have E0 : ∀ (H : Heap) (locs : List Loc) (ls : Array Slot), va_P D vwCl (wX aX adC adH adF adT vX ++ wC ty adC vC) H → va_D A (wX aX adC adH adF adT vX ++ wC ty adC vC) → va_S A s.heap H locs → lv_has ls 3 [(0, .ref aX), (1, .int p1)] → W p l e (headSpec wsX4_gasAge { frames := 5, cells := 0, slots := 0, locals := 131 }).room s m ([.ref aX, .int p1] : List Value).toArray below meth c H locs 0 0 Q (F0 m 0 ls []) := by
    intro H locs ls hP hD hS hl
    refine lv_aload_n hx hb dX4_gasAge_0 rfl (lv_at hl 0 rfl) ?_
    refine lv_iload_n hx hb dX4_gasAge_1 rfl (lv_at hl 1 rfl) ?_
    obtain ⟨r2, e2, h⟩ := kBd h
    refine kCallVI (As := [.int p1]) (rest := []) (wc := wX aX adC adH adF adT vX ++ wC ty adC vC) (w1 := wX aX adC adH adF adT vX ++ wC ty adC vC) (wn := wX aX adC adH adF adT vX ++ wC ty adC vC) ⟨hx, hb, hml, hown, hts⟩ (cX4_depthFault_ok l D ty aX adC adF adH adT H.size vX vC p1  r2 e2) (cwV 1 hts gX4_gasAge_X4_depthFault rfl rfl rfl (by decide +kernel) ⟨Nat.le_of_ble_eq_true rfl, Nat.le_of_ble_eq_true rfl⟩) hP hK hD hS hA [0, 1, 2, 3, 4, 5, 6, 7, 8] (by decide +kernel) rfl 4 0 rfl rfl rfl rfl hl.1 rfl (Nat.le_of_ble_eq_true rfl) dX4_gasAge_2 ⟨Nat.le_of_ble_eq_true rfl, Nat.le_of_ble_eq_true rfl⟩ rfl rfl (fun H locs hP hD hS => ?_)
    refine lv_istore_n (lv' := [(2, .int r2), (0, .ref aX), (1, .int p1)]) hx hb dX4_gasAge_5 rfl hl (by decide) rfl (fun ls hl => ?_)
    refine lv_iload_n hx hb dX4_gasAge_6 rfl (lv_at hl 0 rfl) ?_
    refine lv_if_ne (tgt := 21) hx hb dX4_gasAge_7 (by decide) (fun c7 => ?_) (fun c7 => ?_)
    · have h := kT h c7
      refine lv_iload_n hx hb dX4_gasAge_21 rfl (lv_at hl 0 rfl) ?_
      obtain rfl := Option.some.inj h
      subst hQ
      exact W.iret (v := r2) hx hb hr (fun t ht hW => ⟨⟨r2, (), rfl, rfl, kEnd ht hP⟩, hS.F ht⟩) hS.2.2 dX4_gasAge_22
    · have h := kF h (fun z => z c7)
      refine lv_aload_n hx hb dX4_gasAge_10 rfl (lv_at hl 1 rfl) ?_
      refine va_get (D := D) (ci := 4) (v := .ref (adC 0)) (C := RX4) (T := TX4) (N := 6) hx hb hts hinX4 hown hK.1 hP 0 rfl rfl 0 (by decide) wf0 (fun _ h9 => h9) rfl dX4_gasAge_11 ?_
      refine lv_iload_n hx hb dX4_gasAge_14 rfl (lv_at hl 2 rfl) ?_
      obtain ⟨r15, e15, h⟩ := kBd h
      refine kCallVI (As := [.int p1]) (rest := []) (wc := wC ty adC vC) (w1 := wC ty adC vC) (wn := wX aX adC adH adF adT vX ++ wC ty adC vC) ⟨hx, hb, hml, hown, hts⟩ (cX0_gasAgeAt_ok l D ty adC H.size vC p1  r15 e15) (cwV 1 hts gX4_gasAge_X0_gasAgeAt rfl rfl rfl (by decide +kernel) ⟨Nat.le_of_ble_eq_true rfl, Nat.le_of_ble_eq_true rfl⟩) hP hK hD hS hA [1, 2, 3, 4, 5, 6, 7, 8] (by decide +kernel) rfl 0 1 rfl rfl rfl rfl hl.1 rfl (Nat.le_of_ble_eq_true rfl) dX4_gasAge_15 ⟨Nat.le_of_ble_eq_true rfl, Nat.le_of_ble_eq_true rfl⟩ rfl rfl (fun H locs hP hD hS => ?_)
      refine lv_goto (tgt := 22) hx hb dX4_gasAge_18 (by decide) ?_
      obtain rfl := Option.some.inj h
      subst hQ
      exact W.iret (v := r15) hx hb hr (fun t ht hW => ⟨⟨r15, (), rfl, rfl, kEnd ht hP⟩, hS.F ht⟩) hS.2.2 dX4_gasAge_22
  exact E0 s.heap [] ls hP hD hS hl
def fX4_depthOf (vX : KX) (vC : KC) (p1 : Int32) : Option (Int32) := if (0 : Int32) ≤ p1 then ((fX0_leastDepthOf vC p1).bind fun r14 => some r14) else (some (-1000000002 : Int32))
set_option maxHeartbeats 4000000 in
set_option maxRecDepth 100000 in
theorem cX4_depthOf_ok (l : Launch) (D : va_G) (ty : kTy) (aX : Nat) (adC adF adH adT : Nat → Nat) (sz : Nat) (vX : KX) (vC : KC) (p1 : Int32)  (res : Int32) (h : fX4_depthOf vX vC p1 = some res) : kMI l yX4_depthOf wsX4_depthOf { frames := 4, cells := 0, slots := 0, locals := 108 } [.ref aX, .int p1] D ty (wX aX adC adH adF adT vX ++ wC ty adC vC) sz res (wX aX adC adH adF adT vX ++ wC ty adC vC) := by
  refine Met.ofW (cc := cX4_depthOf) (maxL := 2) (ret := (some .int)) (by decide) rfl ?_
  intro p e s m args below meth c s₁ B hml hv
  obtain ⟨rfl, hsz, hP, hK, hD0⟩ := hv
  have hx := B.exec
  have hb := B.bytes
  have hr := B.returns
  have hts := atoms_spec (ws := wsX4_depthOf) B.pre
  have hown : s.vm.findClass RX4 = some m.cls := findClass_of_methodNamed B.named
  have hlocks := B.notSynchronized
  subst hsz
  have hD := hD0.self (sz := s.heap.size)
  generalize hAe : va_A (wX aX adC adH adF adT vX ++ wC ty adC vC) s.heap.size = A at hD ⊢
  have hA : ∀ q : Nat, s.heap.size ≤ q → A q := fun q h => by rw [← hAe]; exact Or.inr h
  have hS : va_S A s.heap s.heap [] := va_S.rf
  refine kGenW (fun Q hQ => ?_)
  have wf0 := hts (.fieldLink RX4 10 "IceCoreDater" "core" "LIceCoreDater$Core;") (by decide +kernel)
  have hinX4 : ∀ w ∈ wsX40, w ∈ wsX4_depthOf := by decide +kernel
  have wf2 := hts (.constant RX4 185 (-1000000002)) (by decide +kernel)
  have hl := lv_entry ([.ref aX, .int p1]) (n := 2) (Nat.le_of_ble_eq_true rfl)
  rw [lg_entry_eq]
  generalize (lg_sl ([.ref aX, .int p1]) ++ List.replicate (2 - (lg_sl ([.ref aX, .int p1])).length) Slot.unset).toArray = ls at hl ⊢
  have hl : lv_has ls 2 [(0, .ref aX), (1, .int p1)] := hl
  unfold fX4_depthOf at h
  have E0 : ∀ (H : Heap) (locs : List Loc) (ls : Array Slot), va_P D vwCl (wX aX adC adH adF adT vX ++ wC ty adC vC) H → va_D A (wX aX adC adH adF adT vX ++ wC ty adC vC) → va_S A s.heap H locs → lv_has ls 2 [(0, .ref aX), (1, .int p1)] → W p l e (headSpec wsX4_depthOf { frames := 4, cells := 0, slots := 0, locals := 108 }).room s m ([.ref aX, .int p1] : List Value).toArray below meth c H locs 0 0 Q (F0 m 0 ls []) := by
    intro H locs ls hP hD hS hl
    refine lv_iload_n hx hb dX4_depthOf_0 rfl (lv_at hl 1 rfl) ?_
    refine lv_if_ge (tgt := 9) hx hb dX4_depthOf_1 (by decide) (fun c1 => ?_) (fun c1 => ?_)
    · have h := kT h c1
      refine lv_aload_n hx hb dX4_depthOf_9 rfl (lv_at hl 0 rfl) ?_
      refine va_get (D := D) (ci := 4) (v := .ref (adC 0)) (C := RX4) (T := TX4) (N := 6) hx hb hts hinX4 hown hK.1 hP 0 rfl rfl 0 (by decide) wf0 (fun _ h9 => h9) rfl dX4_depthOf_10 ?_
      refine lv_iload_n hx hb dX4_depthOf_13 rfl (lv_at hl 1 rfl) ?_
      obtain ⟨r14, e14, h⟩ := kBd h
      refine kCallVI (As := [.int p1]) (rest := []) (wc := wC ty adC vC) (w1 := wC ty adC vC) (wn := wX aX adC adH adF adT vX ++ wC ty adC vC) ⟨hx, hb, hml, hown, hts⟩ (cX0_leastDepthOf_ok l D ty adC H.size vC p1  r14 e14) (cwV 1 hts gX4_depthOf_X0_leastDepthOf rfl rfl rfl (by decide +kernel) ⟨Nat.le_of_ble_eq_true rfl, Nat.le_of_ble_eq_true rfl⟩) hP hK hD hS hA [1, 2, 3, 4, 5, 6, 7, 8] (by decide +kernel) rfl 0 1 rfl rfl rfl rfl hl.1 rfl (Nat.le_of_ble_eq_true rfl) dX4_depthOf_14 ⟨Nat.le_of_ble_eq_true rfl, Nat.le_of_ble_eq_true rfl⟩ rfl rfl (fun H locs hP hD hS => ?_)
      obtain rfl := Option.some.inj h
      subst hQ
      exact W.iret (v := r14) hx hb hr (fun t ht hW => ⟨⟨r14, (), rfl, rfl, kEnd ht hP⟩, hS.F ht⟩) hS.2.2 dX4_depthOf_17
    · have h := kF h c1
      refine lv_ldc hx hb hown wf2 dX4_depthOf_4 ?_
      refine lv_goto (tgt := 17) hx hb dX4_depthOf_6 (by decide) ?_
      obtain rfl := Option.some.inj h
      subst hQ
      exact W.iret (v := (-1000000002 : Int32)) hx hb hr (fun t ht hW => ⟨⟨(-1000000002 : Int32), (), rfl, rfl, kEnd ht hP⟩, hS.F ht⟩) hS.2.2 dX4_depthOf_17
  exact E0 s.heap [] ls hP hD hS hl
def fX4_gasDepthOf (vX : KX) (vC : KC) (p1 : Int32) : Option (Int32) := if (0 : Int32) ≤ p1 then ((fX0_leastGasDepthOf vC p1).bind fun r14 => some r14) else (some (-1000000002 : Int32))
set_option maxHeartbeats 4000000 in
set_option maxRecDepth 100000 in
theorem cX4_gasDepthOf_ok (l : Launch) (D : va_G) (ty : kTy) (aX : Nat) (adC adF adH adT : Nat → Nat) (sz : Nat) (vX : KX) (vC : KC) (p1 : Int32)  (res : Int32) (h : fX4_gasDepthOf vX vC p1 = some res) : kMI l yX4_gasDepthOf wsX4_gasDepthOf { frames := 4, cells := 0, slots := 0, locals := 110 } [.ref aX, .int p1] D ty (wX aX adC adH adF adT vX ++ wC ty adC vC) sz res (wX aX adC adH adF adT vX ++ wC ty adC vC) := by
  refine Met.ofW (cc := cX4_gasDepthOf) (maxL := 2) (ret := (some .int)) (by decide) rfl ?_
  intro p e s m args below meth c s₁ B hml hv
  obtain ⟨rfl, hsz, hP, hK, hD0⟩ := hv
  have hx := B.exec
  have hb := B.bytes
  have hr := B.returns
  have hts := atoms_spec (ws := wsX4_gasDepthOf) B.pre
  have hown : s.vm.findClass RX4 = some m.cls := findClass_of_methodNamed B.named
  have hlocks := B.notSynchronized
  subst hsz
  have hD := hD0.self (sz := s.heap.size)
  generalize hAe : va_A (wX aX adC adH adF adT vX ++ wC ty adC vC) s.heap.size = A at hD ⊢
  have hA : ∀ q : Nat, s.heap.size ≤ q → A q := fun q h => by rw [← hAe]; exact Or.inr h
  have hS : va_S A s.heap s.heap [] := va_S.rf
  refine kGenW (fun Q hQ => ?_)
  have wf0 := hts (.fieldLink RX4 10 "IceCoreDater" "core" "LIceCoreDater$Core;") (by decide +kernel)
  have hinX4 : ∀ w ∈ wsX40, w ∈ wsX4_gasDepthOf := by decide +kernel
  have wf2 := hts (.constant RX4 185 (-1000000002)) (by decide +kernel)
  have hl := lv_entry ([.ref aX, .int p1]) (n := 2) (Nat.le_of_ble_eq_true rfl)
  rw [lg_entry_eq]
  generalize (lg_sl ([.ref aX, .int p1]) ++ List.replicate (2 - (lg_sl ([.ref aX, .int p1])).length) Slot.unset).toArray = ls at hl ⊢
  have hl : lv_has ls 2 [(0, .ref aX), (1, .int p1)] := hl
  unfold fX4_gasDepthOf at h
  have E0 : ∀ (H : Heap) (locs : List Loc) (ls : Array Slot), va_P D vwCl (wX aX adC adH adF adT vX ++ wC ty adC vC) H → va_D A (wX aX adC adH adF adT vX ++ wC ty adC vC) → va_S A s.heap H locs → lv_has ls 2 [(0, .ref aX), (1, .int p1)] → W p l e (headSpec wsX4_gasDepthOf { frames := 4, cells := 0, slots := 0, locals := 110 }).room s m ([.ref aX, .int p1] : List Value).toArray below meth c H locs 0 0 Q (F0 m 0 ls []) := by
    intro H locs ls hP hD hS hl
    refine lv_iload_n hx hb dX4_gasDepthOf_0 rfl (lv_at hl 1 rfl) ?_
    refine lv_if_ge (tgt := 9) hx hb dX4_gasDepthOf_1 (by decide) (fun c1 => ?_) (fun c1 => ?_)
    · have h := kT h c1
      refine lv_aload_n hx hb dX4_gasDepthOf_9 rfl (lv_at hl 0 rfl) ?_
      refine va_get (D := D) (ci := 4) (v := .ref (adC 0)) (C := RX4) (T := TX4) (N := 6) hx hb hts hinX4 hown hK.1 hP 0 rfl rfl 0 (by decide) wf0 (fun _ h9 => h9) rfl dX4_gasDepthOf_10 ?_
      refine lv_iload_n hx hb dX4_gasDepthOf_13 rfl (lv_at hl 1 rfl) ?_
      obtain ⟨r14, e14, h⟩ := kBd h
      refine kCallVI (As := [.int p1]) (rest := []) (wc := wC ty adC vC) (w1 := wC ty adC vC) (wn := wX aX adC adH adF adT vX ++ wC ty adC vC) ⟨hx, hb, hml, hown, hts⟩ (cX0_leastGasDepthOf_ok l D ty adC H.size vC p1  r14 e14) (cwV 1 hts gX4_gasDepthOf_X0_leastGasDepthOf rfl rfl rfl (by decide +kernel) ⟨Nat.le_of_ble_eq_true rfl, Nat.le_of_ble_eq_true rfl⟩) hP hK hD hS hA [1, 2, 3, 4, 5, 6, 7, 8] (by decide +kernel) rfl 0 1 rfl rfl rfl rfl hl.1 rfl (Nat.le_of_ble_eq_true rfl) dX4_gasDepthOf_14 ⟨Nat.le_of_ble_eq_true rfl, Nat.le_of_ble_eq_true rfl⟩ rfl rfl (fun H locs hP hD hS => ?_)
      obtain rfl := Option.some.inj h
      subst hQ
      exact W.iret (v := r14) hx hb hr (fun t ht hW => ⟨⟨r14, (), rfl, rfl, kEnd ht hP⟩, hS.F ht⟩) hS.2.2 dX4_gasDepthOf_17
    · have h := kF h c1
      refine lv_ldc hx hb hown wf2 dX4_gasDepthOf_4 ?_
      refine lv_goto (tgt := 17) hx hb dX4_gasDepthOf_6 (by decide) ?_
      obtain rfl := Option.some.inj h
      subst hQ
      exact W.iret (v := (-1000000002 : Int32)) hx hb hr (fun t ht hW => ⟨⟨(-1000000002 : Int32), (), rfl, rfl, kEnd ht hP⟩, hS.F ht⟩) hS.2.2 dX4_gasDepthOf_17
  exact E0 s.heap [] ls hP hD hS hl
def fX4_lead_c18 (vX : KX) (vC : KC) (x1 : Int32) (x2 : Int32) (x3 : Int32) : Option (Int32) := if ¬ x3 = (0 : Int32) then some x3 else ((fX0_ageAt vC x1).bind fun r27 => (fX0_gasAgeAt vC x2).bind fun r35 => some (r27 - r35))
def fX4_lead (vX : KX) (vC : KC) (p1 : Int32) (p2 : Int32) : Option (Int32) := (fX4_depthFault vX vC p1).bind fun r2 => if r2 = (-1000000002 : Int32) then (fX4_lead_c18 vX vC p1 p2 r2) else ((fX4_depthFault vX vC p2).bind fun r14 => fX4_lead_c18 vX vC p1 p2 r14)
set_option maxHeartbeats 4000000 in
set_option maxRecDepth 100000 in
theorem cX4_lead_ok (l : Launch) (D : va_G) (ty : kTy) (aX : Nat) (adC adF adH adT : Nat → Nat) (sz : Nat) (vX : KX) (vC : KC) (p1 : Int32) (p2 : Int32)  (res : Int32) (h : fX4_lead vX vC p1 p2 = some res) : kMI l yX4_lead wsX4_lead { frames := 5, cells := 0, slots := 0, locals := 131 } [.ref aX, .int p1, .int p2] D ty (wX aX adC adH adF adT vX ++ wC ty adC vC) sz res (wX aX adC adH adF adT vX ++ wC ty adC vC) := by
  refine Met.ofW (cc := cX4_lead) (maxL := 4) (ret := (some .int)) (by decide) rfl ?_
  intro p e s m args below meth c s₁ B hml hv
  obtain ⟨rfl, hsz, hP, hK, hD0⟩ := hv
  have hx := B.exec
  have hb := B.bytes
  have hr := B.returns
  have hts := atoms_spec (ws := wsX4_lead) B.pre
  have hown : s.vm.findClass RX4 = some m.cls := findClass_of_methodNamed B.named
  have hlocks := B.notSynchronized
  subst hsz
  have hD := hD0.self (sz := s.heap.size)
  generalize hAe : va_A (wX aX adC adH adF adT vX ++ wC ty adC vC) s.heap.size = A at hD ⊢
  have hA : ∀ q : Nat, s.heap.size ≤ q → A q := fun q h => by rw [← hAe]; exact Or.inr h
  have hS : va_S A s.heap s.heap [] := va_S.rf
  refine kGenW (fun Q hQ => ?_)
  have wf0 := hts (.fieldLink RX4 10 "IceCoreDater" "core" "LIceCoreDater$Core;") (by decide +kernel)
  have hinX4 : ∀ w ∈ wsX40, w ∈ wsX4_lead := by decide +kernel
  have wf2 := hts (.constant RX4 185 (-1000000002)) (by decide +kernel)
  have J18 : ∀ (x1 : Int32) (x2 : Int32) (x3 : Int32), fX4_lead_c18 vX vC x1 x2 x3 = some res → ∀ (H : Heap) (locs : List Loc) (ls : Array Slot), va_P D vwCl (wX aX adC adH adF adT vX ++ wC ty adC vC) H → va_D A (wX aX adC adH adF adT vX ++ wC ty adC vC) → va_S A s.heap H locs → lv_has ls 4 [(0, .ref aX), (1, .int x1), (2, .int x2), (3, .int x3)] → W p l e (headSpec wsX4_lead { frames := 5, cells := 0, slots := 0, locals := 131 }).room s m ([.ref aX, .int p1, .int p2] : List Value).toArray below meth c H locs 0 0 Q (F0 m 18 ls []) := by
    intro x1 x2 x3 h H locs ls hP hD hS hl
    unfold fX4_lead_c18 at h
    refine lv_iload_n hx hb dX4_lead_18 rfl (lv_at hl 3 rfl) ?_
    refine lv_if_ne (tgt := 42) hx hb dX4_lead_19 (by decide) (fun c19 => ?_) (fun c19 => ?_)
    · have h := kT h c19
      refine lv_iload_n hx hb dX4_lead_42 rfl (lv_at hl 3 rfl) ?_
      obtain rfl := Option.some.inj h
      subst hQ
      exact W.iret (v := x3) hx hb hr (fun t ht hW => ⟨⟨x3, (), rfl, rfl, kEnd ht hP⟩, hS.F ht⟩) hS.2.2 dX4_lead_43
    · have h := kF h (fun z => z c19)
      refine lv_aload_n hx hb dX4_lead_22 rfl (lv_at hl 0 rfl) ?_
      refine va_get (D := D) (ci := 4) (v := .ref (adC 0)) (C := RX4) (T := TX4) (N := 6) hx hb hts hinX4 hown hK.1 hP 0 rfl rfl 0 (by decide) wf0 (fun _ h9 => h9) rfl dX4_lead_23 ?_
      refine lv_iload_n hx hb dX4_lead_26 rfl (lv_at hl 1 rfl) ?_
      obtain ⟨r27, e27, h⟩ := kBd h
      refine kCallVI (As := [.int x1]) (rest := []) (wc := wC ty adC vC) (w1 := wC ty adC vC) (wn := wX aX adC adH adF adT vX ++ wC ty adC vC) ⟨hx, hb, hml, hown, hts⟩ (cX0_ageAt_ok l D ty adC H.size vC x1  r27 e27) (cwV 1 hts gX4_lead_X0_ageAt rfl rfl rfl (by decide +kernel) ⟨Nat.le_of_ble_eq_true rfl, Nat.le_of_ble_eq_true rfl⟩) hP hK hD hS hA [1, 2, 3, 4, 5, 6, 7, 8] (by decide +kernel) rfl 0 1 rfl rfl rfl rfl hl.1 rfl (Nat.le_of_ble_eq_true rfl) dX4_lead_27 ⟨Nat.le_of_ble_eq_true rfl, Nat.le_of_ble_eq_true rfl⟩ rfl rfl (fun H locs hP hD hS => ?_)
      refine lv_aload_n hx hb dX4_lead_30 rfl (lv_at hl 0 rfl) ?_
      refine va_get (D := D) (ci := 4) (v := .ref (adC 0)) (C := RX4) (T := TX4) (N := 6) hx hb hts hinX4 hown hK.1 hP 0 rfl rfl 0 (by decide) wf0 (fun _ h9 => h9) rfl dX4_lead_31 ?_
      refine lv_iload_n hx hb dX4_lead_34 rfl (lv_at hl 2 rfl) ?_
      obtain ⟨r35, e35, h⟩ := kBd h
      refine kCallVI (As := [.int x2]) (rest := [.int r27]) (wc := wC ty adC vC) (w1 := wC ty adC vC) (wn := wX aX adC adH adF adT vX ++ wC ty adC vC) ⟨hx, hb, hml, hown, hts⟩ (cX0_gasAgeAt_ok l D ty adC H.size vC x2  r35 e35) (cwV 1 hts gX4_lead_X0_gasAgeAt rfl rfl rfl (by decide +kernel) ⟨Nat.le_of_ble_eq_true rfl, Nat.le_of_ble_eq_true rfl⟩) hP hK hD hS hA [1, 2, 3, 4, 5, 6, 7, 8] (by decide +kernel) rfl 0 1 rfl rfl rfl rfl hl.1 rfl (Nat.le_of_ble_eq_true rfl) dX4_lead_35 ⟨Nat.le_of_ble_eq_true rfl, Nat.le_of_ble_eq_true rfl⟩ rfl rfl (fun H locs hP hD hS => ?_)
      refine lv_isub hx hb dX4_lead_38 ?_
      refine lv_goto (tgt := 43) hx hb dX4_lead_39 (by decide) ?_
      obtain rfl := Option.some.inj h
      subst hQ
      exact W.iret (v := (r27 - r35)) hx hb hr (fun t ht hW => ⟨⟨(r27 - r35), (), rfl, rfl, kEnd ht hP⟩, hS.F ht⟩) hS.2.2 dX4_lead_43
  have hl := lv_entry ([.ref aX, .int p1, .int p2]) (n := 4) (Nat.le_of_ble_eq_true rfl)
  rw [lg_entry_eq]
  generalize (lg_sl ([.ref aX, .int p1, .int p2]) ++ List.replicate (4 - (lg_sl ([.ref aX, .int p1, .int p2])).length) Slot.unset).toArray = ls at hl ⊢
  have hl : lv_has ls 4 [(0, .ref aX), (1, .int p1), (2, .int p2)] := hl
  unfold fX4_lead at h
  have E0 : ∀ (H : Heap) (locs : List Loc) (ls : Array Slot), va_P D vwCl (wX aX adC adH adF adT vX ++ wC ty adC vC) H → va_D A (wX aX adC adH adF adT vX ++ wC ty adC vC) → va_S A s.heap H locs → lv_has ls 4 [(0, .ref aX), (1, .int p1), (2, .int p2)] → W p l e (headSpec wsX4_lead { frames := 5, cells := 0, slots := 0, locals := 131 }).room s m ([.ref aX, .int p1, .int p2] : List Value).toArray below meth c H locs 0 0 Q (F0 m 0 ls []) := by
    intro H locs ls hP hD hS hl
    refine lv_aload_n hx hb dX4_lead_0 rfl (lv_at hl 0 rfl) ?_
    refine lv_iload_n hx hb dX4_lead_1 rfl (lv_at hl 1 rfl) ?_
    obtain ⟨r2, e2, h⟩ := kBd h
    refine kCallVI (As := [.int p1]) (rest := []) (wc := wX aX adC adH adF adT vX ++ wC ty adC vC) (w1 := wX aX adC adH adF adT vX ++ wC ty adC vC) (wn := wX aX adC adH adF adT vX ++ wC ty adC vC) ⟨hx, hb, hml, hown, hts⟩ (cX4_depthFault_ok l D ty aX adC adF adH adT H.size vX vC p1  r2 e2) (cwV 1 hts gX4_lead_X4_depthFault rfl rfl rfl (by decide +kernel) ⟨Nat.le_of_ble_eq_true rfl, Nat.le_of_ble_eq_true rfl⟩) hP hK hD hS hA [0, 1, 2, 3, 4, 5, 6, 7, 8] (by decide +kernel) rfl 4 0 rfl rfl rfl rfl hl.1 rfl (Nat.le_of_ble_eq_true rfl) dX4_lead_2 ⟨Nat.le_of_ble_eq_true rfl, Nat.le_of_ble_eq_true rfl⟩ rfl rfl (fun H locs hP hD hS => ?_)
    refine lv_istore_n (lv' := [(3, .int r2), (0, .ref aX), (1, .int p1), (2, .int p2)]) hx hb dX4_lead_5 rfl hl (by decide) rfl (fun ls hl => ?_)
    refine lv_iload_n hx hb dX4_lead_6 rfl (lv_at hl 0 rfl) ?_
    refine lv_ldc hx hb hown wf2 dX4_lead_7 ?_
    refine lv_icmp_eq (tgt := 18) hx hb dX4_lead_9 (by decide) (fun c9 => ?_) (fun c9 => ?_)
    · have h := kT h c9
      exact J18 p1 p2 r2 h H locs ls hP hD hS (lv_sub hl [1, 2, 3, 0] rfl)
    · have h := kF h c9
      refine lv_aload_n hx hb dX4_lead_12 rfl (lv_at hl 1 rfl) ?_
      refine lv_iload_n hx hb dX4_lead_13 rfl (lv_at hl 3 rfl) ?_
      obtain ⟨r14, e14, h⟩ := kBd h
      refine kCallVI (As := [.int p2]) (rest := []) (wc := wX aX adC adH adF adT vX ++ wC ty adC vC) (w1 := wX aX adC adH adF adT vX ++ wC ty adC vC) (wn := wX aX adC adH adF adT vX ++ wC ty adC vC) ⟨hx, hb, hml, hown, hts⟩ (cX4_depthFault_ok l D ty aX adC adF adH adT H.size vX vC p2  r14 e14) (cwV 1 hts gX4_lead_X4_depthFault rfl rfl rfl (by decide +kernel) ⟨Nat.le_of_ble_eq_true rfl, Nat.le_of_ble_eq_true rfl⟩) hP hK hD hS hA [0, 1, 2, 3, 4, 5, 6, 7, 8] (by decide +kernel) rfl 4 0 rfl rfl rfl rfl hl.1 rfl (Nat.le_of_ble_eq_true rfl) dX4_lead_14 ⟨Nat.le_of_ble_eq_true rfl, Nat.le_of_ble_eq_true rfl⟩ rfl rfl (fun H locs hP hD hS => ?_)
      refine lv_istore_n (lv' := [(3, .int r14), (0, .ref aX), (1, .int p1), (2, .int p2)]) hx hb dX4_lead_17 rfl hl (by decide) rfl (fun ls hl => ?_)
      exact J18 p1 p2 r14 h H locs ls hP hD hS (lv_sub hl [1, 2, 3, 0] rfl)
  exact E0 s.heap [] ls hP hD hS hl
def fX4_acts (vX : KX) : Option (Int32) := some vX.1
set_option maxHeartbeats 4000000 in
set_option maxRecDepth 100000 in
theorem cX4_acts_ok (l : Launch) (D : va_G) (ty : kTy) (aX : Nat) (adC adF adH adT : Nat → Nat) (sz : Nat) (vX : KX)  (res : Int32) (h : fX4_acts vX = some res) : kMI l yX4_acts wsX4_acts { frames := 0, cells := 0, slots := 0, locals := 0 } [.ref aX] D ty (wX aX adC adH adF adT vX) sz res (wX aX adC adH adF adT vX) := by
  refine Met.ofW (cc := cX4_acts) (maxL := 1) (ret := (some .int)) (by decide) rfl ?_
  intro p e s m args below meth c s₁ B hml hv
  obtain ⟨rfl, hsz, hP, hK, hD0⟩ := hv
  have hx := B.exec
  have hb := B.bytes
  have hr := B.returns
  have hts := atoms_spec (ws := wsX4_acts) B.pre
  have hown : s.vm.findClass RX4 = some m.cls := findClass_of_methodNamed B.named
  have hlocks := B.notSynchronized
  subst hsz
  have hD := hD0.self (sz := s.heap.size)
  generalize hAe : va_A (wX aX adC adH adF adT vX) s.heap.size = A at hD ⊢
  have hA : ∀ q : Nat, s.heap.size ≤ q → A q := fun q h => by rw [← hAe]; exact Or.inr h
  have hS : va_S A s.heap s.heap [] := va_S.rf
  refine kGenW (fun Q hQ => ?_)
  have wf0 := hts (.fieldLink RX4 37 "IceCoreDater" "acts" "I") (by decide +kernel)
  have hinX4 : ∀ w ∈ wsX40, w ∈ wsX4_acts := by decide +kernel
  have hl := lv_entry ([.ref aX]) (n := 1) (Nat.le_of_ble_eq_true rfl)
  rw [lg_entry_eq]
  generalize (lg_sl ([.ref aX]) ++ List.replicate (1 - (lg_sl ([.ref aX])).length) Slot.unset).toArray = ls at hl ⊢
  have hl : lv_has ls 1 [(0, .ref aX)] := hl
  unfold fX4_acts at h
  have E0 : ∀ (H : Heap) (locs : List Loc) (ls : Array Slot), va_P D vwCl (wX aX adC adH adF adT vX) H → va_D A (wX aX adC adH adF adT vX) → va_S A s.heap H locs → lv_has ls 1 [(0, .ref aX)] → W p l e (headSpec wsX4_acts { frames := 0, cells := 0, slots := 0, locals := 0 }).room s m ([.ref aX] : List Value).toArray below meth c H locs 0 0 Q (F0 m 0 ls []) := by
    intro H locs ls hP hD hS hl
    refine lv_aload_n hx hb dX4_acts_0 rfl (lv_at hl 0 rfl) ?_
    refine va_get (D := D) (ci := 4) (v := .int vX.1) (C := RX4) (T := TX4) (N := 6) hx hb hts hinX4 hown hK.1 hP 0 rfl rfl 4 (by decide) wf0 (fun _ h9 => h9) rfl dX4_acts_1 ?_
    obtain rfl := Option.some.inj h
    subst hQ
    exact W.iret (v := vX.1) hx hb hr (fun t ht hW => ⟨⟨vX.1, (), rfl, rfl, kEnd ht hP⟩, hS.F ht⟩) hS.2.2 dX4_acts_4
  exact E0 s.heap [] ls hP hD hS hl
def fX4_seal (vX : KX) (vC : KC) : Option (Int32) := (fX0_sealOfAges vC).bind fun r4 => some r4
set_option maxHeartbeats 4000000 in
set_option maxRecDepth 100000 in
theorem cX4_seal_ok (l : Launch) (D : va_G) (ty : kTy) (aX : Nat) (adC adF adH adT : Nat → Nat) (sz : Nat) (vX : KX) (vC : KC)  (res : Int32) (h : fX4_seal vX vC = some res) : kMI l yX4_seal wsX4_seal { frames := 4, cells := 0, slots := 0, locals := 105 } [.ref aX] D ty (wX aX adC adH adF adT vX ++ wC ty adC vC) sz res (wX aX adC adH adF adT vX ++ wC ty adC vC) := by
  refine Met.ofW (cc := cX4_seal) (maxL := 1) (ret := (some .int)) (by decide) rfl ?_
  intro p e s m args below meth c s₁ B hml hv
  obtain ⟨rfl, hsz, hP, hK, hD0⟩ := hv
  have hx := B.exec
  have hb := B.bytes
  have hr := B.returns
  have hts := atoms_spec (ws := wsX4_seal) B.pre
  have hown : s.vm.findClass RX4 = some m.cls := findClass_of_methodNamed B.named
  have hlocks := B.notSynchronized
  subst hsz
  have hD := hD0.self (sz := s.heap.size)
  generalize hAe : va_A (wX aX adC adH adF adT vX ++ wC ty adC vC) s.heap.size = A at hD ⊢
  have hA : ∀ q : Nat, s.heap.size ≤ q → A q := fun q h => by rw [← hAe]; exact Or.inr h
  have hS : va_S A s.heap s.heap [] := va_S.rf
  refine kGenW (fun Q hQ => ?_)
  have wf0 := hts (.fieldLink RX4 10 "IceCoreDater" "core" "LIceCoreDater$Core;") (by decide +kernel)
  have hinX4 : ∀ w ∈ wsX40, w ∈ wsX4_seal := by decide +kernel
  have hl := lv_entry ([.ref aX]) (n := 1) (Nat.le_of_ble_eq_true rfl)
  rw [lg_entry_eq]
  generalize (lg_sl ([.ref aX]) ++ List.replicate (1 - (lg_sl ([.ref aX])).length) Slot.unset).toArray = ls at hl ⊢
  have hl : lv_has ls 1 [(0, .ref aX)] := hl
  unfold fX4_seal at h
  have E0 : ∀ (H : Heap) (locs : List Loc) (ls : Array Slot), va_P D vwCl (wX aX adC adH adF adT vX ++ wC ty adC vC) H → va_D A (wX aX adC adH adF adT vX ++ wC ty adC vC) → va_S A s.heap H locs → lv_has ls 1 [(0, .ref aX)] → W p l e (headSpec wsX4_seal { frames := 4, cells := 0, slots := 0, locals := 105 }).room s m ([.ref aX] : List Value).toArray below meth c H locs 0 0 Q (F0 m 0 ls []) := by
    intro H locs ls hP hD hS hl
    refine lv_aload_n hx hb dX4_seal_0 rfl (lv_at hl 0 rfl) ?_
    refine va_get (D := D) (ci := 4) (v := .ref (adC 0)) (C := RX4) (T := TX4) (N := 6) hx hb hts hinX4 hown hK.1 hP 0 rfl rfl 0 (by decide) wf0 (fun _ h9 => h9) rfl dX4_seal_1 ?_
    obtain ⟨r4, e4, h⟩ := kBd h
    refine kCallVI (As := []) (rest := []) (wc := wC ty adC vC) (w1 := wC ty adC vC) (wn := wX aX adC adH adF adT vX ++ wC ty adC vC) ⟨hx, hb, hml, hown, hts⟩ (cX0_sealOfAges_ok l D ty adC H.size vC  r4 e4) (cwV 0 hts gX4_seal_X0_sealOfAges rfl rfl rfl (by decide +kernel) ⟨Nat.le_of_ble_eq_true rfl, Nat.le_of_ble_eq_true rfl⟩) hP hK hD hS hA [1, 2, 3, 4, 5, 6, 7, 8] (by decide +kernel) rfl 0 1 rfl rfl rfl rfl hl.1 rfl (Nat.le_of_ble_eq_true rfl) dX4_seal_4 ⟨Nat.le_of_ble_eq_true rfl, Nat.le_of_ble_eq_true rfl⟩ rfl rfl (fun H locs hP hD hS => ?_)
    obtain rfl := Option.some.inj h
    subst hQ
    exact W.iret (v := r4) hx hb hr (fun t ht hW => ⟨⟨r4, (), rfl, rfl, kEnd ht hP⟩, hS.F ht⟩) hS.2.2 dX4_seal_7
  exact E0 s.heap [] ls hP hD hS hl
def fX4_bestFunction_c34 (vX : KX) (vC : KC) (x1 : Int32) (x2 : Int64) (x4 : Int32) (nx34 : Int32 × Int64 × Int32 → Option (Int32)) : Option (Int32) := if (2 : Int32) < x4 then some x1 else ((fX0_misfit vC x4 vC.2.2.2.1).bind fun r53 => if x2 ≤ r53 then (nx34 (x1, x2, (x4 + 1))) else (nx34 (x4, r53, (x4 + 1))))
def fX4_bestFunction (vX : KX) (vC : KC) : Option (Int32) := (fX0_ashBeds vC).bind fun r4 => if ¬ r4 = (0 : Int32) then ((fX0_misfit vC (0 : Int32) vC.2.2.2.1).bind fun r27 => kLoopC kFu (fun q nx34 => fX4_bestFunction_c34 vX vC q.1 q.2.1 q.2.2 nx34) ((0 : Int32), r27, (1 : Int32))) else (some (-1000000005 : Int32))
set_option maxHeartbeats 4000000 in
set_option maxRecDepth 100000 in
theorem cX4_bestFunction_ok (l : Launch) (D : va_G) (ty : kTy) (aX : Nat) (adC adF adH adT : Nat → Nat) (sz : Nat) (vX : KX) (vC : KC)  (res : Int32) (h : fX4_bestFunction vX vC = some res) : kMI l yX4_bestFunction wsX4_bestFunction { frames := 4, cells := 0, slots := 0, locals := 108 } [.ref aX] D ty (wX aX adC adH adF adT vX ++ wC ty adC vC) sz res (wX aX adC adH adF adT vX ++ wC ty adC vC) := by
  refine Met.ofW (cc := cX4_bestFunction) (maxL := 7) (ret := (some .int)) (by decide) rfl ?_
  intro p e s m args below meth c s₁ B hml hv
  obtain ⟨rfl, hsz, hP, hK, hD0⟩ := hv
  have hx := B.exec
  have hb := B.bytes
  have hr := B.returns
  have hts := atoms_spec (ws := wsX4_bestFunction) B.pre
  have hown : s.vm.findClass RX4 = some m.cls := findClass_of_methodNamed B.named
  have hlocks := B.notSynchronized
  subst hsz
  have hD := hD0.self (sz := s.heap.size)
  generalize hAe : va_A (wX aX adC adH adF adT vX ++ wC ty adC vC) s.heap.size = A at hD ⊢
  have hA : ∀ q : Nat, s.heap.size ≤ q → A q := fun q h => by rw [← hAe]; exact Or.inr h
  have hS : va_S A s.heap s.heap [] := va_S.rf
  refine kGenW (fun Q hQ => ?_)
  have wf0 := hts (.fieldLink RX4 10 "IceCoreDater" "core" "LIceCoreDater$Core;") (by decide +kernel)
  have hinX4 : ∀ w ∈ wsX40, w ∈ wsX4_bestFunction := by decide +kernel
  have wf2 := hts (.fieldLink RX4 149 "IceCoreDater$Core" "kink" "I") (by decide +kernel)
  have hinX0 : ∀ w ∈ wsX00, w ∈ wsX4_bestFunction := by decide +kernel
  have wf4 := hts (.constant RX4 41 (-1000000005)) (by decide +kernel)
  have B34 : ∀ (nx34 : Int32 × Int64 × Int32 → Option (Int32)) (hn34 : ∀ (x1 : Int32) (x2 : Int64) (x4 : Int32), nx34 (x1, x2, x4) = some res → ∀ (H : Heap) (locs : List Loc) (ls : Array Slot), va_P D vwCl (wX aX adC adH adF adT vX ++ wC ty adC vC) H → va_D A (wX aX adC adH adF adT vX ++ wC ty adC vC) → va_S A s.heap H locs → lv_has ls 7 [(0, .ref aX), (1, .int x1), (2, .long x2), (4, .int x4)] → W p l e (headSpec wsX4_bestFunction { frames := 4, cells := 0, slots := 0, locals := 108 }).room s m ([.ref aX] : List Value).toArray below meth c H locs 0 0 Q (F0 m 34 ls [])) (x1 : Int32) (x2 : Int64) (x4 : Int32), fX4_bestFunction_c34 vX vC x1 x2 x4 nx34 = some res → ∀ (H : Heap) (locs : List Loc) (ls : Array Slot), va_P D vwCl (wX aX adC adH adF adT vX ++ wC ty adC vC) H → va_D A (wX aX adC adH adF adT vX ++ wC ty adC vC) → va_S A s.heap H locs → lv_has ls 7 [(0, .ref aX), (1, .int x1), (2, .long x2), (4, .int x4)] → W p l e (headSpec wsX4_bestFunction { frames := 4, cells := 0, slots := 0, locals := 108 }).room s m ([.ref aX] : List Value).toArray below meth c H locs 0 0 Q (F0 m 34 ls []) := by
    intro  nx34 hn34 x1 x2 x4 h H locs ls hP hD hS hl
    unfold fX4_bestFunction_c34 at h
    refine lv_iload hx hb dX4_bestFunction_34 (lv_at hl 3 rfl) ?_
    refine lv_iconst (v := 2) hx hb dX4_bestFunction_36 (by decide) ?_
    refine lv_icmp_gt (tgt := 77) hx hb dX4_bestFunction_37 (by decide) (fun c37 => ?_) (fun c37 => ?_)
    · have h := kT h c37
      refine lv_iload_n hx hb dX4_bestFunction_77 rfl (lv_at hl 1 rfl) ?_
      obtain rfl := Option.some.inj h
      subst hQ
      exact W.iret (v := x1) hx hb hr (fun t ht hW => ⟨⟨x1, (), rfl, rfl, kEnd ht hP⟩, hS.F ht⟩) hS.2.2 dX4_bestFunction_78
    · have h := kF h c37
      refine lv_aload_n hx hb dX4_bestFunction_40 rfl (lv_at hl 0 rfl) ?_
      refine va_get (D := D) (ci := 4) (v := .ref (adC 0)) (C := RX4) (T := TX4) (N := 6) hx hb hts hinX4 hown hK.1 hP 0 rfl rfl 0 (by decide) wf0 (fun _ h9 => h9) rfl dX4_bestFunction_41 ?_
      refine lv_iload hx hb dX4_bestFunction_44 (lv_at hl 3 rfl) ?_
      refine lv_aload_n hx hb dX4_bestFunction_46 rfl (lv_at hl 0 rfl) ?_
      refine va_get (D := D) (ci := 4) (v := .ref (adC 0)) (C := RX4) (T := TX4) (N := 6) hx hb hts hinX4 hown hK.1 hP 0 rfl rfl 0 (by decide) wf0 (fun _ h9 => h9) rfl dX4_bestFunction_47 ?_
      refine va_get (D := D) (ci := 0) (v := .int vC.2.2.2.1) (C := RX0) (T := TX0) (N := 12) hx hb hts hinX0 hown hK.1 hP 1 rfl rfl 3 (by decide) wf2 (fun _ h9 => h9) rfl dX4_bestFunction_50 ?_
      obtain ⟨r53, e53, h⟩ := kBd h
      refine kCallVL (As := [.int x4, .int vC.2.2.2.1]) (rest := []) (wc := wC ty adC vC) (w1 := wC ty adC vC) (wn := wX aX adC adH adF adT vX ++ wC ty adC vC) ⟨hx, hb, hml, hown, hts⟩ (cX0_misfit_ok l D ty adC H.size vC x4 vC.2.2.2.1  r53 e53) (cwV 2 hts gX4_bestFunction_X0_misfit rfl rfl rfl (by decide +kernel) ⟨Nat.le_of_ble_eq_true rfl, Nat.le_of_ble_eq_true rfl⟩) hP hK hD hS hA [1, 2, 3, 4, 5, 6, 7, 8] (by decide +kernel) rfl 0 1 rfl rfl rfl rfl hl.1 rfl (Nat.le_of_ble_eq_true rfl) dX4_bestFunction_53 ⟨Nat.le_of_ble_eq_true rfl, Nat.le_of_ble_eq_true rfl⟩ rfl rfl (fun H locs hP hD hS => ?_)
      refine lv_lstore (lv' := [(5, .long r53), (0, .ref aX), (1, .int x1), (2, .long x2), (4, .int x4)]) hx hb dX4_bestFunction_56 hl (by decide) rfl (fun ls hl => ?_)
      refine lv_lload hx hb dX4_bestFunction_58 (lv_at hl 0 rfl) ?_
      refine lv_lload_n hx hb dX4_bestFunction_60 rfl (lv_at hl 3 rfl) ?_
      refine W.lcmp hx hb dX4_bestFunction_61 ?_
      refine lv_if_ge (tgt := 71) hx hb dX4_bestFunction_62 (by decide) (fun c62 => ?_) (fun c62 => ?_)
      · have h := kT h ((lg_cmp_ge _ _).mp c62)
        refine lv_iinc (v := (x4 + 1)) (lv' := [(4, .int (x4 + 1)), (5, .long r53), (0, .ref aX), (1, .int x1), (2, .long x2)]) hx hb dX4_bestFunction_71 hl (k := 4) rfl rfl (by decide) rfl (fun ls hl => ?_)
        refine lv_goto (tgt := 34) hx hb dX4_bestFunction_74 (by decide) ?_
        exact hn34 x1 x2 (x4 + 1) h H locs ls hP hD hS (lv_sub hl [2, 3, 4, 0] rfl)
      · have h := kF h (fun z => c62 ((lg_cmp_ge _ _).mpr z))
        refine lv_lload hx hb dX4_bestFunction_65 (lv_at hl 0 rfl) ?_
        refine lv_lstore_n (lv' := [(2, .long r53), (5, .long r53), (0, .ref aX), (1, .int x1), (4, .int x4)]) hx hb dX4_bestFunction_67 rfl hl (by decide) rfl (fun ls hl => ?_)
        refine lv_iload hx hb dX4_bestFunction_68 (lv_at hl 4 rfl) ?_
        refine lv_istore_n (lv' := [(1, .int x4), (2, .long r53), (5, .long r53), (0, .ref aX), (4, .int x4)]) hx hb dX4_bestFunction_70 rfl hl (by decide) rfl (fun ls hl => ?_)
        refine lv_iinc (v := (x4 + 1)) (lv' := [(4, .int (x4 + 1)), (1, .int x4), (2, .long r53), (5, .long r53), (0, .ref aX)]) hx hb dX4_bestFunction_71 hl (k := 4) rfl rfl (by decide) rfl (fun ls hl => ?_)
        refine lv_goto (tgt := 34) hx hb dX4_bestFunction_74 (by decide) ?_
        exact hn34 x4 r53 (x4 + 1) h H locs ls hP hD hS (lv_sub hl [4, 1, 2, 0] rfl)
  have L34 : ∀  (n : Nat) (x1 : Int32) (x2 : Int64) (x4 : Int32), kLoopC n (fun q nx34 => fX4_bestFunction_c34 vX vC q.1 q.2.1 q.2.2 nx34) (x1, x2, x4) = some res → ∀ (H : Heap) (locs : List Loc) (ls : Array Slot), va_P D vwCl (wX aX adC adH adF adT vX ++ wC ty adC vC) H → va_D A (wX aX adC adH adF adT vX ++ wC ty adC vC) → va_S A s.heap H locs → lv_has ls 7 [(0, .ref aX), (1, .int x1), (2, .long x2), (4, .int x4)] → W p l e (headSpec wsX4_bestFunction { frames := 4, cells := 0, slots := 0, locals := 108 }).room s m ([.ref aX] : List Value).toArray below meth c H locs 0 0 Q (F0 m 34 ls []) := by
    intro  n
    induction n with
    | zero => intro x1 x2 x4 h; exact absurd h (by simp [kLoopC])
    | succ n ih => intro x1 x2 x4 h; exact B34  (kLoopC n (fun q nx34 => fX4_bestFunction_c34 vX vC q.1 q.2.1 q.2.2 nx34)) ih x1 x2 x4 h
  have hl := lv_entry ([.ref aX]) (n := 7) (Nat.le_of_ble_eq_true rfl)
  rw [lg_entry_eq]
  generalize (lg_sl ([.ref aX]) ++ List.replicate (7 - (lg_sl ([.ref aX])).length) Slot.unset).toArray = ls at hl ⊢
  have hl : lv_has ls 7 [(0, .ref aX)] := hl
  unfold fX4_bestFunction at h
  have E0 : ∀ (H : Heap) (locs : List Loc) (ls : Array Slot), va_P D vwCl (wX aX adC adH adF adT vX ++ wC ty adC vC) H → va_D A (wX aX adC adH adF adT vX ++ wC ty adC vC) → va_S A s.heap H locs → lv_has ls 7 [(0, .ref aX)] → W p l e (headSpec wsX4_bestFunction { frames := 4, cells := 0, slots := 0, locals := 108 }).room s m ([.ref aX] : List Value).toArray below meth c H locs 0 0 Q (F0 m 0 ls []) := by
    intro H locs ls hP hD hS hl
    refine lv_aload_n hx hb dX4_bestFunction_0 rfl (lv_at hl 0 rfl) ?_
    refine va_get (D := D) (ci := 4) (v := .ref (adC 0)) (C := RX4) (T := TX4) (N := 6) hx hb hts hinX4 hown hK.1 hP 0 rfl rfl 0 (by decide) wf0 (fun _ h9 => h9) rfl dX4_bestFunction_1 ?_
    obtain ⟨r4, e4, h⟩ := kBd h
    refine kCallVI (As := []) (rest := []) (wc := wC ty adC vC) (w1 := wC ty adC vC) (wn := wX aX adC adH adF adT vX ++ wC ty adC vC) ⟨hx, hb, hml, hown, hts⟩ (cX0_ashBeds_ok l D ty adC H.size vC  r4 e4) (cwV 0 hts gX4_bestFunction_X0_ashBeds rfl rfl rfl (by decide +kernel) ⟨Nat.le_of_ble_eq_true rfl, Nat.le_of_ble_eq_true rfl⟩) hP hK hD hS hA [1, 2, 3, 4, 5, 6, 7, 8] (by decide +kernel) rfl 0 1 rfl rfl rfl rfl hl.1 rfl (Nat.le_of_ble_eq_true rfl) dX4_bestFunction_4 ⟨Nat.le_of_ble_eq_true rfl, Nat.le_of_ble_eq_true rfl⟩ rfl rfl (fun H locs hP hD hS => ?_)
    refine lv_if_ne (tgt := 13) hx hb dX4_bestFunction_7 (by decide) (fun c7 => ?_) (fun c7 => ?_)
    · have h := kT h c7
      refine lv_iconst (v := 0) hx hb dX4_bestFunction_13 (by decide) ?_
      refine lv_istore_n (lv' := [(1, .int (0 : Int32)), (0, .ref aX)]) hx hb dX4_bestFunction_14 rfl hl (by decide) rfl (fun ls hl => ?_)
      refine lv_aload_n hx hb dX4_bestFunction_15 rfl (lv_at hl 1 rfl) ?_
      refine va_get (D := D) (ci := 4) (v := .ref (adC 0)) (C := RX4) (T := TX4) (N := 6) hx hb hts hinX4 hown hK.1 hP 0 rfl rfl 0 (by decide) wf0 (fun _ h9 => h9) rfl dX4_bestFunction_16 ?_
      refine lv_iconst (v := 0) hx hb dX4_bestFunction_19 (by decide) ?_
      refine lv_aload_n hx hb dX4_bestFunction_20 rfl (lv_at hl 1 rfl) ?_
      refine va_get (D := D) (ci := 4) (v := .ref (adC 0)) (C := RX4) (T := TX4) (N := 6) hx hb hts hinX4 hown hK.1 hP 0 rfl rfl 0 (by decide) wf0 (fun _ h9 => h9) rfl dX4_bestFunction_21 ?_
      refine va_get (D := D) (ci := 0) (v := .int vC.2.2.2.1) (C := RX0) (T := TX0) (N := 12) hx hb hts hinX0 hown hK.1 hP 1 rfl rfl 3 (by decide) wf2 (fun _ h9 => h9) rfl dX4_bestFunction_24 ?_
      obtain ⟨r27, e27, h⟩ := kBd h
      refine kCallVL (As := [.int (0 : Int32), .int vC.2.2.2.1]) (rest := []) (wc := wC ty adC vC) (w1 := wC ty adC vC) (wn := wX aX adC adH adF adT vX ++ wC ty adC vC) ⟨hx, hb, hml, hown, hts⟩ (cX0_misfit_ok l D ty adC H.size vC (0 : Int32) vC.2.2.2.1  r27 e27) (cwV 2 hts gX4_bestFunction_X0_misfit rfl rfl rfl (by decide +kernel) ⟨Nat.le_of_ble_eq_true rfl, Nat.le_of_ble_eq_true rfl⟩) hP hK hD hS hA [1, 2, 3, 4, 5, 6, 7, 8] (by decide +kernel) rfl 0 1 rfl rfl rfl rfl hl.1 rfl (Nat.le_of_ble_eq_true rfl) dX4_bestFunction_27 ⟨Nat.le_of_ble_eq_true rfl, Nat.le_of_ble_eq_true rfl⟩ rfl rfl (fun H locs hP hD hS => ?_)
      refine lv_lstore_n (lv' := [(2, .long r27), (1, .int (0 : Int32)), (0, .ref aX)]) hx hb dX4_bestFunction_30 rfl hl (by decide) rfl (fun ls hl => ?_)
      refine lv_iconst (v := 1) hx hb dX4_bestFunction_31 (by decide) ?_
      refine lv_istore (lv' := [(4, .int (1 : Int32)), (2, .long r27), (1, .int (0 : Int32)), (0, .ref aX)]) hx hb dX4_bestFunction_32 hl (by decide) rfl (fun ls hl => ?_)
      exact L34   kFu (0 : Int32) r27 (1 : Int32) h H locs ls hP hD hS (lv_sub hl [3, 2, 1, 0] rfl)
    · have h := kF h (fun z => z c7)
      refine lv_ldc hx hb hown wf4 dX4_bestFunction_10 ?_
      obtain rfl := Option.some.inj h
      subst hQ
      exact W.iret (v := (-1000000005 : Int32)) hx hb hr (fun t ht hW => ⟨⟨(-1000000005 : Int32), (), rfl, rfl, kEnd ht hP⟩, hS.F ht⟩) hS.2.2 dX4_bestFunction_12
  exact E0 s.heap [] ls hP hD hS hl
