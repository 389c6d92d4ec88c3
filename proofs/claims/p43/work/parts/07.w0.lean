def fX0_copyFrom (vC : KC) (vO : KC) : Option (KC) := some (vO.1, vO.2.1, vO.2.2.1, vO.2.2.2.1, vO.2.2.2.2.1, (va_cpy vO.2.2.2.2.2.1 vC.2.2.2.2.2.1 (0 : Int32).toNatClampNeg (0 : Int32).toNatClampNeg (16 : Int32).toNatClampNeg), (va_cpy vO.2.2.2.2.2.2.1 vC.2.2.2.2.2.2.1 (0 : Int32).toNatClampNeg (0 : Int32).toNatClampNeg (16 : Int32).toNatClampNeg), (va_cpy vO.2.2.2.2.2.2.2.1 vC.2.2.2.2.2.2.2.1 (0 : Int32).toNatClampNeg (0 : Int32).toNatClampNeg (16 : Int32).toNatClampNeg), (va_cpy vO.2.2.2.2.2.2.2.2.1 vC.2.2.2.2.2.2.2.2.1 (0 : Int32).toNatClampNeg (0 : Int32).toNatClampNeg (16 : Int32).toNatClampNeg), (va_cpy vO.2.2.2.2.2.2.2.2.2.1 vC.2.2.2.2.2.2.2.2.2.1 (0 : Int32).toNatClampNeg (0 : Int32).toNatClampNeg (16 : Int32).toNatClampNeg), (va_cpy vO.2.2.2.2.2.2.2.2.2.2.1 vC.2.2.2.2.2.2.2.2.2.2.1 (0 : Int32).toNatClampNeg (0 : Int32).toNatClampNeg (16 : Int32).toNatClampNeg), (va_cpy vO.2.2.2.2.2.2.2.2.2.2.2 vC.2.2.2.2.2.2.2.2.2.2.2 (0 : Int32).toNatClampNeg (0 : Int32).toNatClampNeg (16 : Int32).toNatClampNeg))
set_option maxHeartbeats 4000000 in
set_option maxRecDepth 100000 in
theorem cX0_copyFrom_ok (l : Launch) (D : va_G) (ty : kTy) (adC adO : Nat → Nat) (sz : Nat) (vC : KC) (vO : KC)  (res : KC) (h : fX0_copyFrom vC vO = some res) : kMV l yX0_copyFrom wsX0_copyFrom { frames := 1, cells := 0, slots := 0, locals := 40 } [.ref (adC 0), .ref (adO 0)] D ty (wC ty adC vC ++ wC ty adO vO) sz (wC ty adC res ++ wC ty adO vO) := by
  refine Met.ofW (cc := cX0_copyFrom) (maxL := 2) (ret := none) (by decide) rfl ?_
  intro p e s m args below meth c s₁ B hml hv
  obtain ⟨rfl, hsz, hP, hK, hD0⟩ := hv
  have hx := B.exec
  have hb := B.bytes
  have hr := B.returns
  have hts := atoms_spec (ws := wsX0_copyFrom) B.pre
  have hown : s.vm.findClass RX0 = some m.cls := findClass_of_methodNamed B.named
  have hlocks := B.notSynchronized
  subst hsz
  have hD := hD0.self (sz := s.heap.size)
  generalize hAe : va_A (wC ty adC vC ++ wC ty adO vO) s.heap.size = A at hD ⊢
  have hA : ∀ q : Nat, s.heap.size ≤ q → A q := fun q h => by rw [← hAe]; exact Or.inr h
  have hS : va_S A s.heap s.heap [] := va_S.rf
  refine kGenW (fun Q hQ => ?_)
  have wf0 := hts (.fieldLink RX0 9 "IceCoreDater$Core" "size" "I") (by decide +kernel)
  have hinX0 : ∀ w ∈ wsX00, w ∈ wsX0_copyFrom := by decide +kernel
  have wf2 := hts (.fieldLink RX0 16 "IceCoreDater$Core" "bed" "I") (by decide +kernel)
  have wf3 := hts (.fieldLink RX0 19 "IceCoreDater$Core" "function" "I") (by decide +kernel)
  have wf4 := hts (.fieldLink RX0 22 "IceCoreDater$Core" "kink" "I") (by decide +kernel)
  have wf5 := hts (.fieldLink RX0 25 "IceCoreDater$Core" "closeOff" "I") (by decide +kernel)
  have wf6 := hts (.fieldLink RX0 28 "IceCoreDater$Core" "thickness" "[I") (by decide +kernel)
  have wf7 := hts (.methodLink RX0 50 arraycopyName) (by decide +kernel)
  have wf8 := hts (.native arraycopyName) (by decide +kernel)
  have wf9 := hts (.static arraycopyName) (by decide +kernel)
  have wf10 := hts (.initialized "java/lang/System") (by decide +kernel)
  have wf11 := hts (.fieldLink RX0 32 "IceCoreDater$Core" "accumulation" "[I") (by decide +kernel)
  have wf12 := hts (.fieldLink RX0 35 "IceCoreDater$Core" "correction" "[I") (by decide +kernel)
  have wf13 := hts (.fieldLink RX0 38 "IceCoreDater$Core" "told" "[I") (by decide +kernel)
  have wf14 := hts (.fieldLink RX0 41 "IceCoreDater$Core" "ashAge" "[I") (by decide +kernel)
  have wf15 := hts (.fieldLink RX0 44 "IceCoreDater$Core" "ashTolerance" "[I") (by decide +kernel)
  have wf16 := hts (.fieldLink RX0 47 "IceCoreDater$Core" "count" "[I") (by decide +kernel)
  have hl := lv_entry ([.ref (adC 0), .ref (adO 0)]) (n := 2) (Nat.le_of_ble_eq_true rfl)
  rw [lg_entry_eq]
  generalize (lg_sl ([.ref (adC 0), .ref (adO 0)]) ++ List.replicate (2 - (lg_sl ([.ref (adC 0), .ref (adO 0)])).length) Slot.unset).toArray = ls at hl ⊢
  have hl : lv_has ls 2 [(0, .ref (adC 0)), (1, .ref (adO 0))] := hl
  unfold fX0_copyFrom at h
  have E0 : ∀ (H : Heap) (locs : List Loc) (ls : Array Slot), va_P D vwCl (wC ty adC vC ++ wC ty adO vO) H → va_D A (wC ty adC vC ++ wC ty adO vO) → va_S A s.heap H locs → lv_has ls 2 [(0, .ref (adC 0)), (1, .ref (adO 0))] → W p l e (headSpec wsX0_copyFrom { frames := 1, cells := 0, slots := 0, locals := 40 }).room s m ([.ref (adC 0), .ref (adO 0)] : List Value).toArray below meth c H locs 0 0 Q (F0 m 0 ls []) := by
    intro H locs ls hP hD hS hl
    refine lv_aload_n hx hb dX0_copyFrom_0 rfl (lv_at hl 0 rfl) ?_
    refine lv_aload_n hx hb dX0_copyFrom_1 rfl (lv_at hl 1 rfl) ?_
    refine va_get (D := D) (ci := 0) (v := .int vO.1) (C := RX0) (T := TX0) (N := 12) hx hb hts hinX0 hown hK.1 hP 8 rfl rfl 0 (by decide) wf0 (fun _ h9 => h9) rfl dX0_copyFrom_2 ?_
    refine va_put (D := D) (ci := 0) (v := .int vO.1) (ty := .int) (C := RX0) (T := TX0) (N := 12) hx hb hts hinX0 tyX0 tyX0_ok nmX0 hown hK.1 hP hD hS 0 rfl rfl 0 (by decide) wf0 (fun _ h9 => h9) rfl (by decide +kernel) rfl rfl (Nat.le_of_ble_eq_true rfl) dX0_copyFrom_5 (fun H locs hP hD hS => ?_)
    have hP : va_P D vwCl (wC ty adC (vO.1, vC.2) ++ wC ty adO vO) H := hP
    have hD : va_D A (wC ty adC (vO.1, vC.2) ++ wC ty adO vO) := hD
    refine lv_aload_n hx hb dX0_copyFrom_8 rfl (lv_at hl 0 rfl) ?_
    refine lv_aload_n hx hb dX0_copyFrom_9 rfl (lv_at hl 1 rfl) ?_
    refine va_get (D := D) (ci := 0) (v := .int vO.2.1) (C := RX0) (T := TX0) (N := 12) hx hb hts hinX0 hown hK.1 hP 8 rfl rfl 1 (by decide) wf2 (fun _ h9 => h9) rfl dX0_copyFrom_10 ?_
    refine va_put (D := D) (ci := 0) (v := .int vO.2.1) (ty := .int) (C := RX0) (T := TX0) (N := 12) hx hb hts hinX0 tyX0 tyX0_ok nmX0 hown hK.1 hP hD hS 0 rfl rfl 1 (by decide) wf2 (fun _ h9 => h9) rfl (by decide +kernel) rfl rfl (Nat.le_of_ble_eq_true rfl) dX0_copyFrom_13 (fun H locs hP hD hS => ?_)
    have hP : va_P D vwCl (wC ty adC (vO.1, vO.2.1, vC.2.2) ++ wC ty adO vO) H := hP
    have hD : va_D A (wC ty adC (vO.1, vO.2.1, vC.2.2) ++ wC ty adO vO) := hD
    refine lv_aload_n hx hb dX0_copyFrom_16 rfl (lv_at hl 0 rfl) ?_
    refine lv_aload_n hx hb dX0_copyFrom_17 rfl (lv_at hl 1 rfl) ?_
    refine va_get (D := D) (ci := 0) (v := .int vO.2.2.1) (C := RX0) (T := TX0) (N := 12) hx hb hts hinX0 hown hK.1 hP 8 rfl rfl 2 (by decide) wf3 (fun _ h9 => h9) rfl dX0_copyFrom_18 ?_
    refine va_put (D := D) (ci := 0) (v := .int vO.2.2.1) (ty := .int) (C := RX0) (T := TX0) (N := 12) hx hb hts hinX0 tyX0 tyX0_ok nmX0 hown hK.1 hP hD hS 0 rfl rfl 2 (by decide) wf3 (fun _ h9 => h9) rfl (by decide +kernel) rfl rfl (Nat.le_of_ble_eq_true rfl) dX0_copyFrom_21 (fun H locs hP hD hS => ?_)
    have hP : va_P D vwCl (wC ty adC (vO.1, vO.2.1, vO.2.2.1, vC.2.2.2) ++ wC ty adO vO) H := hP
    have hD : va_D A (wC ty adC (vO.1, vO.2.1, vO.2.2.1, vC.2.2.2) ++ wC ty adO vO) := hD
    refine lv_aload_n hx hb dX0_copyFrom_24 rfl (lv_at hl 0 rfl) ?_
    refine lv_aload_n hx hb dX0_copyFrom_25 rfl (lv_at hl 1 rfl) ?_
    refine va_get (D := D) (ci := 0) (v := .int vO.2.2.2.1) (C := RX0) (T := TX0) (N := 12) hx hb hts hinX0 hown hK.1 hP 8 rfl rfl 3 (by decide) wf4 (fun _ h9 => h9) rfl dX0_copyFrom_26 ?_
    refine va_put (D := D) (ci := 0) (v := .int vO.2.2.2.1) (ty := .int) (C := RX0) (T := TX0) (N := 12) hx hb hts hinX0 tyX0 tyX0_ok nmX0 hown hK.1 hP hD hS 0 rfl rfl 3 (by decide) wf4 (fun _ h9 => h9) rfl (by decide +kernel) rfl rfl (Nat.le_of_ble_eq_true rfl) dX0_copyFrom_29 (fun H locs hP hD hS => ?_)
    have hP : va_P D vwCl (wC ty adC (vO.1, vO.2.1, vO.2.2.1, vO.2.2.2.1, vC.2.2.2.2) ++ wC ty adO vO) H := hP
    have hD : va_D A (wC ty adC (vO.1, vO.2.1, vO.2.2.1, vO.2.2.2.1, vC.2.2.2.2) ++ wC ty adO vO) := hD
    refine lv_aload_n hx hb dX0_copyFrom_32 rfl (lv_at hl 0 rfl) ?_
    refine lv_aload_n hx hb dX0_copyFrom_33 rfl (lv_at hl 1 rfl) ?_
    refine va_get (D := D) (ci := 0) (v := .int vO.2.2.2.2.1) (C := RX0) (T := TX0) (N := 12) hx hb hts hinX0 hown hK.1 hP 8 rfl rfl 4 (by decide) wf5 (fun _ h9 => h9) rfl dX0_copyFrom_34 ?_
    refine va_put (D := D) (ci := 0) (v := .int vO.2.2.2.2.1) (ty := .int) (C := RX0) (T := TX0) (N := 12) hx hb hts hinX0 tyX0 tyX0_ok nmX0 hown hK.1 hP hD hS 0 rfl rfl 4 (by decide) wf5 (fun _ h9 => h9) rfl (by decide +kernel) rfl rfl (Nat.le_of_ble_eq_true rfl) dX0_copyFrom_37 (fun H locs hP hD hS => ?_)
    have hP : va_P D vwCl (wC ty adC (vO.1, vO.2.1, vO.2.2.1, vO.2.2.2.1, vO.2.2.2.2.1, vC.2.2.2.2.2) ++ wC ty adO vO) H := hP
    have hD : va_D A (wC ty adC (vO.1, vO.2.1, vO.2.2.1, vO.2.2.2.1, vO.2.2.2.2.1, vC.2.2.2.2.2) ++ wC ty adO vO) := hD
    refine lv_aload_n hx hb dX0_copyFrom_40 rfl (lv_at hl 1 rfl) ?_
    refine va_get (D := D) (ci := 0) (v := .ref (adO 1)) (C := RX0) (T := TX0) (N := 12) hx hb hts hinX0 hown hK.1 hP 8 rfl rfl 5 (by decide) wf6 (fun _ h9 => h9) rfl dX0_copyFrom_41 ?_
    refine lv_iconst (v := 0) hx hb dX0_copyFrom_44 (by decide) ?_
    refine lv_aload_n hx hb dX0_copyFrom_45 rfl (lv_at hl 0 rfl) ?_
    refine va_get (D := D) (ci := 0) (v := .ref (adC 1)) (C := RX0) (T := TX0) (N := 12) hx hb hts hinX0 hown hK.1 hP 0 rfl rfl 5 (by decide) wf6 (fun _ h9 => h9) rfl dX0_copyFrom_46 ?_
    refine lv_iconst (v := 0) hx hb dX0_copyFrom_49 (by decide) ?_
    refine lv_bipush (v := 16) hx hb dX0_copyFrom_50 (by decide) ?_
    refine va_copyi (f := vO.2.2.2.2.2.1) (g := vC.2.2.2.2.2.1) hx hb (hml.trans hl.1.symm) hown wf7 wf8 wf9 wf10 hK.1 hP hD hS 9 1 0 0 rfl rfl rfl rfl rfl (by decide) (by decide) (by decide) (by decide) (by decide) (fun _ _ => rfl) (Nat.le_of_ble_eq_true rfl) (Nat.le_of_ble_eq_true rfl) dX0_copyFrom_52 (fun H locs hP hD hS => ?_)
    have hP : va_P D vwCl (wC ty adC (vO.1, vO.2.1, vO.2.2.1, vO.2.2.2.1, vO.2.2.2.2.1, (va_cpy vO.2.2.2.2.2.1 vC.2.2.2.2.2.1 (0 : Int32).toNatClampNeg (0 : Int32).toNatClampNeg (16 : Int32).toNatClampNeg), vC.2.2.2.2.2.2) ++ wC ty adO vO) H := hP
    have hD : va_D A (wC ty adC (vO.1, vO.2.1, vO.2.2.1, vO.2.2.2.1, vO.2.2.2.2.1, (va_cpy vO.2.2.2.2.2.1 vC.2.2.2.2.2.1 (0 : Int32).toNatClampNeg (0 : Int32).toNatClampNeg (16 : Int32).toNatClampNeg), vC.2.2.2.2.2.2) ++ wC ty adO vO) := hD
    refine lv_aload_n hx hb dX0_copyFrom_55 rfl (lv_at hl 1 rfl) ?_
    refine va_get (D := D) (ci := 0) (v := .ref (adO 2)) (C := RX0) (T := TX0) (N := 12) hx hb hts hinX0 hown hK.1 hP 8 rfl rfl 6 (by decide) wf11 (fun _ h9 => h9) rfl dX0_copyFrom_56 ?_
    refine lv_iconst (v := 0) hx hb dX0_copyFrom_59 (by decide) ?_
    refine lv_aload_n hx hb dX0_copyFrom_60 rfl (lv_at hl 0 rfl) ?_
    refine va_get (D := D) (ci := 0) (v := .ref (adC 2)) (C := RX0) (T := TX0) (N := 12) hx hb hts hinX0 hown hK.1 hP 0 rfl rfl 6 (by decide) wf11 (fun _ h9 => h9) rfl dX0_copyFrom_61 ?_
    refine lv_iconst (v := 0) hx hb dX0_copyFrom_64 (by decide) ?_
    refine lv_bipush (v := 16) hx hb dX0_copyFrom_65 (by decide) ?_
    refine va_copyi (f := vO.2.2.2.2.2.2.1) (g := vC.2.2.2.2.2.2.1) hx hb (hml.trans hl.1.symm) hown wf7 wf8 wf9 wf10 hK.1 hP hD hS 10 2 0 0 rfl rfl rfl rfl rfl (by decide) (by decide) (by decide) (by decide) (by decide) (fun _ _ => rfl) (Nat.le_of_ble_eq_true rfl) (Nat.le_of_ble_eq_true rfl) dX0_copyFrom_67 (fun H locs hP hD hS => ?_)
    have hP : va_P D vwCl (wC ty adC (vO.1, vO.2.1, vO.2.2.1, vO.2.2.2.1, vO.2.2.2.2.1, (va_cpy vO.2.2.2.2.2.1 vC.2.2.2.2.2.1 (0 : Int32).toNatClampNeg (0 : Int32).toNatClampNeg (16 : Int32).toNatClampNeg), (va_cpy vO.2.2.2.2.2.2.1 vC.2.2.2.2.2.2.1 (0 : Int32).toNatClampNeg (0 : Int32).toNatClampNeg (16 : Int32).toNatClampNeg), vC.2.2.2.2.2.2.2) ++ wC ty adO vO) H := hP
    have hD : va_D A (wC ty adC (vO.1, vO.2.1, vO.2.2.1, vO.2.2.2.1, vO.2.2.2.2.1, (va_cpy vO.2.2.2.2.2.1 vC.2.2.2.2.2.1 (0 : Int32).toNatClampNeg (0 : Int32).toNatClampNeg (16 : Int32).toNatClampNeg), (va_cpy vO.2.2.2.2.2.2.1 vC.2.2.2.2.2.2.1 (0 : Int32).toNatClampNeg (0 : Int32).toNatClampNeg (16 : Int32).toNatClampNeg), vC.2.2.2.2.2.2.2) ++ wC ty adO vO) := hD
    refine lv_aload_n hx hb dX0_copyFrom_70 rfl (lv_at hl 1 rfl) ?_
    refine va_get (D := D) (ci := 0) (v := .ref (adO 3)) (C := RX0) (T := TX0) (N := 12) hx hb hts hinX0 hown hK.1 hP 8 rfl rfl 7 (by decide) wf12 (fun _ h9 => h9) rfl dX0_copyFrom_71 ?_
    refine lv_iconst (v := 0) hx hb dX0_copyFrom_74 (by decide) ?_
    refine lv_aload_n hx hb dX0_copyFrom_75 rfl (lv_at hl 0 rfl) ?_
    refine va_get (D := D) (ci := 0) (v := .ref (adC 3)) (C := RX0) (T := TX0) (N := 12) hx hb hts hinX0 hown hK.1 hP 0 rfl rfl 7 (by decide) wf12 (fun _ h9 => h9) rfl dX0_copyFrom_76 ?_
    refine lv_iconst (v := 0) hx hb dX0_copyFrom_79 (by decide) ?_
    refine lv_bipush (v := 16) hx hb dX0_copyFrom_80 (by decide) ?_
    refine va_copyi (f := vO.2.2.2.2.2.2.2.1) (g := vC.2.2.2.2.2.2.2.1) hx hb (hml.trans hl.1.symm) hown wf7 wf8 wf9 wf10 hK.1 hP hD hS 11 3 0 0 rfl rfl rfl rfl rfl (by decide) (by decide) (by decide) (by decide) (by decide) (fun _ _ => rfl) (Nat.le_of_ble_eq_true rfl) (Nat.le_of_ble_eq_true rfl) dX0_copyFrom_82 (fun H locs hP hD hS => ?_)
    have hP : va_P D vwCl (wC ty adC (vO.1, vO.2.1, vO.2.2.1, vO.2.2.2.1, vO.2.2.2.2.1, (va_cpy vO.2.2.2.2.2.1 vC.2.2.2.2.2.1 (0 : Int32).toNatClampNeg (0 : Int32).toNatClampNeg (16 : Int32).toNatClampNeg), (va_cpy vO.2.2.2.2.2.2.1 vC.2.2.2.2.2.2.1 (0 : Int32).toNatClampNeg (0 : Int32).toNatClampNeg (16 : Int32).toNatClampNeg), (va_cpy vO.2.2.2.2.2.2.2.1 vC.2.2.2.2.2.2.2.1 (0 : Int32).toNatClampNeg (0 : Int32).toNatClampNeg (16 : Int32).toNatClampNeg), vC.2.2.2.2.2.2.2.2) ++ wC ty adO vO) H := hP
    have hD : va_D A (wC ty adC (vO.1, vO.2.1, vO.2.2.1, vO.2.2.2.1, vO.2.2.2.2.1, (va_cpy vO.2.2.2.2.2.1 vC.2.2.2.2.2.1 (0 : Int32).toNatClampNeg (0 : Int32).toNatClampNeg (16 : Int32).toNatClampNeg), (va_cpy vO.2.2.2.2.2.2.1 vC.2.2.2.2.2.2.1 (0 : Int32).toNatClampNeg (0 : Int32).toNatClampNeg (16 : Int32).toNatClampNeg), (va_cpy vO.2.2.2.2.2.2.2.1 vC.2.2.2.2.2.2.2.1 (0 : Int32).toNatClampNeg (0 : Int32).toNatClampNeg (16 : Int32).toNatClampNeg), vC.2.2.2.2.2.2.2.2) ++ wC ty adO vO) := hD
    refine lv_aload_n hx hb dX0_copyFrom_85 rfl (lv_at hl 1 rfl) ?_
    refine va_get (D := D) (ci := 0) (v := .ref (adO 4)) (C := RX0) (T := TX0) (N := 12) hx hb hts hinX0 hown hK.1 hP 8 rfl rfl 8 (by decide) wf13 (fun _ h9 => h9) rfl dX0_copyFrom_86 ?_
    refine lv_iconst (v := 0) hx hb dX0_copyFrom_89 (by decide) ?_
    refine lv_aload_n hx hb dX0_copyFrom_90 rfl (lv_at hl 0 rfl) ?_
    refine va_get (D := D) (ci := 0) (v := .ref (adC 4)) (C := RX0) (T := TX0) (N := 12) hx hb hts hinX0 hown hK.1 hP 0 rfl rfl 8 (by decide) wf13 (fun _ h9 => h9) rfl dX0_copyFrom_91 ?_
    refine lv_iconst (v := 0) hx hb dX0_copyFrom_94 (by decide) ?_
    refine lv_bipush (v := 16) hx hb dX0_copyFrom_95 (by decide) ?_
    refine va_copyi (f := vO.2.2.2.2.2.2.2.2.1) (g := vC.2.2.2.2.2.2.2.2.1) hx hb (hml.trans hl.1.symm) hown wf7 wf8 wf9 wf10 hK.1 hP hD hS 12 4 0 0 rfl rfl rfl rfl rfl (by decide) (by decide) (by decide) (by decide) (by decide) (fun _ _ => rfl) (Nat.le_of_ble_eq_true rfl) (Nat.le_of_ble_eq_true rfl) dX0_copyFrom_97 (fun H locs hP hD hS => ?_)
    have hP : va_P D vwCl (wC ty adC (vO.1, vO.2.1, vO.2.2.1, vO.2.2.2.1, vO.2.2.2.2.1, (va_cpy vO.2.2.2.2.2.1 vC.2.2.2.2.2.1 (0 : Int32).toNatClampNeg (0 : Int32).toNatClampNeg (16 : Int32).toNatClampNeg), (va_cpy vO.2.2.2.2.2.2.1 vC.2.2.2.2.2.2.1 (0 : Int32).toNatClampNeg (0 : Int32).toNatClampNeg (16 : Int32).toNatClampNeg), (va_cpy vO.2.2.2.2.2.2.2.1 vC.2.2.2.2.2.2.2.1 (0 : Int32).toNatClampNeg (0 : Int32).toNatClampNeg (16 : Int32).toNatClampNeg), (va_cpy vO.2.2.2.2.2.2.2.2.1 vC.2.2.2.2.2.2.2.2.1 (0 : Int32).toNatClampNeg (0 : Int32).toNatClampNeg (16 : Int32).toNatClampNeg), vC.2.2.2.2.2.2.2.2.2) ++ wC ty adO vO) H := hP
    have hD : va_D A (wC ty adC (vO.1, vO.2.1, vO.2.2.1, vO.2.2.2.1, vO.2.2.2.2.1, (va_cpy vO.2.2.2.2.2.1 vC.2.2.2.2.2.1 (0 : Int32).toNatClampNeg (0 : Int32).toNatClampNeg (16 : Int32).toNatClampNeg), (va_cpy vO.2.2.2.2.2.2.1 vC.2.2.2.2.2.2.1 (0 : Int32).toNatClampNeg (0 : Int32).toNatClampNeg (16 : Int32).toNatClampNeg), (va_cpy vO.2.2.2.2.2.2.2.1 vC.2.2.2.2.2.2.2.1 (0 : Int32).toNatClampNeg (0 : Int32).toNatClampNeg (16 : Int32).toNatClampNeg), (va_cpy vO.2.2.2.2.2.2.2.2.1 vC.2.2.2.2.2.2.2.2.1 (0 : Int32).toNatClampNeg (0 : Int32).toNatClampNeg (16 : Int32).toNatClampNeg), vC.2.2.2.2.2.2.2.2.2) ++ wC ty adO vO) := hD
    refine lv_aload_n hx hb dX0_copyFrom_100 rfl (lv_at hl 1 rfl) ?_
    refine va_get (D := D) (ci := 0) (v := .ref (adO 5)) (C := RX0) (T := TX0) (N := 12) hx hb hts hinX0 hown hK.1 hP 8 rfl rfl 9 (by decide) wf14 (fun _ h9 => h9) rfl dX0_copyFrom_101 ?_
    refine lv_iconst (v := 0) hx hb dX0_copyFrom_104 (by decide) ?_
    refine lv_aload_n hx hb dX0_copyFrom_105 rfl (lv_at hl 0 rfl) ?_
    refine va_get (D := D) (ci := 0) (v := .ref (adC 5)) (C := RX0) (T := TX0) (N := 12) hx hb hts hinX0 hown hK.1 hP 0 rfl rfl 9 (by decide) wf14 (fun _ h9 => h9) rfl dX0_copyFrom_106 ?_
    refine lv_iconst (v := 0) hx hb dX0_copyFrom_109 (by decide) ?_
    refine lv_bipush (v := 16) hx hb dX0_copyFrom_110 (by decide) ?_
    refine va_copyi (f := vO.2.2.2.2.2.2.2.2.2.1) (g := vC.2.2.2.2.2.2.2.2.2.1) hx hb (hml.trans hl.1.symm) hown wf7 wf8 wf9 wf10 hK.1 hP hD hS 13 5 0 0 rfl rfl rfl rfl rfl (by decide) (by decide) (by decide) (by decide) (by decide) (fun _ _ => rfl) (Nat.le_of_ble_eq_true rfl) (Nat.le_of_ble_eq_true rfl) dX0_copyFrom_112 (fun H locs hP hD hS => ?_)
    have hP : va_P D vwCl (wC ty adC (vO.1, vO.2.1, vO.2.2.1, vO.2.2.2.1, vO.2.2.2.2.1, (va_cpy vO.2.2.2.2.2.1 vC.2.2.2.2.2.1 (0 : Int32).toNatClampNeg (0 : Int32).toNatClampNeg (16 : Int32).toNatClampNeg), (va_cpy vO.2.2.2.2.2.2.1 vC.2.2.2.2.2.2.1 (0 : Int32).toNatClampNeg (0 : Int32).toNatClampNeg (16 : Int32).toNatClampNeg), (va_cpy vO.2.2.2.2.2.2.2.1 vC.2.2.2.2.2.2.2.1 (0 : Int32).toNatClampNeg (0 : Int32).toNatClampNeg (16 : Int32).toNatClampNeg), (va_cpy vO.2.2.2.2.2.2.2.2.1 vC.2.2.2.2.2.2.2.2.1 (0 : Int32).toNatClampNeg (0 : Int32).toNatClampNeg (16 : Int32).toNatClampNeg), (va_cpy vO.2.2.2.2.2.2.2.2.2.1 vC.2.2.2.2.2.2.2.2.2.1 (0 : Int32).toNatClampNeg (0 : Int32).toNatClampNeg (16 : Int32).toNatClampNeg), vC.2.2.2.2.2.2.2.2.2.2) ++ wC ty adO vO) H := hP
    have hD : va_D A (wC ty adC (vO.1, vO.2.1, vO.2.2.1, vO.2.2.2.1, vO.2.2.2.2.1, (va_cpy vO.2.2.2.2.2.1 vC.2.2.2.2.2.1 (0 : Int32).toNatClampNeg (0 : Int32).toNatClampNeg (16 : Int32).toNatClampNeg), (va_cpy vO.2.2.2.2.2.2.1 vC.2.2.2.2.2.2.1 (0 : Int32).toNatClampNeg (0 : Int32).toNatClampNeg (16 : Int32).toNatClampNeg), (va_cpy vO.2.2.2.2.2.2.2.1 vC.2.2.2.2.2.2.2.1 (0 : Int32).toNatClampNeg (0 : Int32).toNatClampNeg (16 : Int32).toNatClampNeg), (va_cpy vO.2.2.2.2.2.2.2.2.1 vC.2.2.2.2.2.2.2.2.1 (0 : Int32).toNatClampNeg (0 : Int32).toNatClampNeg (16 : Int32).toNatClampNeg), (va_cpy vO.2.2.2.2.2.2.2.2.2.1 vC.2.2.2.2.2.2.2.2.2.1 (0 : Int32).toNatClampNeg (0 : Int32).toNatClampNeg (16 : Int32).toNatClampNeg), vC.2.2.2.2.2.2.2.2.2.2) ++ wC ty adO vO) := hD
    refine lv_aload_n hx hb dX0_copyFrom_115 rfl (lv_at hl 1 rfl) ?_
    refine va_get (D := D) (ci := 0) (v := .ref (adO 6)) (C := RX0) (T := TX0) (N := 12) hx hb hts hinX0 hown hK.1 hP 8 rfl rfl 10 (by decide) wf15 (fun _ h9 => h9) rfl dX0_copyFrom_116 ?_
    refine lv_iconst (v := 0) hx hb dX0_copyFrom_119 (by decide) ?_
    refine lv_aload_n hx hb dX0_copyFrom_120 rfl (lv_at hl 0 rfl) ?_
    refine va_get (D := D) (ci := 0) (v := .ref (adC 6)) (C := RX0) (T := TX0) (N := 12) hx hb hts hinX0 hown hK.1 hP 0 rfl rfl 10 (by decide) wf15 (fun _ h9 => h9) rfl dX0_copyFrom_121 ?_
    refine lv_iconst (v := 0) hx hb dX0_copyFrom_124 (by decide) ?_
    refine lv_bipush (v := 16) hx hb dX0_copyFrom_125 (by decide) ?_
    refine va_copyi (f := vO.2.2.2.2.2.2.2.2.2.2.1) (g := vC.2.2.2.2.2.2.2.2.2.2.1) hx hb (hml.trans hl.1.symm) hown wf7 wf8 wf9 wf10 hK.1 hP hD hS 14 6 0 0 rfl rfl rfl rfl rfl (by decide) (by decide) (by decide) (by decide) (by decide) (fun _ _ => rfl) (Nat.le_of_ble_eq_true rfl) (Nat.le_of_ble_eq_true rfl) dX0_copyFrom_127 (fun H locs hP hD hS => ?_)
    have hP : va_P D vwCl (wC ty adC (vO.1, vO.2.1, vO.2.2.1, vO.2.2.2.1, vO.2.2.2.2.1, (va_cpy vO.2.2.2.2.2.1 vC.2.2.2.2.2.1 (0 : Int32).toNatClampNeg (0 : Int32).toNatClampNeg (16 : Int32).toNatClampNeg), (va_cpy vO.2.2.2.2.2.2.1 vC.2.2.2.2.2.2.1 (0 : Int32).toNatClampNeg (0 : Int32).toNatClampNeg (16 : Int32).toNatClampNeg), (va_cpy vO.2.2.2.2.2.2.2.1 vC.2.2.2.2.2.2.2.1 (0 : Int32).toNatClampNeg (0 : Int32).toNatClampNeg (16 : Int32).toNatClampNeg), (va_cpy vO.2.2.2.2.2.2.2.2.1 vC.2.2.2.2.2.2.2.2.1 (0 : Int32).toNatClampNeg (0 : Int32).toNatClampNeg (16 : Int32).toNatClampNeg), (va_cpy vO.2.2.2.2.2.2.2.2.2.1 vC.2.2.2.2.2.2.2.2.2.1 (0 : Int32).toNatClampNeg (0 : Int32).toNatClampNeg (16 : Int32).toNatClampNeg), (va_cpy vO.2.2.2.2.2.2.2.2.2.2.1 vC.2.2.2.2.2.2.2.2.2.2.1 (0 : Int32).toNatClampNeg (0 : Int32).toNatClampNeg (16 : Int32).toNatClampNeg), vC.2.2.2.2.2.2.2.2.2.2.2) ++ wC ty adO vO) H := hP
    have hD : va_D A (wC ty adC (vO.1, vO.2.1, vO.2.2.1, vO.2.2.2.1, vO.2.2.2.2.1, (va_cpy vO.2.2.2.2.2.1 vC.2.2.2.2.2.1 (0 : Int32).toNatClampNeg (0 : Int32).toNatClampNeg (16 : Int32).toNatClampNeg), (va_cpy vO.2.2.2.2.2.2.1 vC.2.2.2.2.2.2.1 (0 : Int32).toNatClampNeg (0 : Int32).toNatClampNeg (16 : Int32).toNatClampNeg), (va_cpy vO.2.2.2.2.2.2.2.1 vC.2.2.2.2.2.2.2.1 (0 : Int32).toNatClampNeg (0 : Int32).toNatClampNeg (16 : Int32).toNatClampNeg), (va_cpy vO.2.2.2.2.2.2.2.2.1 vC.2.2.2.2.2.2.2.2.1 (0 : Int32).toNatClampNeg (0 : Int32).toNatClampNeg (16 : Int32).toNatClampNeg), (va_cpy vO.2.2.2.2.2.2.2.2.2.1 vC.2.2.2.2.2.2.2.2.2.1 (0 : Int32).toNatClampNeg (0 : Int32).toNatClampNeg (16 : Int32).toNatClampNeg), (va_cpy vO.2.2.2.2.2.2.2.2.2.2.1 vC.2.2.2.2.2.2.2.2.2.2.1 (0 : Int32).toNatClampNeg (0 : Int32).toNatClampNeg (16 : Int32).toNatClampNeg), vC.2.2.2.2.2.2.2.2.2.2.2) ++ wC ty adO vO) := hD
    refine lv_aload_n hx hb dX0_copyFrom_130 rfl (lv_at hl 1 rfl) ?_
    refine va_get (D := D) (ci := 0) (v := .ref (adO 7)) (C := RX0) (T := TX0) (N := 12) hx hb hts hinX0 hown hK.1 hP 8 rfl rfl 11 (by decide) wf16 (fun _ h9 => h9) rfl dX0_copyFrom_131 ?_
    refine lv_iconst (v := 0) hx hb dX0_copyFrom_134 (by decide) ?_
    refine lv_aload_n hx hb dX0_copyFrom_135 rfl (lv_at hl 0 rfl) ?_
    refine va_get (D := D) (ci := 0) (v := .ref (adC 7)) (C := RX0) (T := TX0) (N := 12) hx hb hts hinX0 hown hK.1 hP 0 rfl rfl 11 (by decide) wf16 (fun _ h9 => h9) rfl dX0_copyFrom_136 ?_
    refine lv_iconst (v := 0) hx hb dX0_copyFrom_139 (by decide) ?_
    refine lv_bipush (v := 16) hx hb dX0_copyFrom_140 (by decide) ?_
    refine va_copyi (f := vO.2.2.2.2.2.2.2.2.2.2.2) (g := vC.2.2.2.2.2.2.2.2.2.2.2) hx hb (hml.trans hl.1.symm) hown wf7 wf8 wf9 wf10 hK.1 hP hD hS 15 7 0 0 rfl rfl rfl rfl rfl (by decide) (by decide) (by decide) (by decide) (by decide) (fun _ _ => rfl) (Nat.le_of_ble_eq_true rfl) (Nat.le_of_ble_eq_true rfl) dX0_copyFrom_142 (fun H locs hP hD hS => ?_)
    have hP : va_P D vwCl (wC ty adC (vO.1, vO.2.1, vO.2.2.1, vO.2.2.2.1, vO.2.2.2.2.1, (va_cpy vO.2.2.2.2.2.1 vC.2.2.2.2.2.1 (0 : Int32).toNatClampNeg (0 : Int32).toNatClampNeg (16 : Int32).toNatClampNeg), (va_cpy vO.2.2.2.2.2.2.1 vC.2.2.2.2.2.2.1 (0 : Int32).toNatClampNeg (0 : Int32).toNatClampNeg (16 : Int32).toNatClampNeg), (va_cpy vO.2.2.2.2.2.2.2.1 vC.2.2.2.2.2.2.2.1 (0 : Int32).toNatClampNeg (0 : Int32).toNatClampNeg (16 : Int32).toNatClampNeg), (va_cpy vO.2.2.2.2.2.2.2.2.1 vC.2.2.2.2.2.2.2.2.1 (0 : Int32).toNatClampNeg (0 : Int32).toNatClampNeg (16 : Int32).toNatClampNeg), (va_cpy vO.2.2.2.2.2.2.2.2.2.1 vC.2.2.2.2.2.2.2.2.2.1 (0 : Int32).toNatClampNeg (0 : Int32).toNatClampNeg (16 : Int32).toNatClampNeg), (va_cpy vO.2.2.2.2.2.2.2.2.2.2.1 vC.2.2.2.2.2.2.2.2.2.2.1 (0 : Int32).toNatClampNeg (0 : Int32).toNatClampNeg (16 : Int32).toNatClampNeg), (va_cpy vO.2.2.2.2.2.2.2.2.2.2.2 vC.2.2.2.2.2.2.2.2.2.2.2 (0 : Int32).toNatClampNeg (0 : Int32).toNatClampNeg (16 : Int32).toNatClampNeg)) ++ wC ty adO vO) H := hP
    have hD : va_D A (wC ty adC (vO.1, vO.2.1, vO.2.2.1, vO.2.2.2.1, vO.2.2.2.2.1, (va_cpy vO.2.2.2.2.2.1 vC.2.2.2.2.2.1 (0 : Int32).toNatClampNeg (0 : Int32).toNatClampNeg (16 : Int32).toNatClampNeg), (va_cpy vO.2.2.2.2.2.2.1 vC.2.2.2.2.2.2.1 (0 : Int32).toNatClampNeg (0 : Int32).toNatClampNeg (16 : Int32).toNatClampNeg), (va_cpy vO.2.2.2.2.2.2.2.1 vC.2.2.2.2.2.2.2.1 (0 : Int32).toNatClampNeg (0 : Int32).toNatClampNeg (16 : Int32).toNatClampNeg), (va_cpy vO.2.2.2.2.2.2.2.2.1 vC.2.2.2.2.2.2.2.2.1 (0 : Int32).toNatClampNeg (0 : Int32).toNatClampNeg (16 : Int32).toNatClampNeg), (va_cpy vO.2.2.2.2.2.2.2.2.2.1 vC.2.2.2.2.2.2.2.2.2.1 (0 : Int32).toNatClampNeg (0 : Int32).toNatClampNeg (16 : Int32).toNatClampNeg), (va_cpy vO.2.2.2.2.2.2.2.2.2.2.1 vC.2.2.2.2.2.2.2.2.2.2.1 (0 : Int32).toNatClampNeg (0 : Int32).toNatClampNeg (16 : Int32).toNatClampNeg), (va_cpy vO.2.2.2.2.2.2.2.2.2.2.2 vC.2.2.2.2.2.2.2.2.2.2.2 (0 : Int32).toNatClampNeg (0 : Int32).toNatClampNeg (16 : Int32).toNatClampNeg)) ++ wC ty adO vO) := hD
    obtain rfl := Option.some.inj h
    subst hQ
    exact W.vret hx hb hr (fun t ht hW => ⟨⟨(), rfl, trivial, kEnd ht hP⟩, hS.F ht⟩) hS.2.2 dX0_copyFrom_145
  exact E0 s.heap [] ls hP hD hS hl
def fX0_has (vC : KC) (p1 : Int32) : Option (Int32) := if p1 < (0 : Int32) then (some (0 : Int32)) else (if vC.1 ≤ p1 then (some (0 : Int32)) else (some (1 : Int32)))
set_option maxHeartbeats 4000000 in
set_option maxRecDepth 100000 in
theorem cX0_has_ok (l : Launch) (D : va_G) (ty : kTy) (adC : Nat → Nat) (sz : Nat) (vC : KC) (p1 : Int32)  (res : Int32) (h : fX0_has vC p1 = some res) : kMI l yX0_has wsX0_has { frames := 0, cells := 0, slots := 0, locals := 0 } [.ref (adC 0), .int p1] D ty (wC ty adC vC) sz res (wC ty adC vC) := by
  refine Met.ofW (cc := cX0_has) (maxL := 2) (ret := (some .boolean)) (by decide) rfl ?_
  intro p e s m args below meth c s₁ B hml hv
  obtain ⟨rfl, hsz, hP, hK, hD0⟩ := hv
  have hx := B.exec
  have hb := B.bytes
  have hr := B.returns
  have hts := atoms_spec (ws := wsX0_has) B.pre
  have hown : s.vm.findClass RX0 = some m.cls := findClass_of_methodNamed B.named
  have hlocks := B.notSynchronized
  subst hsz
  have hD := hD0.self (sz := s.heap.size)
  generalize hAe : va_A (wC ty adC vC) s.heap.size = A at hD ⊢
  have hA : ∀ q : Nat, s.heap.size ≤ q → A q := fun q h => by rw [← hAe]; exact Or.inr h
  have hS : va_S A s.heap s.heap [] := va_S.rf
  refine kGenW (fun Q hQ => ?_)
  have wf0 := hts (.fieldLink RX0 9 "IceCoreDater$Core" "size" "I") (by decide +kernel)
  have hinX0 : ∀ w ∈ wsX00, w ∈ wsX0_has := by decide +kernel
  have hl := lv_entry ([.ref (adC 0), .int p1]) (n := 2) (Nat.le_of_ble_eq_true rfl)
  rw [lg_entry_eq]
  generalize (lg_sl ([.ref (adC 0), .int p1]) ++ List.replicate (2 - (lg_sl ([.ref (adC 0), .int p1])).length) Slot.unset).toArray = ls at hl ⊢
  have hl : lv_has ls 2 [(0, .ref (adC 0)), (1, .int p1)] := hl
  unfold fX0_has at h
  have E0 : ∀ (H : Heap) (locs : List Loc) (ls : Array Slot), va_P D vwCl (wC ty adC vC) H → va_D A (wC ty adC vC) → va_S A s.heap H locs → lv_has ls 2 [(0, .ref (adC 0)), (1, .int p1)] → W p l e (headSpec wsX0_has { frames := 0, cells := 0, slots := 0, locals := 0 }).room s m ([.ref (adC 0), .int p1] : List Value).toArray below meth c H locs 0 0 Q (F0 m 0 ls []) := by
    intro H locs ls hP hD hS hl
    refine lv_iload_n hx hb dX0_has_0 rfl (lv_at hl 1 rfl) ?_
    refine lv_if_lt (tgt := 16) hx hb dX0_has_1 (by decide) (fun c1 => ?_) (fun c1 => ?_)
    · have h := kT h c1
      refine lv_iconst (v := 0) hx hb dX0_has_16 (by decide) ?_
      obtain rfl := Option.some.inj h
      subst hQ
      exact W.zret (ty := .boolean) (v := (0 : Int32)) hx hb hr rfl (fun t ht hW => ⟨⟨(0 : Int32), (), rfl, rfl, kEnd ht hP⟩, hS.F ht⟩) hS.2.2 dX0_has_17
    · have h := kF h c1
      refine lv_iload_n hx hb dX0_has_4 rfl (lv_at hl 1 rfl) ?_
      refine lv_aload_n hx hb dX0_has_5 rfl (lv_at hl 0 rfl) ?_
      refine va_get (D := D) (ci := 0) (v := .int vC.1) (C := RX0) (T := TX0) (N := 12) hx hb hts hinX0 hown hK.1 hP 0 rfl rfl 0 (by decide) wf0 (fun _ h9 => h9) rfl dX0_has_6 ?_
      refine lv_icmp_ge (tgt := 16) hx hb dX0_has_9 (by decide) (fun c9 => ?_) (fun c9 => ?_)
      · have h := kT h c9
        refine lv_iconst (v := 0) hx hb dX0_has_16 (by decide) ?_
        obtain rfl := Option.some.inj h
        subst hQ
        exact W.zret (ty := .boolean) (v := (0 : Int32)) hx hb hr rfl (fun t ht hW => ⟨⟨(0 : Int32), (), rfl, rfl, kEnd ht hP⟩, hS.F ht⟩) hS.2.2 dX0_has_17
      · have h := kF h c9
        refine lv_iconst (v := 1) hx hb dX0_has_12 (by decide) ?_
        refine lv_goto (tgt := 17) hx hb dX0_has_13 (by decide) ?_
        obtain rfl := Option.some.inj h
        subst hQ
        exact W.zret (ty := .boolean) (v := (1 : Int32)) hx hb hr rfl (fun t ht hW => ⟨⟨(1 : Int32), (), rfl, rfl, kEnd ht hP⟩, hS.F ht⟩) hS.2.2 dX0_has_17
  exact E0 s.heap [] ls hP hD hS hl
def fX0_hasAsh (vC : KC) (p1 : Int32) : Option (Int32) := (fX0_has vC p1).bind fun r2 => if r2 = (0 : Int32) then (some (0 : Int32)) else (if kIn p1 16 = true then (if (vC.2.2.2.2.2.2.2.2.2.1 p1.toNatClampNeg) = (-1 : Int32) then (some (0 : Int32)) else (some (1 : Int32))) else none)
set_option maxHeartbeats 4000000 in
set_option maxRecDepth 100000 in
theorem cX0_hasAsh_ok (l : Launch) (D : va_G) (ty : kTy) (adC : Nat → Nat) (sz : Nat) (vC : KC) (p1 : Int32)  (res : Int32) (h : fX0_hasAsh vC p1 = some res) : kMI l yX0_hasAsh wsX0_hasAsh { frames := 1, cells := 0, slots := 0, locals := 21 } [.ref (adC 0), .int p1] D ty (wC ty adC vC) sz res (wC ty adC vC) := by
  refine Met.ofW (cc := cX0_hasAsh) (maxL := 2) (ret := (some .boolean)) (by decide) rfl ?_
  intro p e s m args below meth c s₁ B hml hv
  obtain ⟨rfl, hsz, hP, hK, hD0⟩ := hv
  have hx := B.exec
  have hb := B.bytes
  have hr := B.returns
  have hts := atoms_spec (ws := wsX0_hasAsh) B.pre
  have hown : s.vm.findClass RX0 = some m.cls := findClass_of_methodNamed B.named
  have hlocks := B.notSynchronized
  subst hsz
  have hD := hD0.self (sz := s.heap.size)
  generalize hAe : va_A (wC ty adC vC) s.heap.size = A at hD ⊢
  have hA : ∀ q : Nat, s.heap.size ≤ q → A q := fun q h => by rw [← hAe]; exact Or.inr h
  have hS : va_S A s.heap s.heap [] := va_S.rf
  refine kGenW (fun Q hQ => ?_)
  have wf0 := hts (.fieldLink RX0 41 "IceCoreDater$Core" "ashAge" "[I") (by decide +kernel)
  have hinX0 : ∀ w ∈ wsX00, w ∈ wsX0_hasAsh := by decide +kernel
  have hl := lv_entry ([.ref (adC 0), .int p1]) (n := 2) (Nat.le_of_ble_eq_true rfl)
  rw [lg_entry_eq]
  generalize (lg_sl ([.ref (adC 0), .int p1]) ++ List.replicate (2 - (lg_sl ([.ref (adC 0), .int p1])).length) Slot.unset).toArray = ls at hl ⊢
  have hl : lv_has ls 2 [(0, .ref (adC 0)), (1, .int p1)] := hl
  unfold fX0_hasAsh at h
  have E0 : ∀ (H : Heap) (locs : List Loc) (ls : Array Slot), va_P D vwCl (wC ty adC vC) H → va_D A (wC ty adC vC) → va_S A s.heap H locs → lv_has ls 2 [(0, .ref (adC 0)), (1, .int p1)] → W p l e (headSpec wsX0_hasAsh { frames := 1, cells := 0, slots := 0, locals := 21 }).room s m ([.ref (adC 0), .int p1] : List Value).toArray below meth c H locs 0 0 Q (F0 m 0 ls []) := by
    intro H locs ls hP hD hS hl
    refine lv_aload_n hx hb dX0_hasAsh_0 rfl (lv_at hl 0 rfl) ?_
    refine lv_iload_n hx hb dX0_hasAsh_1 rfl (lv_at hl 1 rfl) ?_
    obtain ⟨r2, e2, h⟩ := kBd h
    refine kCallVI (As := [.int p1]) (rest := []) (wc := wC ty adC vC) (w1 := wC ty adC vC) (wn := wC ty adC vC) ⟨hx, hb, hml, hown, hts⟩ (cX0_has_ok l D ty adC H.size vC p1  r2 e2) (cwV 1 hts gX0_hasAsh_X0_has rfl rfl rfl (by decide +kernel) ⟨Nat.le_of_ble_eq_true rfl, Nat.le_of_ble_eq_true rfl⟩) hP hK hD hS hA [0, 1, 2, 3, 4, 5, 6, 7] (by decide +kernel) rfl 0 0 rfl rfl rfl rfl hl.1 rfl (Nat.le_of_ble_eq_true rfl) dX0_hasAsh_2 ⟨Nat.le_of_ble_eq_true rfl, Nat.le_of_ble_eq_true rfl⟩ rfl rfl (fun H locs hP hD hS => ?_)
    refine lv_if_eq (tgt := 22) hx hb dX0_hasAsh_5 (by decide) (fun c5 => ?_) (fun c5 => ?_)
    · have h := kT h c5
      refine lv_iconst (v := 0) hx hb dX0_hasAsh_22 (by decide) ?_
      obtain rfl := Option.some.inj h
      subst hQ
      exact W.zret (ty := .boolean) (v := (0 : Int32)) hx hb hr rfl (fun t ht hW => ⟨⟨(0 : Int32), (), rfl, rfl, kEnd ht hP⟩, hS.F ht⟩) hS.2.2 dX0_hasAsh_23
    · have h := kF h c5
      refine lv_aload_n hx hb dX0_hasAsh_8 rfl (lv_at hl 0 rfl) ?_
      refine va_get (D := D) (ci := 0) (v := .ref (adC 5)) (C := RX0) (T := TX0) (N := 12) hx hb hts hinX0 hown hK.1 hP 0 rfl rfl 9 (by decide) wf0 (fun _ h9 => h9) rfl dX0_hasAsh_9 ?_
      refine lv_iload_n hx hb dX0_hasAsh_12 rfl (lv_at hl 1 rfl) ?_
      obtain ⟨b13, h⟩ := kIf h
      refine va_iald (f := vC.2.2.2.2.2.2.2.2.2.1) (n := 16) hx hb hK.1 hP 5 0 rfl rfl (kIn_ok b13) dX0_hasAsh_13 ?_
      refine lv_iconst (v := (-1)) hx hb dX0_hasAsh_14 (by decide) ?_
      refine lv_icmp_eq (tgt := 22) hx hb dX0_hasAsh_15 (by decide) (fun c15 => ?_) (fun c15 => ?_)
      · have h := kT h c15
        refine lv_iconst (v := 0) hx hb dX0_hasAsh_22 (by decide) ?_
        obtain rfl := Option.some.inj h
        subst hQ
        exact W.zret (ty := .boolean) (v := (0 : Int32)) hx hb hr rfl (fun t ht hW => ⟨⟨(0 : Int32), (), rfl, rfl, kEnd ht hP⟩, hS.F ht⟩) hS.2.2 dX0_hasAsh_23
      · have h := kF h c15
        refine lv_iconst (v := 1) hx hb dX0_hasAsh_18 (by decide) ?_
        refine lv_goto (tgt := 23) hx hb dX0_hasAsh_19 (by decide) ?_
        obtain rfl := Option.some.inj h
        subst hQ
        exact W.zret (ty := .boolean) (v := (1 : Int32)) hx hb hr rfl (fun t ht hW => ⟨⟨(1 : Int32), (), rfl, rfl, kEnd ht hP⟩, hS.F ht⟩) hS.2.2 dX0_hasAsh_23
  exact E0 s.heap [] ls hP hD hS hl
def fX0_hasCount (vC : KC) (p1 : Int32) : Option (Int32) := (fX0_has vC p1).bind fun r2 => if r2 = (0 : Int32) then (some (0 : Int32)) else (if kIn p1 16 = true then (if (vC.2.2.2.2.2.2.2.2.2.2.2 p1.toNatClampNeg) = (0 : Int32) then (some (0 : Int32)) else (some (1 : Int32))) else none)
set_option maxHeartbeats 4000000 in
set_option maxRecDepth 100000 in
theorem cX0_hasCount_ok (l : Launch) (D : va_G) (ty : kTy) (adC : Nat → Nat) (sz : Nat) (vC : KC) (p1 : Int32)  (res : Int32) (h : fX0_hasCount vC p1 = some res) : kMI l yX0_hasCount wsX0_hasCount { frames := 1, cells := 0, slots := 0, locals := 21 } [.ref (adC 0), .int p1] D ty (wC ty adC vC) sz res (wC ty adC vC) := by
  refine Met.ofW (cc := cX0_hasCount) (maxL := 2) (ret := (some .boolean)) (by decide) rfl ?_
  intro p e s m args below meth c s₁ B hml hv
  obtain ⟨rfl, hsz, hP, hK, hD0⟩ := hv
  have hx := B.exec
  have hb := B.bytes
  have hr := B.returns
  have hts := atoms_spec (ws := wsX0_hasCount) B.pre
  have hown : s.vm.findClass RX0 = some m.cls := findClass_of_methodNamed B.named
  have hlocks := B.notSynchronized
  subst hsz
  have hD := hD0.self (sz := s.heap.size)
  generalize hAe : va_A (wC ty adC vC) s.heap.size = A at hD ⊢
  have hA : ∀ q : Nat, s.heap.size ≤ q → A q := fun q h => by rw [← hAe]; exact Or.inr h
  have hS : va_S A s.heap s.heap [] := va_S.rf
  refine kGenW (fun Q hQ => ?_)
  have wf0 := hts (.fieldLink RX0 47 "IceCoreDater$Core" "count" "[I") (by decide +kernel)
  have hinX0 : ∀ w ∈ wsX00, w ∈ wsX0_hasCount := by decide +kernel
  have hl := lv_entry ([.ref (adC 0), .int p1]) (n := 2) (Nat.le_of_ble_eq_true rfl)
  rw [lg_entry_eq]
  generalize (lg_sl ([.ref (adC 0), .int p1]) ++ List.replicate (2 - (lg_sl ([.ref (adC 0), .int p1])).length) Slot.unset).toArray = ls at hl ⊢
  have hl : lv_has ls 2 [(0, .ref (adC 0)), (1, .int p1)] := hl
  unfold fX0_hasCount at h
  have E0 : ∀ (H : Heap) (locs : List Loc) (ls : Array Slot), va_P D vwCl (wC ty adC vC) H → va_D A (wC ty adC vC) → va_S A s.heap H locs → lv_has ls 2 [(0, .ref (adC 0)), (1, .int p1)] → W p l e (headSpec wsX0_hasCount { frames := 1, cells := 0, slots := 0, locals := 21 }).room s m ([.ref (adC 0), .int p1] : List Value).toArray below meth c H locs 0 0 Q (F0 m 0 ls []) := by
    intro H locs ls hP hD hS hl
    refine lv_aload_n hx hb dX0_hasCount_0 rfl (lv_at hl 0 rfl) ?_
    refine lv_iload_n hx hb dX0_hasCount_1 rfl (lv_at hl 1 rfl) ?_
    obtain ⟨r2, e2, h⟩ := kBd h
    refine kCallVI (As := [.int p1]) (rest := []) (wc := wC ty adC vC) (w1 := wC ty adC vC) (wn := wC ty adC vC) ⟨hx, hb, hml, hown, hts⟩ (cX0_has_ok l D ty adC H.size vC p1  r2 e2) (cwV 1 hts gX0_hasCount_X0_has rfl rfl rfl (by decide +kernel) ⟨Nat.le_of_ble_eq_true rfl, Nat.le_of_ble_eq_true rfl⟩) hP hK hD hS hA [0, 1, 2, 3, 4, 5, 6, 7] (by decide +kernel) rfl 0 0 rfl rfl rfl rfl hl.1 rfl (Nat.le_of_ble_eq_true rfl) dX0_hasCount_2 ⟨Nat.le_of_ble_eq_true rfl, Nat.le_of_ble_eq_true rfl⟩ rfl rfl (fun H locs hP hD hS => ?_)
    refine lv_if_eq (tgt := 21) hx hb dX0_hasCount_5 (by decide) (fun c5 => ?_) (fun c5 => ?_)
    · have h := kT h c5
      refine lv_iconst (v := 0) hx hb dX0_hasCount_21 (by decide) ?_
      obtain rfl := Option.some.inj h
      subst hQ
      exact W.zret (ty := .boolean) (v := (0 : Int32)) hx hb hr rfl (fun t ht hW => ⟨⟨(0 : Int32), (), rfl, rfl, kEnd ht hP⟩, hS.F ht⟩) hS.2.2 dX0_hasCount_22
    · have h := kF h c5
      refine lv_aload_n hx hb dX0_hasCount_8 rfl (lv_at hl 0 rfl) ?_
      refine va_get (D := D) (ci := 0) (v := .ref (adC 7)) (C := RX0) (T := TX0) (N := 12) hx hb hts hinX0 hown hK.1 hP 0 rfl rfl 11 (by decide) wf0 (fun _ h9 => h9) rfl dX0_hasCount_9 ?_
      refine lv_iload_n hx hb dX0_hasCount_12 rfl (lv_at hl 1 rfl) ?_
      obtain ⟨b13, h⟩ := kIf h
      refine va_iald (f := vC.2.2.2.2.2.2.2.2.2.2.2) (n := 16) hx hb hK.1 hP 7 0 rfl rfl (kIn_ok b13) dX0_hasCount_13 ?_
      refine lv_if_eq (tgt := 21) hx hb dX0_hasCount_14 (by decide) (fun c14 => ?_) (fun c14 => ?_)
      · have h := kT h c14
        refine lv_iconst (v := 0) hx hb dX0_hasCount_21 (by decide) ?_
        obtain rfl := Option.some.inj h
        subst hQ
        exact W.zret (ty := .boolean) (v := (0 : Int32)) hx hb hr rfl (fun t ht hW => ⟨⟨(0 : Int32), (), rfl, rfl, kEnd ht hP⟩, hS.F ht⟩) hS.2.2 dX0_hasCount_22
      · have h := kF h c14
        refine lv_iconst (v := 1) hx hb dX0_hasCount_17 (by decide) ?_
        refine lv_goto (tgt := 22) hx hb dX0_hasCount_18 (by decide) ?_
        obtain rfl := Option.some.inj h
        subst hQ
        exact W.zret (ty := .boolean) (v := (1 : Int32)) hx hb hr rfl (fun t ht hW => ⟨⟨(1 : Int32), (), rfl, rfl, kEnd ht hP⟩, hS.F ht⟩) hS.2.2 dX0_hasCount_22
  exact E0 s.heap [] ls hP hD hS hl
def fX0_ashBeds_c4 (vC : KC) (x1 : Int32) (x2 : Int32) (nx4 : Int32 × Int32 → Option (Int32)) : Option (Int32) := if vC.1 ≤ x2 then some x1 else ((fX0_hasAsh vC x2).bind fun r14 => if r14 = (0 : Int32) then (nx4 (x1, (x2 + 1))) else (nx4 ((x1 + 1), (x2 + 1))))
def fX0_ashBeds (vC : KC) : Option (Int32) := kLoopC kFu (fun q nx4 => fX0_ashBeds_c4 vC q.1 q.2 nx4) ((0 : Int32), (0 : Int32))
set_option maxHeartbeats 4000000 in
set_option maxRecDepth 100000 in
theorem cX0_ashBeds_ok (l : Launch) (D : va_G) (ty : kTy) (adC : Nat → Nat) (sz : Nat) (vC : KC)  (res : Int32) (h : fX0_ashBeds vC = some res) : kMI l yX0_ashBeds wsX0_ashBeds { frames := 2, cells := 0, slots := 0, locals := 42 } [.ref (adC 0)] D ty (wC ty adC vC) sz res (wC ty adC vC) := by
  refine Met.ofW (cc := cX0_ashBeds) (maxL := 3) (ret := (some .int)) (by decide) rfl ?_
  intro p e s m args below meth c s₁ B hml hv
  obtain ⟨rfl, hsz, hP, hK, hD0⟩ := hv
  have hx := B.exec
  have hb := B.bytes
  have hr := B.returns
  have hts := atoms_spec (ws := wsX0_ashBeds) B.pre
  have hown : s.vm.findClass RX0 = some m.cls := findClass_of_methodNamed B.named
  have hlocks := B.notSynchronized
  subst hsz
  have hD := hD0.self (sz := s.heap.size)
  generalize hAe : va_A (wC ty adC vC) s.heap.size = A at hD ⊢
  have hA : ∀ q : Nat, s.heap.size ≤ q → A q := fun q h => by rw [← hAe]; exact Or.inr h
  have hS : va_S A s.heap s.heap [] := va_S.rf
  refine kGenW (fun Q hQ => ?_)
  have wf0 := hts (.fieldLink RX0 9 "IceCoreDater$Core" "size" "I") (by decide +kernel)
  have hinX0 : ∀ w ∈ wsX00, w ∈ wsX0_ashBeds := by decide +kernel
  have B4 : ∀ (nx4 : Int32 × Int32 → Option (Int32)) (hn4 : ∀ (x1 : Int32) (x2 : Int32), nx4 (x1, x2) = some res → ∀ (H : Heap) (locs : List Loc) (ls : Array Slot), va_P D vwCl (wC ty adC vC) H → va_D A (wC ty adC vC) → va_S A s.heap H locs → lv_has ls 3 [(0, .ref (adC 0)), (1, .int x1), (2, .int x2)] → W p l e (headSpec wsX0_ashBeds { frames := 2, cells := 0, slots := 0, locals := 42 }).room s m ([.ref (adC 0)] : List Value).toArray below meth c H locs 0 0 Q (F0 m 4 ls [])) (x1 : Int32) (x2 : Int32), fX0_ashBeds_c4 vC x1 x2 nx4 = some res → ∀ (H : Heap) (locs : List Loc) (ls : Array Slot), va_P D vwCl (wC ty adC vC) H → va_D A (wC ty adC vC) → va_S A s.heap H locs → lv_has ls 3 [(0, .ref (adC 0)), (1, .int x1), (2, .int x2)] → W p l e (headSpec wsX0_ashBeds { frames := 2, cells := 0, slots := 0, locals := 42 }).room s m ([.ref (adC 0)] : List Value).toArray below meth c H locs 0 0 Q (F0 m 4 ls []) := by
    intro  nx4 hn4 x1 x2 h H locs ls hP hD hS hl
    unfold fX0_ashBeds_c4 at h
    refine lv_iload_n hx hb dX0_ashBeds_4 rfl (lv_at hl 2 rfl) ?_
    refine lv_aload_n hx hb dX0_ashBeds_5 rfl (lv_at hl 0 rfl) ?_
    refine va_get (D := D) (ci := 0) (v := .int vC.1) (C := RX0) (T := TX0) (N := 12) hx hb hts hinX0 hown hK.1 hP 0 rfl rfl 0 (by decide) wf0 (fun _ h9 => h9) rfl dX0_ashBeds_6 ?_
    refine lv_icmp_ge (tgt := 29) hx hb dX0_ashBeds_9 (by decide) (fun c9 => ?_) (fun c9 => ?_)
    · have h := kT h c9
      refine lv_iload_n hx hb dX0_ashBeds_29 rfl (lv_at hl 1 rfl) ?_
      obtain rfl := Option.some.inj h
      subst hQ
      exact W.iret (v := x1) hx hb hr (fun t ht hW => ⟨⟨x1, (), rfl, rfl, kEnd ht hP⟩, hS.F ht⟩) hS.2.2 dX0_ashBeds_30
    · have h := kF h c9
      refine lv_aload_n hx hb dX0_ashBeds_12 rfl (lv_at hl 0 rfl) ?_
      refine lv_iload_n hx hb dX0_ashBeds_13 rfl (lv_at hl 2 rfl) ?_
      obtain ⟨r14, e14, h⟩ := kBd h
      refine kCallVI (As := [.int x2]) (rest := []) (wc := wC ty adC vC) (w1 := wC ty adC vC) (wn := wC ty adC vC) ⟨hx, hb, hml, hown, hts⟩ (cX0_hasAsh_ok l D ty adC H.size vC x2  r14 e14) (cwV 1 hts gX0_ashBeds_X0_hasAsh rfl rfl rfl (by decide +kernel) ⟨Nat.le_of_ble_eq_true rfl, Nat.le_of_ble_eq_true rfl⟩) hP hK hD hS hA [0, 1, 2, 3, 4, 5, 6, 7] (by decide +kernel) rfl 0 0 rfl rfl rfl rfl hl.1 rfl (Nat.le_of_ble_eq_true rfl) dX0_ashBeds_14 ⟨Nat.le_of_ble_eq_true rfl, Nat.le_of_ble_eq_true rfl⟩ rfl rfl (fun H locs hP hD hS => ?_)
      refine lv_if_eq (tgt := 23) hx hb dX0_ashBeds_17 (by decide) (fun c17 => ?_) (fun c17 => ?_)
      · have h := kT h c17
        refine lv_iinc (v := (x2 + 1)) (lv' := [(2, .int (x2 + 1)), (0, .ref (adC 0)), (1, .int x1)]) hx hb dX0_ashBeds_23 hl (k := 2) rfl rfl (by decide) rfl (fun ls hl => ?_)
        refine lv_goto (tgt := 4) hx hb dX0_ashBeds_26 (by decide) ?_
        exact hn4 x1 (x2 + 1) h H locs ls hP hD hS (lv_sub hl [1, 2, 0] rfl)
      · have h := kF h c17
        refine lv_iinc (v := (x1 + 1)) (lv' := [(1, .int (x1 + 1)), (0, .ref (adC 0)), (2, .int x2)]) hx hb dX0_ashBeds_20 hl (k := 1) rfl rfl (by decide) rfl (fun ls hl => ?_)
        refine lv_iinc (v := (x2 + 1)) (lv' := [(2, .int (x2 + 1)), (1, .int (x1 + 1)), (0, .ref (adC 0))]) hx hb dX0_ashBeds_23 hl (k := 2) rfl rfl (by decide) rfl (fun ls hl => ?_)
        refine lv_goto (tgt := 4) hx hb dX0_ashBeds_26 (by decide) ?_
        exact hn4 (x1 + 1) (x2 + 1) h H locs ls hP hD hS (lv_sub hl [2, 1, 0] rfl)
  have L4 : ∀  (n : Nat) (x1 : Int32) (x2 : Int32), kLoopC n (fun q nx4 => fX0_ashBeds_c4 vC q.1 q.2 nx4) (x1, x2) = some res → ∀ (H : Heap) (locs : List Loc) (ls : Array Slot), va_P D vwCl (wC ty adC vC) H → va_D A (wC ty adC vC) → va_S A s.heap H locs → lv_has ls 3 [(0, .ref (adC 0)), (1, .int x1), (2, .int x2)] → W p l e (headSpec wsX0_ashBeds { frames := 2, cells := 0, slots := 0, locals := 42 }).room s m ([.ref (adC 0)] : List Value).toArray below meth c H locs 0 0 Q (F0 m 4 ls []) := by
    intro  n
    induction n with
    | zero => intro x1 x2 h; exact absurd h (by simp [kLoopC])
    | succ n ih => intro x1 x2 h; exact B4  (kLoopC n (fun q nx4 => fX0_ashBeds_c4 vC q.1 q.2 nx4)) ih x1 x2 h
  have hl := lv_entry ([.ref (adC 0)]) (n := 3) (Nat.le_of_ble_eq_true rfl)
  rw [lg_entry_eq]
  generalize (lg_sl ([.ref (adC 0)]) ++ List.replicate (3 - (lg_sl ([.ref (adC 0)])).length) Slot.unset).toArray = ls at hl ⊢
  have hl : lv_has ls 3 [(0, .ref (adC 0))] := hl
  unfold fX0_ashBeds at h
  have E0 : ∀ (H : Heap) (locs : List Loc) (ls : Array Slot), va_P D vwCl (wC ty adC vC) H → va_D A (wC ty adC vC) → va_S A s.heap H locs → lv_has ls 3 [(0, .ref (adC 0))] → W p l e (headSpec wsX0_ashBeds { frames := 2, cells := 0, slots := 0, locals := 42 }).room s m ([.ref (adC 0)] : List Value).toArray below meth c H locs 0 0 Q (F0 m 0 ls []) := by
    intro H locs ls hP hD hS hl
    refine lv_iconst (v := 0) hx hb dX0_ashBeds_0 (by decide) ?_
    refine lv_istore_n (lv' := [(1, .int (0 : Int32)), (0, .ref (adC 0))]) hx hb dX0_ashBeds_1 rfl hl (by decide) rfl (fun ls hl => ?_)
    refine lv_iconst (v := 0) hx hb dX0_ashBeds_2 (by decide) ?_
    refine lv_istore_n (lv' := [(2, .int (0 : Int32)), (1, .int (0 : Int32)), (0, .ref (adC 0))]) hx hb dX0_ashBeds_3 rfl hl (by decide) rfl (fun ls hl => ?_)
    exact L4   kFu (0 : Int32) (0 : Int32) h H locs ls hP hD hS (lv_sub hl [2, 1, 0] rfl)
  exact E0 s.heap [] ls hP hD hS hl
def fX0_topOf_c4 (vC : KC) (x1 : Int32) (x2 : Int32) (x3 : Int32) (nx4 : Int32 × Int32 → Option (Int32)) : Option (Int32) := if x1 ≤ x3 then some x2 else (if vC.1 ≤ x3 then some x2 else (if kIn x3 16 = true then (nx4 ((x2 + (vC.2.2.2.2.2.1 x3.toNatClampNeg)), (x3 + 1))) else none))
def fX0_topOf (vC : KC) (p1 : Int32) : Option (Int32) := kLoopC kFu (fun q nx4 => fX0_topOf_c4 vC p1 q.1 q.2 nx4) ((0 : Int32), (0 : Int32))
set_option maxHeartbeats 4000000 in
set_option maxRecDepth 100000 in
theorem cX0_topOf_ok (l : Launch) (D : va_G) (ty : kTy) (adC : Nat → Nat) (sz : Nat) (vC : KC) (p1 : Int32)  (res : Int32) (h : fX0_topOf vC p1 = some res) : kMI l yX0_topOf wsX0_topOf { frames := 0, cells := 0, slots := 0, locals := 0 } [.ref (adC 0), .int p1] D ty (wC ty adC vC) sz res (wC ty adC vC) := by
  refine Met.ofW (cc := cX0_topOf) (maxL := 4) (ret := (some .int)) (by decide) rfl ?_
  intro p e s m args below meth c s₁ B hml hv
  obtain ⟨rfl, hsz, hP, hK, hD0⟩ := hv
  have hx := B.exec
  have hb := B.bytes
  have hr := B.returns
  have hts := atoms_spec (ws := wsX0_topOf) B.pre
  have hown : s.vm.findClass RX0 = some m.cls := findClass_of_methodNamed B.named
  have hlocks := B.notSynchronized
  subst hsz
  have hD := hD0.self (sz := s.heap.size)
  generalize hAe : va_A (wC ty adC vC) s.heap.size = A at hD ⊢
  have hA : ∀ q : Nat, s.heap.size ≤ q → A q := fun q h => by rw [← hAe]; exact Or.inr h
  have hS : va_S A s.heap s.heap [] := va_S.rf
  refine kGenW (fun Q hQ => ?_)
  have wf0 := hts (.fieldLink RX0 9 "IceCoreDater$Core" "size" "I") (by decide +kernel)
  have hinX0 : ∀ w ∈ wsX00, w ∈ wsX0_topOf := by decide +kernel
  have wf2 := hts (.fieldLink RX0 28 "IceCoreDater$Core" "thickness" "[I") (by decide +kernel)
  have B4 : ∀ (x1 : Int32) (nx4 : Int32 × Int32 → Option (Int32)) (hn4 : ∀ (x2 : Int32) (x3 : Int32), nx4 (x2, x3) = some res → ∀ (H : Heap) (locs : List Loc) (ls : Array Slot), va_P D vwCl (wC ty adC vC) H → va_D A (wC ty adC vC) → va_S A s.heap H locs → lv_has ls 4 [(0, .ref (adC 0)), (1, .int x1), (2, .int x2), (3, .int x3)] → W p l e (headSpec wsX0_topOf { frames := 0, cells := 0, slots := 0, locals := 0 }).room s m ([.ref (adC 0), .int p1] : List Value).toArray below meth c H locs 0 0 Q (F0 m 4 ls [])) (x2 : Int32) (x3 : Int32), fX0_topOf_c4 vC x1 x2 x3 nx4 = some res → ∀ (H : Heap) (locs : List Loc) (ls : Array Slot), va_P D vwCl (wC ty adC vC) H → va_D A (wC ty adC vC) → va_S A s.heap H locs → lv_has ls 4 [(0, .ref (adC 0)), (1, .int x1), (2, .int x2), (3, .int x3)] → W p l e (headSpec wsX0_topOf { frames := 0, cells := 0, slots := 0, locals := 0 }).room s m ([.ref (adC 0), .int p1] : List Value).toArray below meth c H locs 0 0 Q (F0 m 4 ls []) := by
    intro x1 nx4 hn4 x2 x3 h H locs ls hP hD hS hl
    unfold fX0_topOf_c4 at h
    refine lv_iload_n hx hb dX0_topOf_4 rfl (lv_at hl 3 rfl) ?_
    refine lv_iload_n hx hb dX0_topOf_5 rfl (lv_at hl 1 rfl) ?_
    refine lv_icmp_ge (tgt := 32) hx hb dX0_topOf_6 (by decide) (fun c6 => ?_) (fun c6 => ?_)
    · have h := kT h c6
      refine lv_iload_n hx hb dX0_topOf_32 rfl (lv_at hl 2 rfl) ?_
      obtain rfl := Option.some.inj h
      subst hQ
      exact W.iret (v := x2) hx hb hr (fun t ht hW => ⟨⟨x2, (), rfl, rfl, kEnd ht hP⟩, hS.F ht⟩) hS.2.2 dX0_topOf_33
    · have h := kF h c6
      refine lv_iload_n hx hb dX0_topOf_9 rfl (lv_at hl 3 rfl) ?_
      refine lv_aload_n hx hb dX0_topOf_10 rfl (lv_at hl 0 rfl) ?_
      refine va_get (D := D) (ci := 0) (v := .int vC.1) (C := RX0) (T := TX0) (N := 12) hx hb hts hinX0 hown hK.1 hP 0 rfl rfl 0 (by decide) wf0 (fun _ h9 => h9) rfl dX0_topOf_11 ?_
      refine lv_icmp_ge (tgt := 32) hx hb dX0_topOf_14 (by decide) (fun c14 => ?_) (fun c14 => ?_)
      · have h := kT h c14
        refine lv_iload_n hx hb dX0_topOf_32 rfl (lv_at hl 2 rfl) ?_
        obtain rfl := Option.some.inj h
        subst hQ
        exact W.iret (v := x2) hx hb hr (fun t ht hW => ⟨⟨x2, (), rfl, rfl, kEnd ht hP⟩, hS.F ht⟩) hS.2.2 dX0_topOf_33
      · have h := kF h c14
        refine lv_iload_n hx hb dX0_topOf_17 rfl (lv_at hl 2 rfl) ?_
        refine lv_aload_n hx hb dX0_topOf_18 rfl (lv_at hl 0 rfl) ?_
        refine va_get (D := D) (ci := 0) (v := .ref (adC 1)) (C := RX0) (T := TX0) (N := 12) hx hb hts hinX0 hown hK.1 hP 0 rfl rfl 5 (by decide) wf2 (fun _ h9 => h9) rfl dX0_topOf_19 ?_
        refine lv_iload_n hx hb dX0_topOf_22 rfl (lv_at hl 3 rfl) ?_
        obtain ⟨b23, h⟩ := kIf h
        refine va_iald (f := vC.2.2.2.2.2.1) (n := 16) hx hb hK.1 hP 1 0 rfl rfl (kIn_ok b23) dX0_topOf_23 ?_
        refine lv_iadd hx hb dX0_topOf_24 ?_
        refine lv_istore_n (lv' := [(2, .int (x2 + (vC.2.2.2.2.2.1 x3.toNatClampNeg))), (0, .ref (adC 0)), (1, .int x1), (3, .int x3)]) hx hb dX0_topOf_25 rfl hl (by decide) rfl (fun ls hl => ?_)
        refine lv_iinc (v := (x3 + 1)) (lv' := [(3, .int (x3 + 1)), (2, .int (x2 + (vC.2.2.2.2.2.1 x3.toNatClampNeg))), (0, .ref (adC 0)), (1, .int x1)]) hx hb dX0_topOf_26 hl (k := 3) rfl rfl (by decide) rfl (fun ls hl => ?_)
        refine lv_goto (tgt := 4) hx hb dX0_topOf_29 (by decide) ?_
        exact hn4 (x2 + (vC.2.2.2.2.2.1 x3.toNatClampNeg)) (x3 + 1) h H locs ls hP hD hS (lv_sub hl [2, 3, 1, 0] rfl)
  have L4 : ∀ (x1 : Int32) (n : Nat) (x2 : Int32) (x3 : Int32), kLoopC n (fun q nx4 => fX0_topOf_c4 vC x1 q.1 q.2 nx4) (x2, x3) = some res → ∀ (H : Heap) (locs : List Loc) (ls : Array Slot), va_P D vwCl (wC ty adC vC) H → va_D A (wC ty adC vC) → va_S A s.heap H locs → lv_has ls 4 [(0, .ref (adC 0)), (1, .int x1), (2, .int x2), (3, .int x3)] → W p l e (headSpec wsX0_topOf { frames := 0, cells := 0, slots := 0, locals := 0 }).room s m ([.ref (adC 0), .int p1] : List Value).toArray below meth c H locs 0 0 Q (F0 m 4 ls []) := by
    intro x1 n
    induction n with
    | zero => intro x2 x3 h; exact absurd h (by simp [kLoopC])
    | succ n ih => intro x2 x3 h; exact B4 x1 (kLoopC n (fun q nx4 => fX0_topOf_c4 vC x1 q.1 q.2 nx4)) ih x2 x3 h
  have hl := lv_entry ([.ref (adC 0), .int p1]) (n := 4) (Nat.le_of_ble_eq_true rfl)
  rw [lg_entry_eq]
  generalize (lg_sl ([.ref (adC 0), .int p1]) ++ List.replicate (4 - (lg_sl ([.ref (adC 0), .int p1])).length) Slot.unset).toArray = ls at hl ⊢
  have hl : lv_has ls 4 [(0, .ref (adC 0)), (1, .int p1)] := hl
  unfold fX0_topOf at h
  have E0 : ∀ (H : Heap) (locs : List Loc) (ls : Array Slot), va_P D vwCl (wC ty adC vC) H → va_D A (wC ty adC vC) → va_S A s.heap H locs → lv_has ls 4 [(0, .ref (adC 0)), (1, .int p1)] → W p l e (headSpec wsX0_topOf { frames := 0, cells := 0, slots := 0, locals := 0 }).room s m ([.ref (adC 0), .int p1] : List Value).toArray below meth c H locs 0 0 Q (F0 m 0 ls []) := by
    intro H locs ls hP hD hS hl
    refine lv_iconst (v := 0) hx hb dX0_topOf_0 (by decide) ?_
    refine lv_istore_n (lv' := [(2, .int (0 : Int32)), (0, .ref (adC 0)), (1, .int p1)]) hx hb dX0_topOf_1 rfl hl (by decide) rfl (fun ls hl => ?_)
    refine lv_iconst (v := 0) hx hb dX0_topOf_2 (by decide) ?_
    refine lv_istore_n (lv' := [(3, .int (0 : Int32)), (2, .int (0 : Int32)), (0, .ref (adC 0)), (1, .int p1)]) hx hb dX0_topOf_3 rfl hl (by decide) rfl (fun ls hl => ?_)
    exact L4 p1  kFu (0 : Int32) (0 : Int32) h H locs ls hP hD hS (lv_sub hl [2, 3, 1, 0] rfl)
  exact E0 s.heap [] ls hP hD hS hl
def fX0_bottom (vC : KC) : Option (Int32) := (fX0_topOf vC vC.1).bind fun r5 => some r5
set_option maxHeartbeats 4000000 in
set_option maxRecDepth 100000 in
theorem cX0_bottom_ok (l : Launch) (D : va_G) (ty : kTy) (adC : Nat → Nat) (sz : Nat) (vC : KC)  (res : Int32) (h : fX0_bottom vC = some res) : kMI l yX0_bottom wsX0_bottom { frames := 1, cells := 0, slots := 0, locals := 23 } [.ref (adC 0)] D ty (wC ty adC vC) sz res (wC ty adC vC) := by
  refine Met.ofW (cc := cX0_bottom) (maxL := 1) (ret := (some .int)) (by decide) rfl ?_
  intro p e s m args below meth c s₁ B hml hv
  obtain ⟨rfl, hsz, hP, hK, hD0⟩ := hv
  have hx := B.exec
  have hb := B.bytes
  have hr := B.returns
  have hts := atoms_spec (ws := wsX0_bottom) B.pre
  have hown : s.vm.findClass RX0 = some m.cls := findClass_of_methodNamed B.named
  have hlocks := B.notSynchronized
  subst hsz
  have hD := hD0.self (sz := s.heap.size)
  generalize hAe : va_A (wC ty adC vC) s.heap.size = A at hD ⊢
  have hA : ∀ q : Nat, s.heap.size ≤ q → A q := fun q h => by rw [← hAe]; exact Or.inr h
  have hS : va_S A s.heap s.heap [] := va_S.rf
  refine kGenW (fun Q hQ => ?_)
  have wf0 := hts (.fieldLink RX0 9 "IceCoreDater$Core" "size" "I") (by decide +kernel)
  have hinX0 : ∀ w ∈ wsX00, w ∈ wsX0_bottom := by decide +kernel
  have hl := lv_entry ([.ref (adC 0)]) (n := 1) (Nat.le_of_ble_eq_true rfl)
  rw [lg_entry_eq]
  generalize (lg_sl ([.ref (adC 0)]) ++ List.replicate (1 - (lg_sl ([.ref (adC 0)])).length) Slot.unset).toArray = ls at hl ⊢
  have hl : lv_has ls 1 [(0, .ref (adC 0))] := hl
  unfold fX0_bottom at h
  have E0 : ∀ (H : Heap) (locs : List Loc) (ls : Array Slot), va_P D vwCl (wC ty adC vC) H → va_D A (wC ty adC vC) → va_S A s.heap H locs → lv_has ls 1 [(0, .ref (adC 0))] → W p l e (headSpec wsX0_bottom { frames := 1, cells := 0, slots := 0, locals := 23 }).room s m ([.ref (adC 0)] : List Value).toArray below meth c H locs 0 0 Q (F0 m 0 ls []) := by
    intro H locs ls hP hD hS hl
    refine lv_aload_n hx hb dX0_bottom_0 rfl (lv_at hl 0 rfl) ?_
    refine lv_aload_n hx hb dX0_bottom_1 rfl (lv_at hl 0 rfl) ?_
    refine va_get (D := D) (ci := 0) (v := .int vC.1) (C := RX0) (T := TX0) (N := 12) hx hb hts hinX0 hown hK.1 hP 0 rfl rfl 0 (by decide) wf0 (fun _ h9 => h9) rfl dX0_bottom_2 ?_
    obtain ⟨r5, e5, h⟩ := kBd h
    refine kCallVI (As := [.int vC.1]) (rest := []) (wc := wC ty adC vC) (w1 := wC ty adC vC) (wn := wC ty adC vC) ⟨hx, hb, hml, hown, hts⟩ (cX0_topOf_ok l D ty adC H.size vC vC.1  r5 e5) (cwV 1 hts gX0_bottom_X0_topOf rfl rfl rfl (by decide +kernel) ⟨Nat.le_of_ble_eq_true rfl, Nat.le_of_ble_eq_true rfl⟩) hP hK hD hS hA [0, 1, 2, 3, 4, 5, 6, 7] (by decide +kernel) rfl 0 0 rfl rfl rfl rfl hl.1 rfl (Nat.le_of_ble_eq_true rfl) dX0_bottom_5 ⟨Nat.le_of_ble_eq_true rfl, Nat.le_of_ble_eq_true rfl⟩ rfl rfl (fun H locs hP hD hS => ?_)
    obtain rfl := Option.some.inj h
    subst hQ
    exact W.iret (v := r5) hx hb hr (fun t ht hW => ⟨⟨r5, (), rfl, rfl, kEnd ht hP⟩, hS.F ht⟩) hS.2.2 dX0_bottom_8
  exact E0 s.heap [] ls hP hD hS hl
def fX0_append (vC : KC) (p1 : Int32) (p2 : Int32) : Option (Int32 × KC) := (fX4_isBetween p1 (1 : Int32) (5000 : Int32)).bind fun r5 => if r5 = (0 : Int32) then (some ((-1000000002 : Int32), vC)) else ((fX4_isBetween p2 (10 : Int32) (2000 : Int32)).bind fun r17 => if ¬ r17 = (0 : Int32) then ((fX0_bottom vC).bind fun r27 => if (r27 + p1) ≤ vC.2.1 then (if vC.1 < (16 : Int32) then (if kIn vC.1 16 = true then (if kIn vC.1 16 = true then (if kIn vC.1 16 = true then (if kIn vC.1 16 = true then (if kIn vC.1 16 = true then (if kIn vC.1 16 = true then (if kIn vC.1 16 = true then (some (((vC.1 + (1 : Int32)) - (1 : Int32)), ((vC.1 + (1 : Int32)), vC.2.1, vC.2.2.1, vC.2.2.2.1, vC.2.2.2.2.1, (upd vC.2.2.2.2.2.1 vC.1.toNatClampNeg p1), (upd vC.2.2.2.2.2.2.1 vC.1.toNatClampNeg p2), (upd vC.2.2.2.2.2.2.2.1 vC.1.toNatClampNeg (1000 : Int32)), (upd vC.2.2.2.2.2.2.2.2.1 vC.1.toNatClampNeg (1000 : Int32)), (upd vC.2.2.2.2.2.2.2.2.2.1 vC.1.toNatClampNeg (-1 : Int32)), (upd vC.2.2.2.2.2.2.2.2.2.2.1 vC.1.toNatClampNeg (0 : Int32)), (upd vC.2.2.2.2.2.2.2.2.2.2.2 vC.1.toNatClampNeg (0 : Int32))))) else none) else none) else none) else none) else none) else none) else none) else (some ((-1000000004 : Int32), vC))) else (some ((-1000000003 : Int32), vC))) else (some ((-1000000002 : Int32), vC)))
set_option maxHeartbeats 4000000 in
set_option maxRecDepth 100000 in
theorem cX0_append_ok (l : Launch) (D : va_G) (ty : kTy) (adC : Nat → Nat) (sz : Nat) (vC : KC) (p1 : Int32) (p2 : Int32)  (res : Int32 × KC) (h : fX0_append vC p1 p2 = some res) : kMI l yX0_append wsX0_append { frames := 2, cells := 0, slots := 0, locals := 43 } [.ref (adC 0), .int p1, .int p2] D ty (wC ty adC vC) sz res.1 (wC ty adC res.2) := by
  refine Met.ofW (cc := cX0_append) (maxL := 3) (ret := (some .int)) (by decide) rfl ?_
  intro p e s m args below meth c s₁ B hml hv
  obtain ⟨rfl, hsz, hP, hK, hD0⟩ := hv
  have hx := B.exec
  have hb := B.bytes
  have hr := B.returns
  have hts := atoms_spec (ws := wsX0_append) B.pre
  have hown : s.vm.findClass RX0 = some m.cls := findClass_of_methodNamed B.named
  have hlocks := B.notSynchronized
  subst hsz
  have hD := hD0.self (sz := s.heap.size)
  generalize hAe : va_A (wC ty adC vC) s.heap.size = A at hD ⊢
  have hA : ∀ q : Nat, s.heap.size ≤ q → A q := fun q h => by rw [← hAe]; exact Or.inr h
  have hS : va_S A s.heap s.heap [] := va_S.rf
  refine kGenW (fun Q hQ => ?_)
  have wf0 := hts (.initialized RX4) (by decide +kernel)
  have wf1 := hts (.static yX4_isBetween) (by decide +kernel)
  have wf2 := hts (.constant RX0 71 (-1000000002)) (by decide +kernel)
  have wf3 := hts (.fieldLink RX0 16 "IceCoreDater$Core" "bed" "I") (by decide +kernel)
  have hinX0 : ∀ w ∈ wsX00, w ∈ wsX0_append := by decide +kernel
  have wf5 := hts (.fieldLink RX0 9 "IceCoreDater$Core" "size" "I") (by decide +kernel)
  have wf6 := hts (.fieldLink RX0 28 "IceCoreDater$Core" "thickness" "[I") (by decide +kernel)
  have wf7 := hts (.fieldLink RX0 32 "IceCoreDater$Core" "accumulation" "[I") (by decide +kernel)
  have wf8 := hts (.fieldLink RX0 35 "IceCoreDater$Core" "correction" "[I") (by decide +kernel)
  have wf9 := hts (.fieldLink RX0 38 "IceCoreDater$Core" "told" "[I") (by decide +kernel)
  have wf10 := hts (.fieldLink RX0 41 "IceCoreDater$Core" "ashAge" "[I") (by decide +kernel)
  have wf11 := hts (.fieldLink RX0 44 "IceCoreDater$Core" "ashTolerance" "[I") (by decide +kernel)
  have wf12 := hts (.fieldLink RX0 47 "IceCoreDater$Core" "count" "[I") (by decide +kernel)
  have wf13 := hts (.constant RX0 77 (-1000000004)) (by decide +kernel)
  have wf14 := hts (.constant RX0 76 (-1000000003)) (by decide +kernel)
  have hl := lv_entry ([.ref (adC 0), .int p1, .int p2]) (n := 3) (Nat.le_of_ble_eq_true rfl)
  rw [lg_entry_eq]
  generalize (lg_sl ([.ref (adC 0), .int p1, .int p2]) ++ List.replicate (3 - (lg_sl ([.ref (adC 0), .int p1, .int p2])).length) Slot.unset).toArray = ls at hl ⊢
  have hl : lv_has ls 3 [(0, .ref (adC 0)), (1, .int p1), (2, .int p2)] := hl
  unfold fX0_append at h
  have E0 : ∀ (H : Heap) (locs : List Loc) (ls : Array Slot), va_P D vwCl (wC ty adC vC) H → va_D A (wC ty adC vC) → va_S A s.heap H locs → lv_has ls 3 [(0, .ref (adC 0)), (1, .int p1), (2, .int p2)] → W p l e (headSpec wsX0_append { frames := 2, cells := 0, slots := 0, locals := 43 }).room s m ([.ref (adC 0), .int p1, .int p2] : List Value).toArray below meth c H locs 0 0 Q (F0 m 0 ls []) := by
    intro H locs ls hP hD hS hl
    refine lv_iload_n hx hb dX0_append_0 rfl (lv_at hl 1 rfl) ?_
    refine lv_iconst (v := 1) hx hb dX0_append_1 (by decide) ?_
    refine lv_sipush (v := 5000) hx hb dX0_append_2 (by decide) ?_
    obtain ⟨r5, e5, h⟩ := kBd h
    refine kCallNI (As := [.int p1, .int (1 : Int32), .int (5000 : Int32)]) (rest := []) ⟨hx, hb, hml, hown, hts⟩ (cX4_isBetween_ok l D ty  H.size p1 (1 : Int32) (5000 : Int32)  r5 e5) ⟨va_cnB 3 hts gX0_append_X4_isBetween_n67 rfl rfl rfl hK.2.2.2.2.2.1 wf0 (by decide +kernel) ⟨Nat.le_of_ble_eq_true rfl, Nat.le_of_ble_eq_true rfl⟩, wf1, trivial⟩ hP hK hD hS hA rfl hl.1 rfl (Nat.le_of_ble_eq_true rfl) dX0_append_5 ⟨Nat.le_of_ble_eq_true rfl, Nat.le_of_ble_eq_true rfl⟩ (fun H locs hP hS => ?_)
    refine lv_if_eq (tgt := 23) hx hb dX0_append_8 (by decide) (fun c8 => ?_) (fun c8 => ?_)
    · have h := kT h c8
      refine lv_ldc hx hb hown wf2 dX0_append_23 ?_
      obtain rfl := Option.some.inj h
      subst hQ
      exact W.iret (v := (-1000000002 : Int32)) hx hb hr (fun t ht hW => ⟨⟨(-1000000002 : Int32), (), rfl, rfl, kEnd ht hP⟩, hS.F ht⟩) hS.2.2 dX0_append_25
    · have h := kF h c8
      refine lv_iload_n hx hb dX0_append_11 rfl (lv_at hl 2 rfl) ?_
      refine lv_bipush (v := 10) hx hb dX0_append_12 (by decide) ?_
      refine lv_sipush (v := 2000) hx hb dX0_append_14 (by decide) ?_
      obtain ⟨r17, e17, h⟩ := kBd h
      refine kCallNI (As := [.int p2, .int (10 : Int32), .int (2000 : Int32)]) (rest := []) ⟨hx, hb, hml, hown, hts⟩ (cX4_isBetween_ok l D ty  H.size p2 (10 : Int32) (2000 : Int32)  r17 e17) ⟨va_cnB 3 hts gX0_append_X4_isBetween_n67 rfl rfl rfl hK.2.2.2.2.2.1 wf0 (by decide +kernel) ⟨Nat.le_of_ble_eq_true rfl, Nat.le_of_ble_eq_true rfl⟩, wf1, trivial⟩ hP hK hD hS hA rfl hl.1 rfl (Nat.le_of_ble_eq_true rfl) dX0_append_17 ⟨Nat.le_of_ble_eq_true rfl, Nat.le_of_ble_eq_true rfl⟩ (fun H locs hP hS => ?_)
      refine lv_if_ne (tgt := 26) hx hb dX0_append_20 (by decide) (fun c20 => ?_) (fun c20 => ?_)
      · have h := kT h c20
        refine lv_aload_n hx hb dX0_append_26 rfl (lv_at hl 0 rfl) ?_
        obtain ⟨r27, e27, h⟩ := kBd h
        refine kCallVI (As := []) (rest := []) (wc := wC ty adC vC) (w1 := wC ty adC vC) (wn := wC ty adC vC) ⟨hx, hb, hml, hown, hts⟩ (cX0_bottom_ok l D ty adC H.size vC  r27 e27) (cwV 0 hts gX0_append_X0_bottom rfl rfl rfl (by decide +kernel) ⟨Nat.le_of_ble_eq_true rfl, Nat.le_of_ble_eq_true rfl⟩) hP hK hD hS hA [0, 1, 2, 3, 4, 5, 6, 7] (by decide +kernel) rfl 0 0 rfl rfl rfl rfl hl.1 rfl (Nat.le_of_ble_eq_true rfl) dX0_append_27 ⟨Nat.le_of_ble_eq_true rfl, Nat.le_of_ble_eq_true rfl⟩ rfl rfl (fun H locs hP hD hS => ?_)
        refine lv_iload_n hx hb dX0_append_30 rfl (lv_at hl 1 rfl) ?_
        refine lv_iadd hx hb dX0_append_31 ?_
        refine lv_aload_n hx hb dX0_append_32 rfl (lv_at hl 0 rfl) ?_
        refine va_get (D := D) (ci := 0) (v := .int vC.2.1) (C := RX0) (T := TX0) (N := 12) hx hb hts hinX0 hown hK.1 hP 0 rfl rfl 1 (by decide) wf3 (fun _ h9 => h9) rfl dX0_append_33 ?_
        refine lv_icmp_le (tgt := 42) hx hb dX0_append_36 (by decide) (fun c36 => ?_) (fun c36 => ?_)
        · have h := kT h c36
          refine lv_aload_n hx hb dX0_append_42 rfl (lv_at hl 0 rfl) ?_
          refine va_get (D := D) (ci := 0) (v := .int vC.1) (C := RX0) (T := TX0) (N := 12) hx hb hts hinX0 hown hK.1 hP 0 rfl rfl 0 (by decide) wf5 (fun _ h9 => h9) rfl dX0_append_43 ?_
          refine lv_bipush (v := 16) hx hb dX0_append_46 (by decide) ?_
          refine lv_icmp_lt (tgt := 54) hx hb dX0_append_48 (by decide) (fun c48 => ?_) (fun c48 => ?_)
          · have h := kT h c48
            refine lv_aload_n hx hb dX0_append_54 rfl (lv_at hl 0 rfl) ?_
            refine va_get (D := D) (ci := 0) (v := .ref (adC 1)) (C := RX0) (T := TX0) (N := 12) hx hb hts hinX0 hown hK.1 hP 0 rfl rfl 5 (by decide) wf6 (fun _ h9 => h9) rfl dX0_append_55 ?_
            refine lv_aload_n hx hb dX0_append_58 rfl (lv_at hl 0 rfl) ?_
            refine va_get (D := D) (ci := 0) (v := .int vC.1) (C := RX0) (T := TX0) (N := 12) hx hb hts hinX0 hown hK.1 hP 0 rfl rfl 0 (by decide) wf5 (fun _ h9 => h9) rfl dX0_append_59 ?_
            refine lv_iload_n hx hb dX0_append_62 rfl (lv_at hl 1 rfl) ?_
            obtain ⟨b63, h⟩ := kIf h
            refine va_iast (f := vC.2.2.2.2.2.1) (n := 16) hx hb hK.1 hP hD hS 1 0 rfl rfl (kIn_ok b63) dX0_append_63 (fun H locs hP hD hS => ?_)
            have hP : va_P D vwCl (wC ty adC (vC.1, vC.2.1, vC.2.2.1, vC.2.2.2.1, vC.2.2.2.2.1, (upd vC.2.2.2.2.2.1 vC.1.toNatClampNeg p1), vC.2.2.2.2.2.2)) H := hP
            have hD : va_D A (wC ty adC (vC.1, vC.2.1, vC.2.2.1, vC.2.2.2.1, vC.2.2.2.2.1, (upd vC.2.2.2.2.2.1 vC.1.toNatClampNeg p1), vC.2.2.2.2.2.2)) := hD
            refine lv_aload_n hx hb dX0_append_64 rfl (lv_at hl 0 rfl) ?_
            refine va_get (D := D) (ci := 0) (v := .ref (adC 2)) (C := RX0) (T := TX0) (N := 12) hx hb hts hinX0 hown hK.1 hP 0 rfl rfl 6 (by decide) wf7 (fun _ h9 => h9) rfl dX0_append_65 ?_
            refine lv_aload_n hx hb dX0_append_68 rfl (lv_at hl 0 rfl) ?_
            refine va_get (D := D) (ci := 0) (v := .int vC.1) (C := RX0) (T := TX0) (N := 12) hx hb hts hinX0 hown hK.1 hP 0 rfl rfl 0 (by decide) wf5 (fun _ h9 => h9) rfl dX0_append_69 ?_
            refine lv_iload_n hx hb dX0_append_72 rfl (lv_at hl 2 rfl) ?_
            obtain ⟨b73, h⟩ := kIf h
            refine va_iast (f := vC.2.2.2.2.2.2.1) (n := 16) hx hb hK.1 hP hD hS 2 0 rfl rfl (kIn_ok b73) dX0_append_73 (fun H locs hP hD hS => ?_)
            have hP : va_P D vwCl (wC ty adC (vC.1, vC.2.1, vC.2.2.1, vC.2.2.2.1, vC.2.2.2.2.1, (upd vC.2.2.2.2.2.1 vC.1.toNatClampNeg p1), (upd vC.2.2.2.2.2.2.1 vC.1.toNatClampNeg p2), vC.2.2.2.2.2.2.2)) H := hP
            have hD : va_D A (wC ty adC (vC.1, vC.2.1, vC.2.2.1, vC.2.2.2.1, vC.2.2.2.2.1, (upd vC.2.2.2.2.2.1 vC.1.toNatClampNeg p1), (upd vC.2.2.2.2.2.2.1 vC.1.toNatClampNeg p2), vC.2.2.2.2.2.2.2)) := hD
            refine lv_aload_n hx hb dX0_append_74 rfl (lv_at hl 0 rfl) ?_
            refine va_get (D := D) (ci := 0) (v := .ref (adC 3)) (C := RX0) (T := TX0) (N := 12) hx hb hts hinX0 hown hK.1 hP 0 rfl rfl 7 (by decide) wf8 (fun _ h9 => h9) rfl dX0_append_75 ?_
            refine lv_aload_n hx hb dX0_append_78 rfl (lv_at hl 0 rfl) ?_
            refine va_get (D := D) (ci := 0) (v := .int vC.1) (C := RX0) (T := TX0) (N := 12) hx hb hts hinX0 hown hK.1 hP 0 rfl rfl 0 (by decide) wf5 (fun _ h9 => h9) rfl dX0_append_79 ?_
            refine lv_sipush (v := 1000) hx hb dX0_append_82 (by decide) ?_
            obtain ⟨b85, h⟩ := kIf h
            refine va_iast (f := vC.2.2.2.2.2.2.2.1) (n := 16) hx hb hK.1 hP hD hS 3 0 rfl rfl (kIn_ok b85) dX0_append_85 (fun H locs hP hD hS => ?_)
            have hP : va_P D vwCl (wC ty adC (vC.1, vC.2.1, vC.2.2.1, vC.2.2.2.1, vC.2.2.2.2.1, (upd vC.2.2.2.2.2.1 vC.1.toNatClampNeg p1), (upd vC.2.2.2.2.2.2.1 vC.1.toNatClampNeg p2), (upd vC.2.2.2.2.2.2.2.1 vC.1.toNatClampNeg (1000 : Int32)), vC.2.2.2.2.2.2.2.2)) H := hP
            have hD : va_D A (wC ty adC (vC.1, vC.2.1, vC.2.2.1, vC.2.2.2.1, vC.2.2.2.2.1, (upd vC.2.2.2.2.2.1 vC.1.toNatClampNeg p1), (upd vC.2.2.2.2.2.2.1 vC.1.toNatClampNeg p2), (upd vC.2.2.2.2.2.2.2.1 vC.1.toNatClampNeg (1000 : Int32)), vC.2.2.2.2.2.2.2.2)) := hD
            refine lv_aload_n hx hb dX0_append_86 rfl (lv_at hl 0 rfl) ?_
            refine va_get (D := D) (ci := 0) (v := .ref (adC 4)) (C := RX0) (T := TX0) (N := 12) hx hb hts hinX0 hown hK.1 hP 0 rfl rfl 8 (by decide) wf9 (fun _ h9 => h9) rfl dX0_append_87 ?_
            refine lv_aload_n hx hb dX0_append_90 rfl (lv_at hl 0 rfl) ?_
            refine va_get (D := D) (ci := 0) (v := .int vC.1) (C := RX0) (T := TX0) (N := 12) hx hb hts hinX0 hown hK.1 hP 0 rfl rfl 0 (by decide) wf5 (fun _ h9 => h9) rfl dX0_append_91 ?_
            refine lv_sipush (v := 1000) hx hb dX0_append_94 (by decide) ?_
            obtain ⟨b97, h⟩ := kIf h
            refine va_iast (f := vC.2.2.2.2.2.2.2.2.1) (n := 16) hx hb hK.1 hP hD hS 4 0 rfl rfl (kIn_ok b97) dX0_append_97 (fun H locs hP hD hS => ?_)
            have hP : va_P D vwCl (wC ty adC (vC.1, vC.2.1, vC.2.2.1, vC.2.2.2.1, vC.2.2.2.2.1, (upd vC.2.2.2.2.2.1 vC.1.toNatClampNeg p1), (upd vC.2.2.2.2.2.2.1 vC.1.toNatClampNeg p2), (upd vC.2.2.2.2.2.2.2.1 vC.1.toNatClampNeg (1000 : Int32)), (upd vC.2.2.2.2.2.2.2.2.1 vC.1.toNatClampNeg (1000 : Int32)), vC.2.2.2.2.2.2.2.2.2)) H := hP
            have hD : va_D A (wC ty adC (vC.1, vC.2.1, vC.2.2.1, vC.2.2.2.1, vC.2.2.2.2.1, (upd vC.2.2.2.2.2.1 vC.1.toNatClampNeg p1), (upd vC.2.2.2.2.2.2.1 vC.1.toNatClampNeg p2), (upd vC.2.2.2.2.2.2.2.1 vC.1.toNatClampNeg (1000 : Int32)), (upd vC.2.2.2.2.2.2.2.2.1 vC.1.toNatClampNeg (1000 : Int32)), vC.2.2.2.2.2.2.2.2.2)) := hD
            refine lv_aload_n hx hb dX0_append_98 rfl (lv_at hl 0 rfl) ?_
            refine va_get (D := D) (ci := 0) (v := .ref (adC 5)) (C := RX0) (T := TX0) (N := 12) hx hb hts hinX0 hown hK.1 hP 0 rfl rfl 9 (by decide) wf10 (fun _ h9 => h9) rfl dX0_append_99 ?_
            refine lv_aload_n hx hb dX0_append_102 rfl (lv_at hl 0 rfl) ?_
            refine va_get (D := D) (ci := 0) (v := .int vC.1) (C := RX0) (T := TX0) (N := 12) hx hb hts hinX0 hown hK.1 hP 0 rfl rfl 0 (by decide) wf5 (fun _ h9 => h9) rfl dX0_append_103 ?_
            refine lv_iconst (v := (-1)) hx hb dX0_append_106 (by decide) ?_
            obtain ⟨b107, h⟩ := kIf h
            refine va_iast (f := vC.2.2.2.2.2.2.2.2.2.1) (n := 16) hx hb hK.1 hP hD hS 5 0 rfl rfl (kIn_ok b107) dX0_append_107 (fun H locs hP hD hS => ?_)
            have hP : va_P D vwCl (wC ty adC (vC.1, vC.2.1, vC.2.2.1, vC.2.2.2.1, vC.2.2.2.2.1, (upd vC.2.2.2.2.2.1 vC.1.toNatClampNeg p1), (upd vC.2.2.2.2.2.2.1 vC.1.toNatClampNeg p2), (upd vC.2.2.2.2.2.2.2.1 vC.1.toNatClampNeg (1000 : Int32)), (upd vC.2.2.2.2.2.2.2.2.1 vC.1.toNatClampNeg (1000 : Int32)), (upd vC.2.2.2.2.2.2.2.2.2.1 vC.1.toNatClampNeg (-1 : Int32)), vC.2.2.2.2.2.2.2.2.2.2)) H := hP
            have hD : va_D A (wC ty adC (vC.1, vC.2.1, vC.2.2.1, vC.2.2.2.1, vC.2.2.2.2.1, (upd vC.2.2.2.2.2.1 vC.1.toNatClampNeg p1), (upd vC.2.2.2.2.2.2.1 vC.1.toNatClampNeg p2), (upd vC.2.2.2.2.2.2.2.1 vC.1.toNatClampNeg (1000 : Int32)), (upd vC.2.2.2.2.2.2.2.2.1 vC.1.toNatClampNeg (1000 : Int32)), (upd vC.2.2.2.2.2.2.2.2.2.1 vC.1.toNatClampNeg (-1 : Int32)), vC.2.2.2.2.2.2.2.2.2.2)) := hD
            refine lv_aload_n hx hb dX0_append_108 rfl (lv_at hl 0 rfl) ?_
            refine va_get (D := D) (ci := 0) (v := .ref (adC 6)) (C := RX0) (T := TX0) (N := 12) hx hb hts hinX0 hown hK.1 hP 0 rfl rfl 10 (by decide) wf11 (fun _ h9 => h9) rfl dX0_append_109 ?_
            refine lv_aload_n hx hb dX0_append_112 rfl (lv_at hl 0 rfl) ?_
            refine va_get (D := D) (ci := 0) (v := .int vC.1) (C := RX0) (T := TX0) (N := 12) hx hb hts hinX0 hown hK.1 hP 0 rfl rfl 0 (by decide) wf5 (fun _ h9 => h9) rfl dX0_append_113 ?_
            refine lv_iconst (v := 0) hx hb dX0_append_116 (by decide) ?_
            obtain ⟨b117, h⟩ := kIf h
            refine va_iast (f := vC.2.2.2.2.2.2.2.2.2.2.1) (n := 16) hx hb hK.1 hP hD hS 6 0 rfl rfl (kIn_ok b117) dX0_append_117 (fun H locs hP hD hS => ?_)
            have hP : va_P D vwCl (wC ty adC (vC.1, vC.2.1, vC.2.2.1, vC.2.2.2.1, vC.2.2.2.2.1, (upd vC.2.2.2.2.2.1 vC.1.toNatClampNeg p1), (upd vC.2.2.2.2.2.2.1 vC.1.toNatClampNeg p2), (upd vC.2.2.2.2.2.2.2.1 vC.1.toNatClampNeg (1000 : Int32)), (upd vC.2.2.2.2.2.2.2.2.1 vC.1.toNatClampNeg (1000 : Int32)), (upd vC.2.2.2.2.2.2.2.2.2.1 vC.1.toNatClampNeg (-1 : Int32)), (upd vC.2.2.2.2.2.2.2.2.2.2.1 vC.1.toNatClampNeg (0 : Int32)), vC.2.2.2.2.2.2.2.2.2.2.2)) H := hP
            have hD : va_D A (wC ty adC (vC.1, vC.2.1, vC.2.2.1, vC.2.2.2.1, vC.2.2.2.2.1, (upd vC.2.2.2.2.2.1 vC.1.toNatClampNeg p1), (upd vC.2.2.2.2.2.2.1 vC.1.toNatClampNeg p2), (upd vC.2.2.2.2.2.2.2.1 vC.1.toNatClampNeg (1000 : Int32)), (upd vC.2.2.2.2.2.2.2.2.1 vC.1.toNatClampNeg (1000 : Int32)), (upd vC.2.2.2.2.2.2.2.2.2.1 vC.1.toNatClampNeg (-1 : Int32)), (upd vC.2.2.2.2.2.2.2.2.2.2.1 vC.1.toNatClampNeg (0 : Int32)), vC.2.2.2.2.2.2.2.2.2.2.2)) := hD
            refine lv_aload_n hx hb dX0_append_118 rfl (lv_at hl 0 rfl) ?_
            refine va_get (D := D) (ci := 0) (v := .ref (adC 7)) (C := RX0) (T := TX0) (N := 12) hx hb hts hinX0 hown hK.1 hP 0 rfl rfl 11 (by decide) wf12 (fun _ h9 => h9) rfl dX0_append_119 ?_
            refine lv_aload_n hx hb dX0_append_122 rfl (lv_at hl 0 rfl) ?_
            refine va_get (D := D) (ci := 0) (v := .int vC.1) (C := RX0) (T := TX0) (N := 12) hx hb hts hinX0 hown hK.1 hP 0 rfl rfl 0 (by decide) wf5 (fun _ h9 => h9) rfl dX0_append_123 ?_
            refine lv_iconst (v := 0) hx hb dX0_append_126 (by decide) ?_
            obtain ⟨b127, h⟩ := kIf h
            refine va_iast (f := vC.2.2.2.2.2.2.2.2.2.2.2) (n := 16) hx hb hK.1 hP hD hS 7 0 rfl rfl (kIn_ok b127) dX0_append_127 (fun H locs hP hD hS => ?_)
            have hP : va_P D vwCl (wC ty adC (vC.1, vC.2.1, vC.2.2.1, vC.2.2.2.1, vC.2.2.2.2.1, (upd vC.2.2.2.2.2.1 vC.1.toNatClampNeg p1), (upd vC.2.2.2.2.2.2.1 vC.1.toNatClampNeg p2), (upd vC.2.2.2.2.2.2.2.1 vC.1.toNatClampNeg (1000 : Int32)), (upd vC.2.2.2.2.2.2.2.2.1 vC.1.toNatClampNeg (1000 : Int32)), (upd vC.2.2.2.2.2.2.2.2.2.1 vC.1.toNatClampNeg (-1 : Int32)), (upd vC.2.2.2.2.2.2.2.2.2.2.1 vC.1.toNatClampNeg (0 : Int32)), (upd vC.2.2.2.2.2.2.2.2.2.2.2 vC.1.toNatClampNeg (0 : Int32)))) H := hP
            have hD : va_D A (wC ty adC (vC.1, vC.2.1, vC.2.2.1, vC.2.2.2.1, vC.2.2.2.2.1, (upd vC.2.2.2.2.2.1 vC.1.toNatClampNeg p1), (upd vC.2.2.2.2.2.2.1 vC.1.toNatClampNeg p2), (upd vC.2.2.2.2.2.2.2.1 vC.1.toNatClampNeg (1000 : Int32)), (upd vC.2.2.2.2.2.2.2.2.1 vC.1.toNatClampNeg (1000 : Int32)), (upd vC.2.2.2.2.2.2.2.2.2.1 vC.1.toNatClampNeg (-1 : Int32)), (upd vC.2.2.2.2.2.2.2.2.2.2.1 vC.1.toNatClampNeg (0 : Int32)), (upd vC.2.2.2.2.2.2.2.2.2.2.2 vC.1.toNatClampNeg (0 : Int32)))) := hD
            refine lv_aload_n hx hb dX0_append_128 rfl (lv_at hl 0 rfl) ?_
            refine lv_dup hx hb dX0_append_129 rfl ?_
            refine va_get (D := D) (ci := 0) (v := .int vC.1) (C := RX0) (T := TX0) (N := 12) hx hb hts hinX0 hown hK.1 hP 0 rfl rfl 0 (by decide) wf5 (fun _ h9 => h9) rfl dX0_append_130 ?_
            refine lv_iconst (v := 1) hx hb dX0_append_133 (by decide) ?_
            refine lv_iadd hx hb dX0_append_134 ?_
            refine va_put (D := D) (ci := 0) (v := .int (vC.1 + (1 : Int32))) (ty := .int) (C := RX0) (T := TX0) (N := 12) hx hb hts hinX0 tyX0 tyX0_ok nmX0 hown hK.1 hP hD hS 0 rfl rfl 0 (by decide) wf5 (fun _ h9 => h9) rfl (by decide +kernel) rfl rfl (Nat.le_of_ble_eq_true rfl) dX0_append_135 (fun H locs hP hD hS => ?_)
            have hP : va_P D vwCl (wC ty adC ((vC.1 + (1 : Int32)), vC.2.1, vC.2.2.1, vC.2.2.2.1, vC.2.2.2.2.1, (upd vC.2.2.2.2.2.1 vC.1.toNatClampNeg p1), (upd vC.2.2.2.2.2.2.1 vC.1.toNatClampNeg p2), (upd vC.2.2.2.2.2.2.2.1 vC.1.toNatClampNeg (1000 : Int32)), (upd vC.2.2.2.2.2.2.2.2.1 vC.1.toNatClampNeg (1000 : Int32)), (upd vC.2.2.2.2.2.2.2.2.2.1 vC.1.toNatClampNeg (-1 : Int32)), (upd vC.2.2.2.2.2.2.2.2.2.2.1 vC.1.toNatClampNeg (0 : Int32)), (upd vC.2.2.2.2.2.2.2.2.2.2.2 vC.1.toNatClampNeg (0 : Int32)))) H := hP
            have hD : va_D A (wC ty adC ((vC.1 + (1 : Int32)), vC.2.1, vC.2.2.1, vC.2.2.2.1, vC.2.2.2.2.1, (upd vC.2.2.2.2.2.1 vC.1.toNatClampNeg p1), (upd vC.2.2.2.2.2.2.1 vC.1.toNatClampNeg p2), (upd vC.2.2.2.2.2.2.2.1 vC.1.toNatClampNeg (1000 : Int32)), (upd vC.2.2.2.2.2.2.2.2.1 vC.1.toNatClampNeg (1000 : Int32)), (upd vC.2.2.2.2.2.2.2.2.2.1 vC.1.toNatClampNeg (-1 : Int32)), (upd vC.2.2.2.2.2.2.2.2.2.2.1 vC.1.toNatClampNeg (0 : Int32)), (upd vC.2.2.2.2.2.2.2.2.2.2.2 vC.1.toNatClampNeg (0 : Int32)))) := hD
            refine lv_aload_n hx hb dX0_append_138 rfl (lv_at hl 0 rfl) ?_
            refine va_get (D := D) (ci := 0) (v := .int (vC.1 + (1 : Int32))) (C := RX0) (T := TX0) (N := 12) hx hb hts hinX0 hown hK.1 hP 0 rfl rfl 0 (by decide) wf5 (fun _ h9 => h9) rfl dX0_append_139 ?_
            refine lv_iconst (v := 1) hx hb dX0_append_142 (by decide) ?_
            refine lv_isub hx hb dX0_append_143 ?_
            obtain rfl := Option.some.inj h
            subst hQ
            exact W.iret (v := ((vC.1 + (1 : Int32)) - (1 : Int32))) hx hb hr (fun t ht hW => ⟨⟨((vC.1 + (1 : Int32)) - (1 : Int32)), (), rfl, rfl, kEnd ht hP⟩, hS.F ht⟩) hS.2.2 dX0_append_144
          · have h := kF h c48
            refine lv_ldc hx hb hown wf13 dX0_append_51 ?_
            obtain rfl := Option.some.inj h
            subst hQ
            exact W.iret (v := (-1000000004 : Int32)) hx hb hr (fun t ht hW => ⟨⟨(-1000000004 : Int32), (), rfl, rfl, kEnd ht hP⟩, hS.F ht⟩) hS.2.2 dX0_append_53
        · have h := kF h c36
          refine lv_ldc hx hb hown wf14 dX0_append_39 ?_
          obtain rfl := Option.some.inj h
          subst hQ
          exact W.iret (v := (-1000000003 : Int32)) hx hb hr (fun t ht hW => ⟨⟨(-1000000003 : Int32), (), rfl, rfl, kEnd ht hP⟩, hS.F ht⟩) hS.2.2 dX0_append_41
      · have h := kF h (fun z => z c20)
        refine lv_ldc hx hb hown wf2 dX0_append_23 ?_
        obtain rfl := Option.some.inj h
        subst hQ
        exact W.iret (v := (-1000000002 : Int32)) hx hb hr (fun t ht hW => ⟨⟨(-1000000002 : Int32), (), rfl, rfl, kEnd ht hP⟩, hS.F ht⟩) hS.2.2 dX0_append_25
  exact E0 s.heap [] ls hP hD hS hl
def fX0_dropLowest (vC : KC) : Option (Int32 × KC) := if ¬ vC.1 = (0 : Int32) then (some ((vC.1 - (1 : Int32)), ((vC.1 - (1 : Int32)), vC.2))) else (some ((-1000000003 : Int32), vC))
set_option maxHeartbeats 4000000 in
set_option maxRecDepth 100000 in
theorem cX0_dropLowest_ok (l : Launch) (D : va_G) (ty : kTy) (adC : Nat → Nat) (sz : Nat) (vC : KC)  (res : Int32 × KC) (h : fX0_dropLowest vC = some res) : kMI l yX0_dropLowest wsX0_dropLowest { frames := 0, cells := 0, slots := 0, locals := 0 } [.ref (adC 0)] D ty (wC ty adC vC) sz res.1 (wC ty adC res.2) := by
  refine Met.ofW (cc := cX0_dropLowest) (maxL := 1) (ret := (some .int)) (by decide) rfl ?_
  intro p e s m args below meth c s₁ B hml hv
  obtain ⟨rfl, hsz, hP, hK, hD0⟩ := hv
  have hx := B.exec
  have hb := B.bytes
  have hr := B.returns
  have hts := atoms_spec (ws := wsX0_dropLowest) B.pre
  have hown : s.vm.findClass RX0 = some m.cls := findClass_of_methodNamed B.named
  have hlocks := B.notSynchronized
  subst hsz
  have hD := hD0.self (sz := s.heap.size)
  generalize hAe : va_A (wC ty adC vC) s.heap.size = A at hD ⊢
  have hA : ∀ q : Nat, s.heap.size ≤ q → A q := fun q h => by rw [← hAe]; exact Or.inr h
  have hS : va_S A s.heap s.heap [] := va_S.rf
  refine kGenW (fun Q hQ => ?_)
  have wf0 := hts (.fieldLink RX0 9 "IceCoreDater$Core" "size" "I") (by decide +kernel)
  have hinX0 : ∀ w ∈ wsX00, w ∈ wsX0_dropLowest := by decide +kernel
  have wf2 := hts (.constant RX0 76 (-1000000003)) (by decide +kernel)
  have hl := lv_entry ([.ref (adC 0)]) (n := 1) (Nat.le_of_ble_eq_true rfl)
  rw [lg_entry_eq]
  generalize (lg_sl ([.ref (adC 0)]) ++ List.replicate (1 - (lg_sl ([.ref (adC 0)])).length) Slot.unset).toArray = ls at hl ⊢
  have hl : lv_has ls 1 [(0, .ref (adC 0))] := hl
  unfold fX0_dropLowest at h
  have E0 : ∀ (H : Heap) (locs : List Loc) (ls : Array Slot), va_P D vwCl (wC ty adC vC) H → va_D A (wC ty adC vC) → va_S A s.heap H locs → lv_has ls 1 [(0, .ref (adC 0))] → W p l e (headSpec wsX0_dropLowest { frames := 0, cells := 0, slots := 0, locals := 0 }).room s m ([.ref (adC 0)] : List Value).toArray below meth c H locs 0 0 Q (F0 m 0 ls []) := by
    intro H locs ls hP hD hS hl
    refine lv_aload_n hx hb dX0_dropLowest_0 rfl (lv_at hl 0 rfl) ?_
    refine va_get (D := D) (ci := 0) (v := .int vC.1) (C := RX0) (T := TX0) (N := 12) hx hb hts hinX0 hown hK.1 hP 0 rfl rfl 0 (by decide) wf0 (fun _ h9 => h9) rfl dX0_dropLowest_1 ?_
    refine lv_if_ne (tgt := 10) hx hb dX0_dropLowest_4 (by decide) (fun c4 => ?_) (fun c4 => ?_)
    · have h := kT h c4
      refine lv_aload_n hx hb dX0_dropLowest_10 rfl (lv_at hl 0 rfl) ?_
      refine lv_dup hx hb dX0_dropLowest_11 rfl ?_
      refine va_get (D := D) (ci := 0) (v := .int vC.1) (C := RX0) (T := TX0) (N := 12) hx hb hts hinX0 hown hK.1 hP 0 rfl rfl 0 (by decide) wf0 (fun _ h9 => h9) rfl dX0_dropLowest_12 ?_
      refine lv_iconst (v := 1) hx hb dX0_dropLowest_15 (by decide) ?_
      refine lv_isub hx hb dX0_dropLowest_16 ?_
      refine va_put (D := D) (ci := 0) (v := .int (vC.1 - (1 : Int32))) (ty := .int) (C := RX0) (T := TX0) (N := 12) hx hb hts hinX0 tyX0 tyX0_ok nmX0 hown hK.1 hP hD hS 0 rfl rfl 0 (by decide) wf0 (fun _ h9 => h9) rfl (by decide +kernel) rfl rfl (Nat.le_of_ble_eq_true rfl) dX0_dropLowest_17 (fun H locs hP hD hS => ?_)
      have hP : va_P D vwCl (wC ty adC ((vC.1 - (1 : Int32)), vC.2)) H := hP
      have hD : va_D A (wC ty adC ((vC.1 - (1 : Int32)), vC.2)) := hD
      refine lv_aload_n hx hb dX0_dropLowest_20 rfl (lv_at hl 0 rfl) ?_
      refine va_get (D := D) (ci := 0) (v := .int (vC.1 - (1 : Int32))) (C := RX0) (T := TX0) (N := 12) hx hb hts hinX0 hown hK.1 hP 0 rfl rfl 0 (by decide) wf0 (fun _ h9 => h9) rfl dX0_dropLowest_21 ?_
      obtain rfl := Option.some.inj h
      subst hQ
      exact W.iret (v := (vC.1 - (1 : Int32))) hx hb hr (fun t ht hW => ⟨⟨(vC.1 - (1 : Int32)), (), rfl, rfl, kEnd ht hP⟩, hS.F ht⟩) hS.2.2 dX0_dropLowest_24
    · have h := kF h (fun z => z c4)
      refine lv_ldc hx hb hown wf2 dX0_dropLowest_7 ?_
      obtain rfl := Option.some.inj h
      subst hQ
      exact W.iret (v := (-1000000003 : Int32)) hx hb hr (fun t ht hW => ⟨⟨(-1000000003 : Int32), (), rfl, rfl, kEnd ht hP⟩, hS.F ht⟩) hS.2.2 dX0_dropLowest_9
  exact E0 s.heap [] ls hP hD hS hl
def fX0_copyLayer (vC : KC) (p1 : Int32) (p2 : Int32) : Option (KC) := if kIn p1 16 = true then (if kIn p2 16 = true then (if kIn p1 16 = true then (if kIn p2 16 = true then (if kIn p1 16 = true then (if kIn p2 16 = true then (if kIn p1 16 = true then (if kIn p2 16 = true then (if kIn p1 16 = true then (if kIn p2 16 = true then (if kIn p1 16 = true then (if kIn p2 16 = true then (if kIn p1 16 = true then (if kIn p2 16 = true then (some (vC.1, vC.2.1, vC.2.2.1, vC.2.2.2.1, vC.2.2.2.2.1, (upd vC.2.2.2.2.2.1 p2.toNatClampNeg (vC.2.2.2.2.2.1 p1.toNatClampNeg)), (upd vC.2.2.2.2.2.2.1 p2.toNatClampNeg (vC.2.2.2.2.2.2.1 p1.toNatClampNeg)), (upd vC.2.2.2.2.2.2.2.1 p2.toNatClampNeg (vC.2.2.2.2.2.2.2.1 p1.toNatClampNeg)), (upd vC.2.2.2.2.2.2.2.2.1 p2.toNatClampNeg (vC.2.2.2.2.2.2.2.2.1 p1.toNatClampNeg)), (upd vC.2.2.2.2.2.2.2.2.2.1 p2.toNatClampNeg (vC.2.2.2.2.2.2.2.2.2.1 p1.toNatClampNeg)), (upd vC.2.2.2.2.2.2.2.2.2.2.1 p2.toNatClampNeg (vC.2.2.2.2.2.2.2.2.2.2.1 p1.toNatClampNeg)), (upd vC.2.2.2.2.2.2.2.2.2.2.2 p2.toNatClampNeg (vC.2.2.2.2.2.2.2.2.2.2.2 p1.toNatClampNeg)))) else none) else none) else none) else none) else none) else none) else none) else none) else none) else none) else none) else none) else none) else none
set_option maxHeartbeats 4000000 in
set_option maxRecDepth 100000 in
theorem cX0_copyLayer_ok (l : Launch) (D : va_G) (ty : kTy) (adC : Nat → Nat) (sz : Nat) (vC : KC) (p1 : Int32) (p2 : Int32)  (res : KC) (h : fX0_copyLayer vC p1 p2 = some res) : kMV l yX0_copyLayer wsX0_copyLayer { frames := 0, cells := 0, slots := 0, locals := 0 } [.ref (adC 0), .int p1, .int p2] D ty (wC ty adC vC) sz (wC ty adC res) := by
  refine Met.ofW (cc := cX0_copyLayer) (maxL := 3) (ret := none) (by decide) rfl ?_
  intro p e s m args below meth c s₁ B hml hv
  obtain ⟨rfl, hsz, hP, hK, hD0⟩ := hv
  have hx := B.exec
  have hb := B.bytes
  have hr := B.returns
  have hts := atoms_spec (ws := wsX0_copyLayer) B.pre
  have hown : s.vm.findClass RX0 = some m.cls := findClass_of_methodNamed B.named
  have hlocks := B.notSynchronized
  subst hsz
  have hD := hD0.self (sz := s.heap.size)
  generalize hAe : va_A (wC ty adC vC) s.heap.size = A at hD ⊢
  have hA : ∀ q : Nat, s.heap.size ≤ q → A q := fun q h => by rw [← hAe]; exact Or.inr h
  have hS : va_S A s.heap s.heap [] := va_S.rf
  refine kGenW (fun Q hQ => ?_)
  have wf0 := hts (.fieldLink RX0 28 "IceCoreDater$Core" "thickness" "[I") (by decide +kernel)
  have hinX0 : ∀ w ∈ wsX00, w ∈ wsX0_copyLayer := by decide +kernel
  have wf2 := hts (.fieldLink RX0 32 "IceCoreDater$Core" "accumulation" "[I") (by decide +kernel)
  have wf3 := hts (.fieldLink RX0 35 "IceCoreDater$Core" "correction" "[I") (by decide +kernel)
  have wf4 := hts (.fieldLink RX0 38 "IceCoreDater$Core" "told" "[I") (by decide +kernel)
  have wf5 := hts (.fieldLink RX0 41 "IceCoreDater$Core" "ashAge" "[I") (by decide +kernel)
  have wf6 := hts (.fieldLink RX0 44 "IceCoreDater$Core" "ashTolerance" "[I") (by decide +kernel)
  have wf7 := hts (.fieldLink RX0 47 "IceCoreDater$Core" "count" "[I") (by decide +kernel)
  have hl := lv_entry ([.ref (adC 0), .int p1, .int p2]) (n := 3) (Nat.le_of_ble_eq_true rfl)
  rw [lg_entry_eq]
  generalize (lg_sl ([.ref (adC 0), .int p1, .int p2]) ++ List.replicate (3 - (lg_sl ([.ref (adC 0), .int p1, .int p2])).length) Slot.unset).toArray = ls at hl ⊢
  have hl : lv_has ls 3 [(0, .ref (adC 0)), (1, .int p1), (2, .int p2)] := hl
  unfold fX0_copyLayer at h
  have E0 : ∀ (H : Heap) (locs : List Loc) (ls : Array Slot), va_P D vwCl (wC ty adC vC) H → va_D A (wC ty adC vC) → va_S A s.heap H locs → lv_has ls 3 [(0, .ref (adC 0)), (1, .int p1), (2, .int p2)] → W p l e (headSpec wsX0_copyLayer { frames := 0, cells := 0, slots := 0, locals := 0 }).room s m ([.ref (adC 0), .int p1, .int p2] : List Value).toArray below meth c H locs 0 0 Q (F0 m 0 ls []) := by
    intro H locs ls hP hD hS hl
    refine lv_aload_n hx hb dX0_copyLayer_0 rfl (lv_at hl 0 rfl) ?_
    refine va_get (D := D) (ci := 0) (v := .ref (adC 1)) (C := RX0) (T := TX0) (N := 12) hx hb hts hinX0 hown hK.1 hP 0 rfl rfl 5 (by decide) wf0 (fun _ h9 => h9) rfl dX0_copyLayer_1 ?_
    refine lv_iload_n hx hb dX0_copyLayer_4 rfl (lv_at hl 2 rfl) ?_
    refine lv_aload_n hx hb dX0_copyLayer_5 rfl (lv_at hl 0 rfl) ?_
    refine va_get (D := D) (ci := 0) (v := .ref (adC 1)) (C := RX0) (T := TX0) (N := 12) hx hb hts hinX0 hown hK.1 hP 0 rfl rfl 5 (by decide) wf0 (fun _ h9 => h9) rfl dX0_copyLayer_6 ?_
    refine lv_iload_n hx hb dX0_copyLayer_9 rfl (lv_at hl 1 rfl) ?_
    obtain ⟨b10, h⟩ := kIf h
    refine va_iald (f := vC.2.2.2.2.2.1) (n := 16) hx hb hK.1 hP 1 0 rfl rfl (kIn_ok b10) dX0_copyLayer_10 ?_
    obtain ⟨b11, h⟩ := kIf h
    refine va_iast (f := vC.2.2.2.2.2.1) (n := 16) hx hb hK.1 hP hD hS 1 0 rfl rfl (kIn_ok b11) dX0_copyLayer_11 (fun H locs hP hD hS => ?_)
    have hP : va_P D vwCl (wC ty adC (vC.1, vC.2.1, vC.2.2.1, vC.2.2.2.1, vC.2.2.2.2.1, (upd vC.2.2.2.2.2.1 p2.toNatClampNeg (vC.2.2.2.2.2.1 p1.toNatClampNeg)), vC.2.2.2.2.2.2)) H := hP
    have hD : va_D A (wC ty adC (vC.1, vC.2.1, vC.2.2.1, vC.2.2.2.1, vC.2.2.2.2.1, (upd vC.2.2.2.2.2.1 p2.toNatClampNeg (vC.2.2.2.2.2.1 p1.toNatClampNeg)), vC.2.2.2.2.2.2)) := hD
    refine lv_aload_n hx hb dX0_copyLayer_12 rfl (lv_at hl 0 rfl) ?_
    refine va_get (D := D) (ci := 0) (v := .ref (adC 2)) (C := RX0) (T := TX0) (N := 12) hx hb hts hinX0 hown hK.1 hP 0 rfl rfl 6 (by decide) wf2 (fun _ h9 => h9) rfl dX0_copyLayer_13 ?_
    refine lv_iload_n hx hb dX0_copyLayer_16 rfl (lv_at hl 2 rfl) ?_
    refine lv_aload_n hx hb dX0_copyLayer_17 rfl (lv_at hl 0 rfl) ?_
    refine va_get (D := D) (ci := 0) (v := .ref (adC 2)) (C := RX0) (T := TX0) (N := 12) hx hb hts hinX0 hown hK.1 hP 0 rfl rfl 6 (by decide) wf2 (fun _ h9 => h9) rfl dX0_copyLayer_18 ?_
    refine lv_iload_n hx hb dX0_copyLayer_21 rfl (lv_at hl 1 rfl) ?_
    obtain ⟨b22, h⟩ := kIf h
    refine va_iald (f := vC.2.2.2.2.2.2.1) (n := 16) hx hb hK.1 hP 2 0 rfl rfl (kIn_ok b22) dX0_copyLayer_22 ?_
    obtain ⟨b23, h⟩ := kIf h
    refine va_iast (f := vC.2.2.2.2.2.2.1) (n := 16) hx hb hK.1 hP hD hS 2 0 rfl rfl (kIn_ok b23) dX0_copyLayer_23 (fun H locs hP hD hS => ?_)
    have hP : va_P D vwCl (wC ty adC (vC.1, vC.2.1, vC.2.2.1, vC.2.2.2.1, vC.2.2.2.2.1, (upd vC.2.2.2.2.2.1 p2.toNatClampNeg (vC.2.2.2.2.2.1 p1.toNatClampNeg)), (upd vC.2.2.2.2.2.2.1 p2.toNatClampNeg (vC.2.2.2.2.2.2.1 p1.toNatClampNeg)), vC.2.2.2.2.2.2.2)) H := hP
    have hD : va_D A (wC ty adC (vC.1, vC.2.1, vC.2.2.1, vC.2.2.2.1, vC.2.2.2.2.1, (upd vC.2.2.2.2.2.1 p2.toNatClampNeg (vC.2.2.2.2.2.1 p1.toNatClampNeg)), (upd vC.2.2.2.2.2.2.1 p2.toNatClampNeg (vC.2.2.2.2.2.2.1 p1.toNatClampNeg)), vC.2.2.2.2.2.2.2)) := hD
    refine lv_aload_n hx hb dX0_copyLayer_24 rfl (lv_at hl 0 rfl) ?_
    refine va_get (D := D) (ci := 0) (v := .ref (adC 3)) (C := RX0) (T := TX0) (N := 12) hx hb hts hinX0 hown hK.1 hP 0 rfl rfl 7 (by decide) wf3 (fun _ h9 => h9) rfl dX0_copyLayer_25 ?_
    refine lv_iload_n hx hb dX0_copyLayer_28 rfl (lv_at hl 2 rfl) ?_
    refine lv_aload_n hx hb dX0_copyLayer_29 rfl (lv_at hl 0 rfl) ?_
    refine va_get (D := D) (ci := 0) (v := .ref (adC 3)) (C := RX0) (T := TX0) (N := 12) hx hb hts hinX0 hown hK.1 hP 0 rfl rfl 7 (by decide) wf3 (fun _ h9 => h9) rfl dX0_copyLayer_30 ?_
    refine lv_iload_n hx hb dX0_copyLayer_33 rfl (lv_at hl 1 rfl) ?_
    obtain ⟨b34, h⟩ := kIf h
    refine va_iald (f := vC.2.2.2.2.2.2.2.1) (n := 16) hx hb hK.1 hP 3 0 rfl rfl (kIn_ok b34) dX0_copyLayer_34 ?_
    obtain ⟨b35, h⟩ := kIf h
    refine va_iast (f := vC.2.2.2.2.2.2.2.1) (n := 16) hx hb hK.1 hP hD hS 3 0 rfl rfl (kIn_ok b35) dX0_copyLayer_35 (fun H locs hP hD hS => ?_)
    have hP : va_P D vwCl (wC ty adC (vC.1, vC.2.1, vC.2.2.1, vC.2.2.2.1, vC.2.2.2.2.1, (upd vC.2.2.2.2.2.1 p2.toNatClampNeg (vC.2.2.2.2.2.1 p1.toNatClampNeg)), (upd vC.2.2.2.2.2.2.1 p2.toNatClampNeg (vC.2.2.2.2.2.2.1 p1.toNatClampNeg)), (upd vC.2.2.2.2.2.2.2.1 p2.toNatClampNeg (vC.2.2.2.2.2.2.2.1 p1.toNatClampNeg)), vC.2.2.2.2.2.2.2.2)) H := hP
    have hD : va_D A (wC ty adC (vC.1, vC.2.1, vC.2.2.1, vC.2.2.2.1, vC.2.2.2.2.1, (upd vC.2.2.2.2.2.1 p2.toNatClampNeg (vC.2.2.2.2.2.1 p1.toNatClampNeg)), (upd vC.2.2.2.2.2.2.1 p2.toNatClampNeg (vC.2.2.2.2.2.2.1 p1.toNatClampNeg)), (upd vC.2.2.2.2.2.2.2.1 p2.toNatClampNeg (vC.2.2.2.2.2.2.2.1 p1.toNatClampNeg)), vC.2.2.2.2.2.2.2.2)) := hD
    refine lv_aload_n hx hb dX0_copyLayer_36 rfl (lv_at hl 0 rfl) ?_
    refine va_get (D := D) (ci := 0) (v := .ref (adC 4)) (C := RX0) (T := TX0) (N := 12) hx hb hts hinX0 hown hK.1 hP 0 rfl rfl 8 (by decide) wf4 (fun _ h9 => h9) rfl dX0_copyLayer_37 ?_
    refine lv_iload_n hx hb dX0_copyLayer_40 rfl (lv_at hl 2 rfl) ?_
    refine lv_aload_n hx hb dX0_copyLayer_41 rfl (lv_at hl 0 rfl) ?_
    refine va_get (D := D) (ci := 0) (v := .ref (adC 4)) (C := RX0) (T := TX0) (N := 12) hx hb hts hinX0 hown hK.1 hP 0 rfl rfl 8 (by decide) wf4 (fun _ h9 => h9) rfl dX0_copyLayer_42 ?_
    refine lv_iload_n hx hb dX0_copyLayer_45 rfl (lv_at hl 1 rfl) ?_
    obtain ⟨b46, h⟩ := kIf h
    refine va_iald (f := vC.2.2.2.2.2.2.2.2.1) (n := 16) hx hb hK.1 hP 4 0 rfl rfl (kIn_ok b46) dX0_copyLayer_46 ?_
    obtain ⟨b47, h⟩ := kIf h
    refine va_iast (f := vC.2.2.2.2.2.2.2.2.1) (n := 16) hx hb hK.1 hP hD hS 4 0 rfl rfl (kIn_ok b47) dX0_copyLayer_47 (fun H locs hP hD hS => ?_)
    have hP : va_P D vwCl (wC ty adC (vC.1, vC.2.1, vC.2.2.1, vC.2.2.2.1, vC.2.2.2.2.1, (upd vC.2.2.2.2.2.1 p2.toNatClampNeg (vC.2.2.2.2.2.1 p1.toNatClampNeg)), (upd vC.2.2.2.2.2.2.1 p2.toNatClampNeg (vC.2.2.2.2.2.2.1 p1.toNatClampNeg)), (upd vC.2.2.2.2.2.2.2.1 p2.toNatClampNeg (vC.2.2.2.2.2.2.2.1 p1.toNatClampNeg)), (upd vC.2.2.2.2.2.2.2.2.1 p2.toNatClampNeg (vC.2.2.2.2.2.2.2.2.1 p1.toNatClampNeg)), vC.2.2.2.2.2.2.2.2.2)) H := hP
    have hD : va_D A (wC ty adC (vC.1, vC.2.1, vC.2.2.1, vC.2.2.2.1, vC.2.2.2.2.1, (upd vC.2.2.2.2.2.1 p2.toNatClampNeg (vC.2.2.2.2.2.1 p1.toNatClampNeg)), (upd vC.2.2.2.2.2.2.1 p2.toNatClampNeg (vC.2.2.2.2.2.2.1 p1.toNatClampNeg)), (upd vC.2.2.2.2.2.2.2.1 p2.toNatClampNeg (vC.2.2.2.2.2.2.2.1 p1.toNatClampNeg)), (upd vC.2.2.2.2.2.2.2.2.1 p2.toNatClampNeg (vC.2.2.2.2.2.2.2.2.1 p1.toNatClampNeg)), vC.2.2.2.2.2.2.2.2.2)) := hD
    refine lv_aload_n hx hb dX0_copyLayer_48 rfl (lv_at hl 0 rfl) ?_
    refine va_get (D := D) (ci := 0) (v := .ref (adC 5)) (C := RX0) (T := TX0) (N := 12) hx hb hts hinX0 hown hK.1 hP 0 rfl rfl 9 (by decide) wf5 (fun _ h9 => h9) rfl dX0_copyLayer_49 ?_
    refine lv_iload_n hx hb dX0_copyLayer_52 rfl (lv_at hl 2 rfl) ?_
    refine lv_aload_n hx hb dX0_copyLayer_53 rfl (lv_at hl 0 rfl) ?_
    refine va_get (D := D) (ci := 0) (v := .ref (adC 5)) (C := RX0) (T := TX0) (N := 12) hx hb hts hinX0 hown hK.1 hP 0 rfl rfl 9 (by decide) wf5 (fun _ h9 => h9) rfl dX0_copyLayer_54 ?_
    refine lv_iload_n hx hb dX0_copyLayer_57 rfl (lv_at hl 1 rfl) ?_
    obtain ⟨b58, h⟩ := kIf h
    refine va_iald (f := vC.2.2.2.2.2.2.2.2.2.1) (n := 16) hx hb hK.1 hP 5 0 rfl rfl (kIn_ok b58) dX0_copyLayer_58 ?_
    obtain ⟨b59, h⟩ := kIf h
    refine va_iast (f := vC.2.2.2.2.2.2.2.2.2.1) (n := 16) hx hb hK.1 hP hD hS 5 0 rfl rfl (kIn_ok b59) dX0_copyLayer_59 (fun H locs hP hD hS => ?_)
    have hP : va_P D vwCl (wC ty adC (vC.1, vC.2.1, vC.2.2.1, vC.2.2.2.1, vC.2.2.2.2.1, (upd vC.2.2.2.2.2.1 p2.toNatClampNeg (vC.2.2.2.2.2.1 p1.toNatClampNeg)), (upd vC.2.2.2.2.2.2.1 p2.toNatClampNeg (vC.2.2.2.2.2.2.1 p1.toNatClampNeg)), (upd vC.2.2.2.2.2.2.2.1 p2.toNatClampNeg (vC.2.2.2.2.2.2.2.1 p1.toNatClampNeg)), (upd vC.2.2.2.2.2.2.2.2.1 p2.toNatClampNeg (vC.2.2.2.2.2.2.2.2.1 p1.toNatClampNeg)), (upd vC.2.2.2.2.2.2.2.2.2.1 p2.toNatClampNeg (vC.2.2.2.2.2.2.2.2.2.1 p1.toNatClampNeg)), vC.2.2.2.2.2.2.2.2.2.2)) H := hP
    have hD : va_D A (wC ty adC (vC.1, vC.2.1, vC.2.2.1, vC.2.2.2.1, vC.2.2.2.2.1, (upd vC.2.2.2.2.2.1 p2.toNatClampNeg (vC.2.2.2.2.2.1 p1.toNatClampNeg)), (upd vC.2.2.2.2.2.2.1 p2.toNatClampNeg (vC.2.2.2.2.2.2.1 p1.toNatClampNeg)), (upd vC.2.2.2.2.2.2.2.1 p2.toNatClampNeg (vC.2.2.2.2.2.2.2.1 p1.toNatClampNeg)), (upd vC.2.2.2.2.2.2.2.2.1 p2.toNatClampNeg (vC.2.2.2.2.2.2.2.2.1 p1.toNatClampNeg)), (upd vC.2.2.2.2.2.2.2.2.2.1 p2.toNatClampNeg (vC.2.2.2.2.2.2.2.2.2.1 p1.toNatClampNeg)), vC.2.2.2.2.2.2.2.2.2.2)) := hD
    refine lv_aload_n hx hb dX0_copyLayer_60 rfl (lv_at hl 0 rfl) ?_
    refine va_get (D := D) (ci := 0) (v := .ref (adC 6)) (C := RX0) (T := TX0) (N := 12) hx hb hts hinX0 hown hK.1 hP 0 rfl rfl 10 (by decide) wf6 (fun _ h9 => h9) rfl dX0_copyLayer_61 ?_
    refine lv_iload_n hx hb dX0_copyLayer_64 rfl (lv_at hl 2 rfl) ?_
    refine lv_aload_n hx hb dX0_copyLayer_65 rfl (lv_at hl 0 rfl) ?_
    refine va_get (D := D) (ci := 0) (v := .ref (adC 6)) (C := RX0) (T := TX0) (N := 12) hx hb hts hinX0 hown hK.1 hP 0 rfl rfl 10 (by decide) wf6 (fun _ h9 => h9) rfl dX0_copyLayer_66 ?_
    refine lv_iload_n hx hb dX0_copyLayer_69 rfl (lv_at hl 1 rfl) ?_
    obtain ⟨b70, h⟩ := kIf h
    refine va_iald (f := vC.2.2.2.2.2.2.2.2.2.2.1) (n := 16) hx hb hK.1 hP 6 0 rfl rfl (kIn_ok b70) dX0_copyLayer_70 ?_
    obtain ⟨b71, h⟩ := kIf h
    refine va_iast (f := vC.2.2.2.2.2.2.2.2.2.2.1) (n := 16) hx hb hK.1 hP hD hS 6 0 rfl rfl (kIn_ok b71) dX0_copyLayer_71 (fun H locs hP hD hS => ?_)
    have hP : va_P D vwCl (wC ty adC (vC.1, vC.2.1, vC.2.2.1, vC.2.2.2.1, vC.2.2.2.2.1, (upd vC.2.2.2.2.2.1 p2.toNatClampNeg (vC.2.2.2.2.2.1 p1.toNatClampNeg)), (upd vC.2.2.2.2.2.2.1 p2.toNatClampNeg (vC.2.2.2.2.2.2.1 p1.toNatClampNeg)), (upd vC.2.2.2.2.2.2.2.1 p2.toNatClampNeg (vC.2.2.2.2.2.2.2.1 p1.toNatClampNeg)), (upd vC.2.2.2.2.2.2.2.2.1 p2.toNatClampNeg (vC.2.2.2.2.2.2.2.2.1 p1.toNatClampNeg)), (upd vC.2.2.2.2.2.2.2.2.2.1 p2.toNatClampNeg (vC.2.2.2.2.2.2.2.2.2.1 p1.toNatClampNeg)), (upd vC.2.2.2.2.2.2.2.2.2.2.1 p2.toNatClampNeg (vC.2.2.2.2.2.2.2.2.2.2.1 p1.toNatClampNeg)), vC.2.2.2.2.2.2.2.2.2.2.2)) H := hP
    have hD : va_D A (wC ty adC (vC.1, vC.2.1, vC.2.2.1, vC.2.2.2.1, vC.2.2.2.2.1, (upd vC.2.2.2.2.2.1 p2.toNatClampNeg (vC.2.2.2.2.2.1 p1.toNatClampNeg)), (upd vC.2.2.2.2.2.2.1 p2.toNatClampNeg (vC.2.2.2.2.2.2.1 p1.toNatClampNeg)), (upd vC.2.2.2.2.2.2.2.1 p2.toNatClampNeg (vC.2.2.2.2.2.2.2.1 p1.toNatClampNeg)), (upd vC.2.2.2.2.2.2.2.2.1 p2.toNatClampNeg (vC.2.2.2.2.2.2.2.2.1 p1.toNatClampNeg)), (upd vC.2.2.2.2.2.2.2.2.2.1 p2.toNatClampNeg (vC.2.2.2.2.2.2.2.2.2.1 p1.toNatClampNeg)), (upd vC.2.2.2.2.2.2.2.2.2.2.1 p2.toNatClampNeg (vC.2.2.2.2.2.2.2.2.2.2.1 p1.toNatClampNeg)), vC.2.2.2.2.2.2.2.2.2.2.2)) := hD
    refine lv_aload_n hx hb dX0_copyLayer_72 rfl (lv_at hl 0 rfl) ?_
    refine va_get (D := D) (ci := 0) (v := .ref (adC 7)) (C := RX0) (T := TX0) (N := 12) hx hb hts hinX0 hown hK.1 hP 0 rfl rfl 11 (by decide) wf7 (fun _ h9 => h9) rfl dX0_copyLayer_73 ?_
    refine lv_iload_n hx hb dX0_copyLayer_76 rfl (lv_at hl 2 rfl) ?_
    refine lv_aload_n hx hb dX0_copyLayer_77 rfl (lv_at hl 0 rfl) ?_
    refine va_get (D := D) (ci := 0) (v := .ref (adC 7)) (C := RX0) (T := TX0) (N := 12) hx hb hts hinX0 hown hK.1 hP 0 rfl rfl 11 (by decide) wf7 (fun _ h9 => h9) rfl dX0_copyLayer_78 ?_
    refine lv_iload_n hx hb dX0_copyLayer_81 rfl (lv_at hl 1 rfl) ?_
    obtain ⟨b82, h⟩ := kIf h
    refine va_iald (f := vC.2.2.2.2.2.2.2.2.2.2.2) (n := 16) hx hb hK.1 hP 7 0 rfl rfl (kIn_ok b82) dX0_copyLayer_82 ?_
    obtain ⟨b83, h⟩ := kIf h
    refine va_iast (f := vC.2.2.2.2.2.2.2.2.2.2.2) (n := 16) hx hb hK.1 hP hD hS 7 0 rfl rfl (kIn_ok b83) dX0_copyLayer_83 (fun H locs hP hD hS => ?_)
    have hP : va_P D vwCl (wC ty adC (vC.1, vC.2.1, vC.2.2.1, vC.2.2.2.1, vC.2.2.2.2.1, (upd vC.2.2.2.2.2.1 p2.toNatClampNeg (vC.2.2.2.2.2.1 p1.toNatClampNeg)), (upd vC.2.2.2.2.2.2.1 p2.toNatClampNeg (vC.2.2.2.2.2.2.1 p1.toNatClampNeg)), (upd vC.2.2.2.2.2.2.2.1 p2.toNatClampNeg (vC.2.2.2.2.2.2.2.1 p1.toNatClampNeg)), (upd vC.2.2.2.2.2.2.2.2.1 p2.toNatClampNeg (vC.2.2.2.2.2.2.2.2.1 p1.toNatClampNeg)), (upd vC.2.2.2.2.2.2.2.2.2.1 p2.toNatClampNeg (vC.2.2.2.2.2.2.2.2.2.1 p1.toNatClampNeg)), (upd vC.2.2.2.2.2.2.2.2.2.2.1 p2.toNatClampNeg (vC.2.2.2.2.2.2.2.2.2.2.1 p1.toNatClampNeg)), (upd vC.2.2.2.2.2.2.2.2.2.2.2 p2.toNatClampNeg (vC.2.2.2.2.2.2.2.2.2.2.2 p1.toNatClampNeg)))) H := hP
    have hD : va_D A (wC ty adC (vC.1, vC.2.1, vC.2.2.1, vC.2.2.2.1, vC.2.2.2.2.1, (upd vC.2.2.2.2.2.1 p2.toNatClampNeg (vC.2.2.2.2.2.1 p1.toNatClampNeg)), (upd vC.2.2.2.2.2.2.1 p2.toNatClampNeg (vC.2.2.2.2.2.2.1 p1.toNatClampNeg)), (upd vC.2.2.2.2.2.2.2.1 p2.toNatClampNeg (vC.2.2.2.2.2.2.2.1 p1.toNatClampNeg)), (upd vC.2.2.2.2.2.2.2.2.1 p2.toNatClampNeg (vC.2.2.2.2.2.2.2.2.1 p1.toNatClampNeg)), (upd vC.2.2.2.2.2.2.2.2.2.1 p2.toNatClampNeg (vC.2.2.2.2.2.2.2.2.2.1 p1.toNatClampNeg)), (upd vC.2.2.2.2.2.2.2.2.2.2.1 p2.toNatClampNeg (vC.2.2.2.2.2.2.2.2.2.2.1 p1.toNatClampNeg)), (upd vC.2.2.2.2.2.2.2.2.2.2.2 p2.toNatClampNeg (vC.2.2.2.2.2.2.2.2.2.2.2 p1.toNatClampNeg)))) := hD
    obtain rfl := Option.some.inj h
    subst hQ
    exact W.vret hx hb hr (fun t ht hW => ⟨⟨(), rfl, trivial, kEnd ht hP⟩, hS.F ht⟩) hS.2.2 dX0_copyLayer_84
  exact E0 s.heap [] ls hP hD hS hl
def fX0_split_c47 (uC : KC) (x1 : Int32) (x2 : Int32) (x3 : Int32) (nx47 : KC × Int32 → Option (Int32 × KC)) : Option (Int32 × KC) := if x3 ≤ x1 then (if kIn x1 16 = true then (if kIn (x1 + (1 : Int32)) 16 = true then (if kIn (x1 + (1 : Int32)) 16 = true then (if kIn x1 16 = true then (if kIn x1 16 = true then (if kIn (x1 + (1 : Int32)) 16 = true then (some ((uC.1 + (1 : Int32)), ((uC.1 + (1 : Int32)), uC.2.1, uC.2.2.1, uC.2.2.2.1, uC.2.2.2.2.1, (upd (upd uC.2.2.2.2.2.1 x1.toNatClampNeg x2) (x1 + (1 : Int32)).toNatClampNeg (((upd uC.2.2.2.2.2.1 x1.toNatClampNeg x2) (x1 + (1 : Int32)).toNatClampNeg) - x2)), uC.2.2.2.2.2.2.1, uC.2.2.2.2.2.2.2.1, uC.2.2.2.2.2.2.2.2.1, (upd uC.2.2.2.2.2.2.2.2.2.1 x1.toNatClampNeg (-1 : Int32)), uC.2.2.2.2.2.2.2.2.2.2.1, (upd (upd uC.2.2.2.2.2.2.2.2.2.2.2 x1.toNatClampNeg (0 : Int32)) (x1 + (1 : Int32)).toNatClampNeg (0 : Int32))))) else none) else none) else none) else none) else none) else none) else ((fX0_copyLayer uC (x3 - (1 : Int32)) x3).bind fun r57 => nx47 (r57, (x3 + (-1))))
def fX0_split (vC : KC) (p1 : Int32) (p2 : Int32) : Option (Int32 × KC) := (fX0_has vC p1).bind fun r2 => if ¬ r2 = (0 : Int32) then (if kIn p1 16 = true then ((fX4_isBetween p2 (1 : Int32) ((vC.2.2.2.2.2.1 p1.toNatClampNeg) - (1 : Int32))).bind fun r21 => if ¬ r21 = (0 : Int32) then (if vC.1 < (16 : Int32) then (kLoopC kFu (fun q nx47 => fX0_split_c47 q.1 p1 p2 q.2 nx47) (vC, vC.1)) else (some ((-1000000004 : Int32), vC))) else (some ((-1000000002 : Int32), vC))) else none) else (some ((-1000000001 : Int32), vC))
set_option maxHeartbeats 4000000 in
set_option maxRecDepth 100000 in
theorem cX0_split_ok (l : Launch) (D : va_G) (ty : kTy) (adC : Nat → Nat) (sz : Nat) (vC : KC) (p1 : Int32) (p2 : Int32)  (res : Int32 × KC) (h : fX0_split vC p1 p2 = some res) : kMI l yX0_split wsX0_split { frames := 1, cells := 0, slots := 0, locals := 22 } [.ref (adC 0), .int p1, .int p2] D ty (wC ty adC vC) sz res.1 (wC ty adC res.2) := by
  refine Met.ofW (cc := cX0_split) (maxL := 4) (ret := (some .int)) (by decide) rfl ?_
  intro p e s m args below meth c s₁ B hml hv
  obtain ⟨rfl, hsz, hP, hK, hD0⟩ := hv
  have hx := B.exec
  have hb := B.bytes
  have hr := B.returns
  have hts := atoms_spec (ws := wsX0_split) B.pre
  have hown : s.vm.findClass RX0 = some m.cls := findClass_of_methodNamed B.named
  have hlocks := B.notSynchronized
  subst hsz
  have hD := hD0.self (sz := s.heap.size)
  generalize hAe : va_A (wC ty adC vC) s.heap.size = A at hD ⊢
  have hA : ∀ q : Nat, s.heap.size ≤ q → A q := fun q h => by rw [← hAe]; exact Or.inr h
  have hS : va_S A s.heap s.heap [] := va_S.rf
  refine kGenW (fun Q hQ => ?_)
  have wf0 := hts (.fieldLink RX0 9 "IceCoreDater$Core" "size" "I") (by decide +kernel)
  have hinX0 : ∀ w ∈ wsX00, w ∈ wsX0_split := by decide +kernel
  have wf2 := hts (.fieldLink RX0 28 "IceCoreDater$Core" "thickness" "[I") (by decide +kernel)
  have wf3 := hts (.fieldLink RX0 41 "IceCoreDater$Core" "ashAge" "[I") (by decide +kernel)
  have wf4 := hts (.fieldLink RX0 47 "IceCoreDater$Core" "count" "[I") (by decide +kernel)
  have wf5 := hts (.initialized RX4) (by decide +kernel)
  have wf6 := hts (.static yX4_isBetween) (by decide +kernel)
  have wf7 := hts (.constant RX0 77 (-1000000004)) (by decide +kernel)
  have wf8 := hts (.constant RX0 71 (-1000000002)) (by decide +kernel)
  have wf9 := hts (.constant RX0 78 (-1000000001)) (by decide +kernel)
  have B47 : ∀ (x1 : Int32) (x2 : Int32) (nx47 : KC × Int32 → Option (Int32 × KC)) (hn47 : ∀ (uC : KC) (x3 : Int32), nx47 (uC, x3) = some res → ∀ (H : Heap) (locs : List Loc) (ls : Array Slot), va_P D vwCl (wC ty adC uC) H → va_D A (wC ty adC uC) → va_S A s.heap H locs → lv_has ls 4 [(0, .ref (adC 0)), (1, .int x1), (2, .int x2), (3, .int x3)] → W p l e (headSpec wsX0_split { frames := 1, cells := 0, slots := 0, locals := 22 }).room s m ([.ref (adC 0), .int p1, .int p2] : List Value).toArray below meth c H locs 0 0 Q (F0 m 47 ls [])) (uC : KC) (x3 : Int32), fX0_split_c47 uC x1 x2 x3 nx47 = some res → ∀ (H : Heap) (locs : List Loc) (ls : Array Slot), va_P D vwCl (wC ty adC uC) H → va_D A (wC ty adC uC) → va_S A s.heap H locs → lv_has ls 4 [(0, .ref (adC 0)), (1, .int x1), (2, .int x2), (3, .int x3)] → W p l e (headSpec wsX0_split { frames := 1, cells := 0, slots := 0, locals := 22 }).room s m ([.ref (adC 0), .int p1, .int p2] : List Value).toArray below meth c H locs 0 0 Q (F0 m 47 ls []) := by
    intro x1 x2 nx47 hn47 uC x3 h H locs ls hP hD hS hl
    unfold fX0_split_c47 at h
    refine lv_iload_n hx hb dX0_split_47 rfl (lv_at hl 3 rfl) ?_
    refine lv_iload_n hx hb dX0_split_48 rfl (lv_at hl 1 rfl) ?_
    refine lv_icmp_le (tgt := 66) hx hb dX0_split_49 (by decide) (fun c49 => ?_) (fun c49 => ?_)
    · have h := kT h c49
      refine lv_aload_n hx hb dX0_split_66 rfl (lv_at hl 0 rfl) ?_
      refine lv_dup hx hb dX0_split_67 rfl ?_
      refine va_get (D := D) (ci := 0) (v := .int uC.1) (C := RX0) (T := TX0) (N := 12) hx hb hts hinX0 hown hK.1 hP 0 rfl rfl 0 (by decide) wf0 (fun _ h9 => h9) rfl dX0_split_68 ?_
      refine lv_iconst (v := 1) hx hb dX0_split_71 (by decide) ?_
      refine lv_iadd hx hb dX0_split_72 ?_
      refine va_put (D := D) (ci := 0) (v := .int (uC.1 + (1 : Int32))) (ty := .int) (C := RX0) (T := TX0) (N := 12) hx hb hts hinX0 tyX0 tyX0_ok nmX0 hown hK.1 hP hD hS 0 rfl rfl 0 (by decide) wf0 (fun _ h9 => h9) rfl (by decide +kernel) rfl rfl (Nat.le_of_ble_eq_true rfl) dX0_split_73 (fun H locs hP hD hS => ?_)
      have hP : va_P D vwCl (wC ty adC ((uC.1 + (1 : Int32)), uC.2)) H := hP
      have hD : va_D A (wC ty adC ((uC.1 + (1 : Int32)), uC.2)) := hD
      refine lv_aload_n hx hb dX0_split_76 rfl (lv_at hl 0 rfl) ?_
      refine va_get (D := D) (ci := 0) (v := .ref (adC 1)) (C := RX0) (T := TX0) (N := 12) hx hb hts hinX0 hown hK.1 hP 0 rfl rfl 5 (by decide) wf2 (fun _ h9 => h9) rfl dX0_split_77 ?_
      refine lv_iload_n hx hb dX0_split_80 rfl (lv_at hl 1 rfl) ?_
      refine lv_iload_n hx hb dX0_split_81 rfl (lv_at hl 2 rfl) ?_
      obtain ⟨b82, h⟩ := kIf h
      refine va_iast (f := uC.2.2.2.2.2.1) (n := 16) hx hb hK.1 hP hD hS 1 0 rfl rfl (kIn_ok b82) dX0_split_82 (fun H locs hP hD hS => ?_)
      have hP : va_P D vwCl (wC ty adC ((uC.1 + (1 : Int32)), uC.2.1, uC.2.2.1, uC.2.2.2.1, uC.2.2.2.2.1, (upd uC.2.2.2.2.2.1 x1.toNatClampNeg x2), uC.2.2.2.2.2.2)) H := hP
      have hD : va_D A (wC ty adC ((uC.1 + (1 : Int32)), uC.2.1, uC.2.2.1, uC.2.2.2.1, uC.2.2.2.2.1, (upd uC.2.2.2.2.2.1 x1.toNatClampNeg x2), uC.2.2.2.2.2.2)) := hD
      refine lv_aload_n hx hb dX0_split_83 rfl (lv_at hl 0 rfl) ?_
      refine va_get (D := D) (ci := 0) (v := .ref (adC 1)) (C := RX0) (T := TX0) (N := 12) hx hb hts hinX0 hown hK.1 hP 0 rfl rfl 5 (by decide) wf2 (fun _ h9 => h9) rfl dX0_split_84 ?_
      refine lv_iload_n hx hb dX0_split_87 rfl (lv_at hl 1 rfl) ?_
      refine lv_iconst (v := 1) hx hb dX0_split_88 (by decide) ?_
      refine lv_iadd hx hb dX0_split_89 ?_
      refine lv_dup2_11 hx hb dX0_split_90 rfl rfl ?_
      obtain ⟨b91, h⟩ := kIf h
      refine va_iald (f := (upd uC.2.2.2.2.2.1 x1.toNatClampNeg x2)) (n := 16) hx hb hK.1 hP 1 0 rfl rfl (kIn_ok b91) dX0_split_91 ?_
      refine lv_iload_n hx hb dX0_split_92 rfl (lv_at hl 2 rfl) ?_
      refine lv_isub hx hb dX0_split_93 ?_
      obtain ⟨b94, h⟩ := kIf h
      refine va_iast (f := (upd uC.2.2.2.2.2.1 x1.toNatClampNeg x2)) (n := 16) hx hb hK.1 hP hD hS 1 0 rfl rfl (kIn_ok b94) dX0_split_94 (fun H locs hP hD hS => ?_)
      have hP : va_P D vwCl (wC ty adC ((uC.1 + (1 : Int32)), uC.2.1, uC.2.2.1, uC.2.2.2.1, uC.2.2.2.2.1, (upd (upd uC.2.2.2.2.2.1 x1.toNatClampNeg x2) (x1 + (1 : Int32)).toNatClampNeg (((upd uC.2.2.2.2.2.1 x1.toNatClampNeg x2) (x1 + (1 : Int32)).toNatClampNeg) - x2)), uC.2.2.2.2.2.2)) H := hP
      have hD : va_D A (wC ty adC ((uC.1 + (1 : Int32)), uC.2.1, uC.2.2.1, uC.2.2.2.1, uC.2.2.2.2.1, (upd (upd uC.2.2.2.2.2.1 x1.toNatClampNeg x2) (x1 + (1 : Int32)).toNatClampNeg (((upd uC.2.2.2.2.2.1 x1.toNatClampNeg x2) (x1 + (1 : Int32)).toNatClampNeg) - x2)), uC.2.2.2.2.2.2)) := hD
      refine lv_aload_n hx hb dX0_split_95 rfl (lv_at hl 0 rfl) ?_
      refine va_get (D := D) (ci := 0) (v := .ref (adC 5)) (C := RX0) (T := TX0) (N := 12) hx hb hts hinX0 hown hK.1 hP 0 rfl rfl 9 (by decide) wf3 (fun _ h9 => h9) rfl dX0_split_96 ?_
      refine lv_iload_n hx hb dX0_split_99 rfl (lv_at hl 1 rfl) ?_
      refine lv_iconst (v := (-1)) hx hb dX0_split_100 (by decide) ?_
      obtain ⟨b101, h⟩ := kIf h
      refine va_iast (f := uC.2.2.2.2.2.2.2.2.2.1) (n := 16) hx hb hK.1 hP hD hS 5 0 rfl rfl (kIn_ok b101) dX0_split_101 (fun H locs hP hD hS => ?_)
      have hP : va_P D vwCl (wC ty adC ((uC.1 + (1 : Int32)), uC.2.1, uC.2.2.1, uC.2.2.2.1, uC.2.2.2.2.1, (upd (upd uC.2.2.2.2.2.1 x1.toNatClampNeg x2) (x1 + (1 : Int32)).toNatClampNeg (((upd uC.2.2.2.2.2.1 x1.toNatClampNeg x2) (x1 + (1 : Int32)).toNatClampNeg) - x2)), uC.2.2.2.2.2.2.1, uC.2.2.2.2.2.2.2.1, uC.2.2.2.2.2.2.2.2.1, (upd uC.2.2.2.2.2.2.2.2.2.1 x1.toNatClampNeg (-1 : Int32)), uC.2.2.2.2.2.2.2.2.2.2)) H := hP
      have hD : va_D A (wC ty adC ((uC.1 + (1 : Int32)), uC.2.1, uC.2.2.1, uC.2.2.2.1, uC.2.2.2.2.1, (upd (upd uC.2.2.2.2.2.1 x1.toNatClampNeg x2) (x1 + (1 : Int32)).toNatClampNeg (((upd uC.2.2.2.2.2.1 x1.toNatClampNeg x2) (x1 + (1 : Int32)).toNatClampNeg) - x2)), uC.2.2.2.2.2.2.1, uC.2.2.2.2.2.2.2.1, uC.2.2.2.2.2.2.2.2.1, (upd uC.2.2.2.2.2.2.2.2.2.1 x1.toNatClampNeg (-1 : Int32)), uC.2.2.2.2.2.2.2.2.2.2)) := hD
      refine lv_aload_n hx hb dX0_split_102 rfl (lv_at hl 0 rfl) ?_
      refine va_get (D := D) (ci := 0) (v := .ref (adC 7)) (C := RX0) (T := TX0) (N := 12) hx hb hts hinX0 hown hK.1 hP 0 rfl rfl 11 (by decide) wf4 (fun _ h9 => h9) rfl dX0_split_103 ?_
      refine lv_iload_n hx hb dX0_split_106 rfl (lv_at hl 1 rfl) ?_
      refine lv_iconst (v := 0) hx hb dX0_split_107 (by decide) ?_
      obtain ⟨b108, h⟩ := kIf h
      refine va_iast (f := uC.2.2.2.2.2.2.2.2.2.2.2) (n := 16) hx hb hK.1 hP hD hS 7 0 rfl rfl (kIn_ok b108) dX0_split_108 (fun H locs hP hD hS => ?_)
      have hP : va_P D vwCl (wC ty adC ((uC.1 + (1 : Int32)), uC.2.1, uC.2.2.1, uC.2.2.2.1, uC.2.2.2.2.1, (upd (upd uC.2.2.2.2.2.1 x1.toNatClampNeg x2) (x1 + (1 : Int32)).toNatClampNeg (((upd uC.2.2.2.2.2.1 x1.toNatClampNeg x2) (x1 + (1 : Int32)).toNatClampNeg) - x2)), uC.2.2.2.2.2.2.1, uC.2.2.2.2.2.2.2.1, uC.2.2.2.2.2.2.2.2.1, (upd uC.2.2.2.2.2.2.2.2.2.1 x1.toNatClampNeg (-1 : Int32)), uC.2.2.2.2.2.2.2.2.2.2.1, (upd uC.2.2.2.2.2.2.2.2.2.2.2 x1.toNatClampNeg (0 : Int32)))) H := hP
      have hD : va_D A (wC ty adC ((uC.1 + (1 : Int32)), uC.2.1, uC.2.2.1, uC.2.2.2.1, uC.2.2.2.2.1, (upd (upd uC.2.2.2.2.2.1 x1.toNatClampNeg x2) (x1 + (1 : Int32)).toNatClampNeg (((upd uC.2.2.2.2.2.1 x1.toNatClampNeg x2) (x1 + (1 : Int32)).toNatClampNeg) - x2)), uC.2.2.2.2.2.2.1, uC.2.2.2.2.2.2.2.1, uC.2.2.2.2.2.2.2.2.1, (upd uC.2.2.2.2.2.2.2.2.2.1 x1.toNatClampNeg (-1 : Int32)), uC.2.2.2.2.2.2.2.2.2.2.1, (upd uC.2.2.2.2.2.2.2.2.2.2.2 x1.toNatClampNeg (0 : Int32)))) := hD
      refine lv_aload_n hx hb dX0_split_109 rfl (lv_at hl 0 rfl) ?_
      refine va_get (D := D) (ci := 0) (v := .ref (adC 7)) (C := RX0) (T := TX0) (N := 12) hx hb hts hinX0 hown hK.1 hP 0 rfl rfl 11 (by decide) wf4 (fun _ h9 => h9) rfl dX0_split_110 ?_
      refine lv_iload_n hx hb dX0_split_113 rfl (lv_at hl 1 rfl) ?_
      refine lv_iconst (v := 1) hx hb dX0_split_114 (by decide) ?_
      refine lv_iadd hx hb dX0_split_115 ?_
      refine lv_iconst (v := 0) hx hb dX0_split_116 (by decide) ?_
      obtain ⟨b117, h⟩ := kIf h
      refine va_iast (f := (upd uC.2.2.2.2.2.2.2.2.2.2.2 x1.toNatClampNeg (0 : Int32))) (n := 16) hx hb hK.1 hP hD hS 7 0 rfl rfl (kIn_ok b117) dX0_split_117 (fun H locs hP hD hS => ?_)
      have hP : va_P D vwCl (wC ty adC ((uC.1 + (1 : Int32)), uC.2.1, uC.2.2.1, uC.2.2.2.1, uC.2.2.2.2.1, (upd (upd uC.2.2.2.2.2.1 x1.toNatClampNeg x2) (x1 + (1 : Int32)).toNatClampNeg (((upd uC.2.2.2.2.2.1 x1.toNatClampNeg x2) (x1 + (1 : Int32)).toNatClampNeg) - x2)), uC.2.2.2.2.2.2.1, uC.2.2.2.2.2.2.2.1, uC.2.2.2.2.2.2.2.2.1, (upd uC.2.2.2.2.2.2.2.2.2.1 x1.toNatClampNeg (-1 : Int32)), uC.2.2.2.2.2.2.2.2.2.2.1, (upd (upd uC.2.2.2.2.2.2.2.2.2.2.2 x1.toNatClampNeg (0 : Int32)) (x1 + (1 : Int32)).toNatClampNeg (0 : Int32)))) H := hP
      have hD : va_D A (wC ty adC ((uC.1 + (1 : Int32)), uC.2.1, uC.2.2.1, uC.2.2.2.1, uC.2.2.2.2.1, (upd (upd uC.2.2.2.2.2.1 x1.toNatClampNeg x2) (x1 + (1 : Int32)).toNatClampNeg (((upd uC.2.2.2.2.2.1 x1.toNatClampNeg x2) (x1 + (1 : Int32)).toNatClampNeg) - x2)), uC.2.2.2.2.2.2.1, uC.2.2.2.2.2.2.2.1, uC.2.2.2.2.2.2.2.2.1, (upd uC.2.2.2.2.2.2.2.2.2.1 x1.toNatClampNeg (-1 : Int32)), uC.2.2.2.2.2.2.2.2.2.2.1, (upd (upd uC.2.2.2.2.2.2.2.2.2.2.2 x1.toNatClampNeg (0 : Int32)) (x1 + (1 : Int32)).toNatClampNeg (0 : Int32)))) := hD
      refine lv_aload_n hx hb dX0_split_118 rfl (lv_at hl 0 rfl) ?_
      refine va_get (D := D) (ci := 0) (v := .int (uC.1 + (1 : Int32))) (C := RX0) (T := TX0) (N := 12) hx hb hts hinX0 hown hK.1 hP 0 rfl rfl 0 (by decide) wf0 (fun _ h9 => h9) rfl dX0_split_119 ?_
      obtain rfl := Option.some.inj h
      subst hQ
      exact W.iret (v := (uC.1 + (1 : Int32))) hx hb hr (fun t ht hW => ⟨⟨(uC.1 + (1 : Int32)), (), rfl, rfl, kEnd ht hP⟩, hS.F ht⟩) hS.2.2 dX0_split_122
    · have h := kF h c49
      refine lv_aload_n hx hb dX0_split_52 rfl (lv_at hl 0 rfl) ?_
      refine lv_iload_n hx hb dX0_split_53 rfl (lv_at hl 3 rfl) ?_
      refine lv_iconst (v := 1) hx hb dX0_split_54 (by decide) ?_
      refine lv_isub hx hb dX0_split_55 ?_
      refine lv_iload_n hx hb dX0_split_56 rfl (lv_at hl 3 rfl) ?_
      obtain ⟨r57, e57, h⟩ := kBd h
      refine kCallVV (As := [.int (x3 - (1 : Int32)), .int x3]) (rest := []) (wc := wC ty adC uC) (w1 := wC ty adC r57) (wn := wC ty adC r57) ⟨hx, hb, hml, hown, hts⟩ (cX0_copyLayer_ok l D ty adC H.size uC (x3 - (1 : Int32)) x3  r57 e57) (cwV 2 hts gX0_split_X0_copyLayer rfl rfl rfl (by decide +kernel) ⟨Nat.le_of_ble_eq_true rfl, Nat.le_of_ble_eq_true rfl⟩) hP hK hD hS hA [0, 1, 2, 3, 4, 5, 6, 7] (by decide +kernel) rfl 0 0 rfl rfl rfl rfl hl.1 rfl (Nat.le_of_ble_eq_true rfl) dX0_split_57 ⟨Nat.le_of_ble_eq_true rfl, Nat.le_of_ble_eq_true rfl⟩ rfl rfl (fun H locs hP hD hS => ?_)
      refine lv_iinc (v := (x3 + (-1))) (lv' := [(3, .int (x3 + (-1))), (0, .ref (adC 0)), (1, .int x1), (2, .int x2)]) hx hb dX0_split_60 hl (k := 3) rfl rfl (by decide) rfl (fun ls hl => ?_)
      refine lv_goto (tgt := 47) hx hb dX0_split_63 (by decide) ?_
      exact hn47 r57 (x3 + (-1)) h H locs ls hP hD hS (lv_sub hl [1, 2, 3, 0] rfl)
  have L47 : ∀ (x1 : Int32) (x2 : Int32) (n : Nat) (uC : KC) (x3 : Int32), kLoopC n (fun q nx47 => fX0_split_c47 q.1 x1 x2 q.2 nx47) (uC, x3) = some res → ∀ (H : Heap) (locs : List Loc) (ls : Array Slot), va_P D vwCl (wC ty adC uC) H → va_D A (wC ty adC uC) → va_S A s.heap H locs → lv_has ls 4 [(0, .ref (adC 0)), (1, .int x1), (2, .int x2), (3, .int x3)] → W p l e (headSpec wsX0_split { frames := 1, cells := 0, slots := 0, locals := 22 }).room s m ([.ref (adC 0), .int p1, .int p2] : List Value).toArray below meth c H locs 0 0 Q (F0 m 47 ls []) := by
    intro x1 x2 n
    induction n with
    | zero => intro uC x3 h; exact absurd h (by simp [kLoopC])
    | succ n ih => intro uC x3 h; exact B47 x1 x2 (kLoopC n (fun q nx47 => fX0_split_c47 q.1 x1 x2 q.2 nx47)) ih uC x3 h
  have hl := lv_entry ([.ref (adC 0), .int p1, .int p2]) (n := 4) (Nat.le_of_ble_eq_true rfl)
  rw [lg_entry_eq]
  generalize (lg_sl ([.ref (adC 0), .int p1, .int p2]) ++ List.replicate (4 - (lg_sl ([.ref (adC 0), .int p1, .int p2])).length) Slot.unset).toArray = ls at hl ⊢
  have hl : lv_has ls 4 [(0, .ref (adC 0)), (1, .int p1), (2, .int p2)] := hl
  unfold fX0_split at h
  have E0 : ∀ (H : Heap) (locs : List Loc) (ls : Array Slot), va_P D vwCl (wC ty adC vC) H → va_D A (wC ty adC vC) → va_S A s.heap H locs → lv_has ls 4 [(0, .ref (adC 0)), (1, .int p1), (2, .int p2)] → W p l e (headSpec wsX0_split { frames := 1, cells := 0, slots := 0, locals := 22 }).room s m ([.ref (adC 0), .int p1, .int p2] : List Value).toArray below meth c H locs 0 0 Q (F0 m 0 ls []) := by
    intro H locs ls hP hD hS hl
    refine lv_aload_n hx hb dX0_split_0 rfl (lv_at hl 0 rfl) ?_
    refine lv_iload_n hx hb dX0_split_1 rfl (lv_at hl 1 rfl) ?_
    obtain ⟨r2, e2, h⟩ := kBd h
    refine kCallVI (As := [.int p1]) (rest := []) (wc := wC ty adC vC) (w1 := wC ty adC vC) (wn := wC ty adC vC) ⟨hx, hb, hml, hown, hts⟩ (cX0_has_ok l D ty adC H.size vC p1  r2 e2) (cwV 1 hts gX0_split_X0_has rfl rfl rfl (by decide +kernel) ⟨Nat.le_of_ble_eq_true rfl, Nat.le_of_ble_eq_true rfl⟩) hP hK hD hS hA [0, 1, 2, 3, 4, 5, 6, 7] (by decide +kernel) rfl 0 0 rfl rfl rfl rfl hl.1 rfl (Nat.le_of_ble_eq_true rfl) dX0_split_2 ⟨Nat.le_of_ble_eq_true rfl, Nat.le_of_ble_eq_true rfl⟩ rfl rfl (fun H locs hP hD hS => ?_)
    refine lv_if_ne (tgt := 11) hx hb dX0_split_5 (by decide) (fun c5 => ?_) (fun c5 => ?_)
    · have h := kT h c5
      refine lv_iload_n hx hb dX0_split_11 rfl (lv_at hl 2 rfl) ?_
      refine lv_iconst (v := 1) hx hb dX0_split_12 (by decide) ?_
      refine lv_aload_n hx hb dX0_split_13 rfl (lv_at hl 0 rfl) ?_
      refine va_get (D := D) (ci := 0) (v := .ref (adC 1)) (C := RX0) (T := TX0) (N := 12) hx hb hts hinX0 hown hK.1 hP 0 rfl rfl 5 (by decide) wf2 (fun _ h9 => h9) rfl dX0_split_14 ?_
      refine lv_iload_n hx hb dX0_split_17 rfl (lv_at hl 1 rfl) ?_
      obtain ⟨b18, h⟩ := kIf h
      refine va_iald (f := vC.2.2.2.2.2.1) (n := 16) hx hb hK.1 hP 1 0 rfl rfl (kIn_ok b18) dX0_split_18 ?_
      refine lv_iconst (v := 1) hx hb dX0_split_19 (by decide) ?_
      refine lv_isub hx hb dX0_split_20 ?_
      obtain ⟨r21, e21, h⟩ := kBd h
      refine kCallNI (As := [.int p2, .int (1 : Int32), .int ((vC.2.2.2.2.2.1 p1.toNatClampNeg) - (1 : Int32))]) (rest := []) ⟨hx, hb, hml, hown, hts⟩ (cX4_isBetween_ok l D ty  H.size p2 (1 : Int32) ((vC.2.2.2.2.2.1 p1.toNatClampNeg) - (1 : Int32))  r21 e21) ⟨va_cnB 3 hts gX0_split_X4_isBetween_n67 rfl rfl rfl hK.2.2.2.2.2.1 wf5 (by decide +kernel) ⟨Nat.le_of_ble_eq_true rfl, Nat.le_of_ble_eq_true rfl⟩, wf6, trivial⟩ hP hK hD hS hA rfl hl.1 rfl (Nat.le_of_ble_eq_true rfl) dX0_split_21 ⟨Nat.le_of_ble_eq_true rfl, Nat.le_of_ble_eq_true rfl⟩ (fun H locs hP hS => ?_)
      refine lv_if_ne (tgt := 30) hx hb dX0_split_24 (by decide) (fun c24 => ?_) (fun c24 => ?_)
      · have h := kT h c24
        refine lv_aload_n hx hb dX0_split_30 rfl (lv_at hl 0 rfl) ?_
        refine va_get (D := D) (ci := 0) (v := .int vC.1) (C := RX0) (T := TX0) (N := 12) hx hb hts hinX0 hown hK.1 hP 0 rfl rfl 0 (by decide) wf0 (fun _ h9 => h9) rfl dX0_split_31 ?_
        refine lv_bipush (v := 16) hx hb dX0_split_34 (by decide) ?_
        refine lv_icmp_lt (tgt := 42) hx hb dX0_split_36 (by decide) (fun c36 => ?_) (fun c36 => ?_)
        · have h := kT h c36
          refine lv_aload_n hx hb dX0_split_42 rfl (lv_at hl 0 rfl) ?_
          refine va_get (D := D) (ci := 0) (v := .int vC.1) (C := RX0) (T := TX0) (N := 12) hx hb hts hinX0 hown hK.1 hP 0 rfl rfl 0 (by decide) wf0 (fun _ h9 => h9) rfl dX0_split_43 ?_
          refine lv_istore_n (lv' := [(3, .int vC.1), (0, .ref (adC 0)), (1, .int p1), (2, .int p2)]) hx hb dX0_split_46 rfl hl (by decide) rfl (fun ls hl => ?_)
          exact L47 p1 p2  kFu vC vC.1 h H locs ls hP hD hS (lv_sub hl [1, 2, 3, 0] rfl)
        · have h := kF h c36
          refine lv_ldc hx hb hown wf7 dX0_split_39 ?_
          obtain rfl := Option.some.inj h
          subst hQ
          exact W.iret (v := (-1000000004 : Int32)) hx hb hr (fun t ht hW => ⟨⟨(-1000000004 : Int32), (), rfl, rfl, kEnd ht hP⟩, hS.F ht⟩) hS.2.2 dX0_split_41
      · have h := kF h (fun z => z c24)
        refine lv_ldc hx hb hown wf8 dX0_split_27 ?_
        obtain rfl := Option.some.inj h
        subst hQ
        exact W.iret (v := (-1000000002 : Int32)) hx hb hr (fun t ht hW => ⟨⟨(-1000000002 : Int32), (), rfl, rfl, kEnd ht hP⟩, hS.F ht⟩) hS.2.2 dX0_split_29
    · have h := kF h (fun z => z c5)
      refine lv_ldc hx hb hown wf9 dX0_split_8 ?_
      obtain rfl := Option.some.inj h
      subst hQ
      exact W.iret (v := (-1000000001 : Int32)) hx hb hr (fun t ht hW => ⟨⟨(-1000000001 : Int32), (), rfl, rfl, kEnd ht hP⟩, hS.F ht⟩) hS.2.2 dX0_split_10
  exact E0 s.heap [] ls hP hD hS hl
def fX0_putBed (vC : KC) (p1 : Int32) : Option (Int32 × KC) := (fX4_isBetween p1 (1000 : Int32) (200000 : Int32)).bind fun r6 => if ¬ r6 = (0 : Int32) then ((fX0_bottom vC).bind fun r16 => if r16 ≤ p1 then (some (vC.2.1, (vC.1, p1, vC.2.2))) else (some ((-1000000003 : Int32), vC))) else (some ((-1000000002 : Int32), vC))
set_option maxHeartbeats 4000000 in
set_option maxRecDepth 100000 in
theorem cX0_putBed_ok (l : Launch) (D : va_G) (ty : kTy) (adC : Nat → Nat) (sz : Nat) (vC : KC) (p1 : Int32)  (res : Int32 × KC) (h : fX0_putBed vC p1 = some res) : kMI l yX0_putBed wsX0_putBed { frames := 2, cells := 0, slots := 0, locals := 43 } [.ref (adC 0), .int p1] D ty (wC ty adC vC) sz res.1 (wC ty adC res.2) := by
  refine Met.ofW (cc := cX0_putBed) (maxL := 3) (ret := (some .int)) (by decide) rfl ?_
  intro p e s m args below meth c s₁ B hml hv
  obtain ⟨rfl, hsz, hP, hK, hD0⟩ := hv
  have hx := B.exec
  have hb := B.bytes
  have hr := B.returns
  have hts := atoms_spec (ws := wsX0_putBed) B.pre
  have hown : s.vm.findClass RX0 = some m.cls := findClass_of_methodNamed B.named
  have hlocks := B.notSynchronized
  subst hsz
  have hD := hD0.self (sz := s.heap.size)
  generalize hAe : va_A (wC ty adC vC) s.heap.size = A at hD ⊢
  have hA : ∀ q : Nat, s.heap.size ≤ q → A q := fun q h => by rw [← hAe]; exact Or.inr h
  have hS : va_S A s.heap s.heap [] := va_S.rf
  refine kGenW (fun Q hQ => ?_)
  have wf0 := hts (.constant RX0 83 (200000)) (by decide +kernel)
  have wf1 := hts (.initialized RX4) (by decide +kernel)
  have wf2 := hts (.static yX4_isBetween) (by decide +kernel)
  have wf3 := hts (.fieldLink RX0 16 "IceCoreDater$Core" "bed" "I") (by decide +kernel)
  have hinX0 : ∀ w ∈ wsX00, w ∈ wsX0_putBed := by decide +kernel
  have wf5 := hts (.constant RX0 76 (-1000000003)) (by decide +kernel)
  have wf6 := hts (.constant RX0 71 (-1000000002)) (by decide +kernel)
  have hl := lv_entry ([.ref (adC 0), .int p1]) (n := 3) (Nat.le_of_ble_eq_true rfl)
  rw [lg_entry_eq]
  generalize (lg_sl ([.ref (adC 0), .int p1]) ++ List.replicate (3 - (lg_sl ([.ref (adC 0), .int p1])).length) Slot.unset).toArray = ls at hl ⊢
  have hl : lv_has ls 3 [(0, .ref (adC 0)), (1, .int p1)] := hl
  unfold fX0_putBed at h
  have E0 : ∀ (H : Heap) (locs : List Loc) (ls : Array Slot), va_P D vwCl (wC ty adC vC) H → va_D A (wC ty adC vC) → va_S A s.heap H locs → lv_has ls 3 [(0, .ref (adC 0)), (1, .int p1)] → W p l e (headSpec wsX0_putBed { frames := 2, cells := 0, slots := 0, locals := 43 }).room s m ([.ref (adC 0), .int p1] : List Value).toArray below meth c H locs 0 0 Q (F0 m 0 ls []) := by
    intro H locs ls hP hD hS hl
    refine lv_iload_n hx hb dX0_putBed_0 rfl (lv_at hl 1 rfl) ?_
    refine lv_sipush (v := 1000) hx hb dX0_putBed_1 (by decide) ?_
    refine lv_ldc hx hb hown wf0 dX0_putBed_4 ?_
    obtain ⟨r6, e6, h⟩ := kBd h
    refine kCallNI (As := [.int p1, .int (1000 : Int32), .int (200000 : Int32)]) (rest := []) ⟨hx, hb, hml, hown, hts⟩ (cX4_isBetween_ok l D ty  H.size p1 (1000 : Int32) (200000 : Int32)  r6 e6) ⟨va_cnB 3 hts gX0_putBed_X4_isBetween_n67 rfl rfl rfl hK.2.2.2.2.2.1 wf1 (by decide +kernel) ⟨Nat.le_of_ble_eq_true rfl, Nat.le_of_ble_eq_true rfl⟩, wf2, trivial⟩ hP hK hD hS hA rfl hl.1 rfl (Nat.le_of_ble_eq_true rfl) dX0_putBed_6 ⟨Nat.le_of_ble_eq_true rfl, Nat.le_of_ble_eq_true rfl⟩ (fun H locs hP hS => ?_)
    refine lv_if_ne (tgt := 15) hx hb dX0_putBed_9 (by decide) (fun c9 => ?_) (fun c9 => ?_)
    · have h := kT h c9
      refine lv_aload_n hx hb dX0_putBed_15 rfl (lv_at hl 0 rfl) ?_
      obtain ⟨r16, e16, h⟩ := kBd h
      refine kCallVI (As := []) (rest := []) (wc := wC ty adC vC) (w1 := wC ty adC vC) (wn := wC ty adC vC) ⟨hx, hb, hml, hown, hts⟩ (cX0_bottom_ok l D ty adC H.size vC  r16 e16) (cwV 0 hts gX0_putBed_X0_bottom rfl rfl rfl (by decide +kernel) ⟨Nat.le_of_ble_eq_true rfl, Nat.le_of_ble_eq_true rfl⟩) hP hK hD hS hA [0, 1, 2, 3, 4, 5, 6, 7] (by decide +kernel) rfl 0 0 rfl rfl rfl rfl hl.1 rfl (Nat.le_of_ble_eq_true rfl) dX0_putBed_16 ⟨Nat.le_of_ble_eq_true rfl, Nat.le_of_ble_eq_true rfl⟩ rfl rfl (fun H locs hP hD hS => ?_)
      refine lv_iload_n hx hb dX0_putBed_19 rfl (lv_at hl 1 rfl) ?_
      refine lv_icmp_le (tgt := 26) hx hb dX0_putBed_20 (by decide) (fun c20 => ?_) (fun c20 => ?_)
      · have h := kT h c20
        refine lv_aload_n hx hb dX0_putBed_26 rfl (lv_at hl 0 rfl) ?_
        refine va_get (D := D) (ci := 0) (v := .int vC.2.1) (C := RX0) (T := TX0) (N := 12) hx hb hts hinX0 hown hK.1 hP 0 rfl rfl 1 (by decide) wf3 (fun _ h9 => h9) rfl dX0_putBed_27 ?_
        refine lv_istore_n (lv' := [(2, .int vC.2.1), (0, .ref (adC 0)), (1, .int p1)]) hx hb dX0_putBed_30 rfl hl (by decide) rfl (fun ls hl => ?_)
        refine lv_aload_n hx hb dX0_putBed_31 rfl (lv_at hl 1 rfl) ?_
        refine lv_iload_n hx hb dX0_putBed_32 rfl (lv_at hl 2 rfl) ?_
        refine va_put (D := D) (ci := 0) (v := .int p1) (ty := .int) (C := RX0) (T := TX0) (N := 12) hx hb hts hinX0 tyX0 tyX0_ok nmX0 hown hK.1 hP hD hS 0 rfl rfl 1 (by decide) wf3 (fun _ h9 => h9) rfl (by decide +kernel) rfl rfl (Nat.le_of_ble_eq_true rfl) dX0_putBed_33 (fun H locs hP hD hS => ?_)
        have hP : va_P D vwCl (wC ty adC (vC.1, p1, vC.2.2)) H := hP
        have hD : va_D A (wC ty adC (vC.1, p1, vC.2.2)) := hD
        refine lv_iload_n hx hb dX0_putBed_36 rfl (lv_at hl 0 rfl) ?_
        obtain rfl := Option.some.inj h
        subst hQ
        exact W.iret (v := vC.2.1) hx hb hr (fun t ht hW => ⟨⟨vC.2.1, (), rfl, rfl, kEnd ht hP⟩, hS.F ht⟩) hS.2.2 dX0_putBed_37
      · have h := kF h c20
        refine lv_ldc hx hb hown wf5 dX0_putBed_23 ?_
        obtain rfl := Option.some.inj h
        subst hQ
        exact W.iret (v := (-1000000003 : Int32)) hx hb hr (fun t ht hW => ⟨⟨(-1000000003 : Int32), (), rfl, rfl, kEnd ht hP⟩, hS.F ht⟩) hS.2.2 dX0_putBed_25
    · have h := kF h (fun z => z c9)
      refine lv_ldc hx hb hown wf6 dX0_putBed_12 ?_
      obtain rfl := Option.some.inj h
      subst hQ
      exact W.iret (v := (-1000000002 : Int32)) hx hb hr (fun t ht hW => ⟨⟨(-1000000002 : Int32), (), rfl, rfl, kEnd ht hP⟩, hS.F ht⟩) hS.2.2 dX0_putBed_14
  exact E0 s.heap [] ls hP hD hS hl
def fX0_putFunction (vC : KC) (p1 : Int32) : Option (Int32 × KC) := (fX4_isBetween p1 (0 : Int32) (2 : Int32)).bind fun r3 => if ¬ r3 = (0 : Int32) then (some (vC.2.2.1, (vC.1, vC.2.1, p1, vC.2.2.2))) else (some ((-1000000002 : Int32), vC))
set_option maxHeartbeats 4000000 in
set_option maxRecDepth 100000 in
theorem cX0_putFunction_ok (l : Launch) (D : va_G) (ty : kTy) (adC : Nat → Nat) (sz : Nat) (vC : KC) (p1 : Int32)  (res : Int32 × KC) (h : fX0_putFunction vC p1 = some res) : kMI l yX0_putFunction wsX0_putFunction { frames := 1, cells := 0, slots := 0, locals := 22 } [.ref (adC 0), .int p1] D ty (wC ty adC vC) sz res.1 (wC ty adC res.2) := by
  refine Met.ofW (cc := cX0_putFunction) (maxL := 3) (ret := (some .int)) (by decide) rfl ?_
  intro p e s m args below meth c s₁ B hml hv
  obtain ⟨rfl, hsz, hP, hK, hD0⟩ := hv
  have hx := B.exec
  have hb := B.bytes
  have hr := B.returns
  have hts := atoms_spec (ws := wsX0_putFunction) B.pre
  have hown : s.vm.findClass RX0 = some m.cls := findClass_of_methodNamed B.named
  have hlocks := B.notSynchronized
  subst hsz
  have hD := hD0.self (sz := s.heap.size)
  generalize hAe : va_A (wC ty adC vC) s.heap.size = A at hD ⊢
  have hA : ∀ q : Nat, s.heap.size ≤ q → A q := fun q h => by rw [← hAe]; exact Or.inr h
  have hS : va_S A s.heap s.heap [] := va_S.rf
  refine kGenW (fun Q hQ => ?_)
  have wf0 := hts (.initialized RX4) (by decide +kernel)
  have wf1 := hts (.static yX4_isBetween) (by decide +kernel)
  have wf2 := hts (.fieldLink RX0 19 "IceCoreDater$Core" "function" "I") (by decide +kernel)
  have hinX0 : ∀ w ∈ wsX00, w ∈ wsX0_putFunction := by decide +kernel
  have wf4 := hts (.constant RX0 71 (-1000000002)) (by decide +kernel)
  have hl := lv_entry ([.ref (adC 0), .int p1]) (n := 3) (Nat.le_of_ble_eq_true rfl)
  rw [lg_entry_eq]
  generalize (lg_sl ([.ref (adC 0), .int p1]) ++ List.replicate (3 - (lg_sl ([.ref (adC 0), .int p1])).length) Slot.unset).toArray = ls at hl ⊢
  have hl : lv_has ls 3 [(0, .ref (adC 0)), (1, .int p1)] := hl
  unfold fX0_putFunction at h
  have E0 : ∀ (H : Heap) (locs : List Loc) (ls : Array Slot), va_P D vwCl (wC ty adC vC) H → va_D A (wC ty adC vC) → va_S A s.heap H locs → lv_has ls 3 [(0, .ref (adC 0)), (1, .int p1)] → W p l e (headSpec wsX0_putFunction { frames := 1, cells := 0, slots := 0, locals := 22 }).room s m ([.ref (adC 0), .int p1] : List Value).toArray below meth c H locs 0 0 Q (F0 m 0 ls []) := by
    intro H locs ls hP hD hS hl
    refine lv_iload_n hx hb dX0_putFunction_0 rfl (lv_at hl 1 rfl) ?_
    refine lv_iconst (v := 0) hx hb dX0_putFunction_1 (by decide) ?_
    refine lv_iconst (v := 2) hx hb dX0_putFunction_2 (by decide) ?_
    obtain ⟨r3, e3, h⟩ := kBd h
    refine kCallNI (As := [.int p1, .int (0 : Int32), .int (2 : Int32)]) (rest := []) ⟨hx, hb, hml, hown, hts⟩ (cX4_isBetween_ok l D ty  H.size p1 (0 : Int32) (2 : Int32)  r3 e3) ⟨va_cnB 3 hts gX0_putFunction_X4_isBetween_n67 rfl rfl rfl hK.2.2.2.2.2.1 wf0 (by decide +kernel) ⟨Nat.le_of_ble_eq_true rfl, Nat.le_of_ble_eq_true rfl⟩, wf1, trivial⟩ hP hK hD hS hA rfl hl.1 rfl (Nat.le_of_ble_eq_true rfl) dX0_putFunction_3 ⟨Nat.le_of_ble_eq_true rfl, Nat.le_of_ble_eq_true rfl⟩ (fun H locs hP hS => ?_)
    refine lv_if_ne (tgt := 12) hx hb dX0_putFunction_6 (by decide) (fun c6 => ?_) (fun c6 => ?_)
    · have h := kT h c6
      refine lv_aload_n hx hb dX0_putFunction_12 rfl (lv_at hl 0 rfl) ?_
      refine va_get (D := D) (ci := 0) (v := .int vC.2.2.1) (C := RX0) (T := TX0) (N := 12) hx hb hts hinX0 hown hK.1 hP 0 rfl rfl 2 (by decide) wf2 (fun _ h9 => h9) rfl dX0_putFunction_13 ?_
      refine lv_istore_n (lv' := [(2, .int vC.2.2.1), (0, .ref (adC 0)), (1, .int p1)]) hx hb dX0_putFunction_16 rfl hl (by decide) rfl (fun ls hl => ?_)
      refine lv_aload_n hx hb dX0_putFunction_17 rfl (lv_at hl 1 rfl) ?_
      refine lv_iload_n hx hb dX0_putFunction_18 rfl (lv_at hl 2 rfl) ?_
      refine va_put (D := D) (ci := 0) (v := .int p1) (ty := .int) (C := RX0) (T := TX0) (N := 12) hx hb hts hinX0 tyX0 tyX0_ok nmX0 hown hK.1 hP hD hS 0 rfl rfl 2 (by decide) wf2 (fun _ h9 => h9) rfl (by decide +kernel) rfl rfl (Nat.le_of_ble_eq_true rfl) dX0_putFunction_19 (fun H locs hP hD hS => ?_)
      have hP : va_P D vwCl (wC ty adC (vC.1, vC.2.1, p1, vC.2.2.2)) H := hP
      have hD : va_D A (wC ty adC (vC.1, vC.2.1, p1, vC.2.2.2)) := hD
      refine lv_iload_n hx hb dX0_putFunction_22 rfl (lv_at hl 0 rfl) ?_
      obtain rfl := Option.some.inj h
      subst hQ
      exact W.iret (v := vC.2.2.1) hx hb hr (fun t ht hW => ⟨⟨vC.2.2.1, (), rfl, rfl, kEnd ht hP⟩, hS.F ht⟩) hS.2.2 dX0_putFunction_23
    · have h := kF h (fun z => z c6)
      refine lv_ldc hx hb hown wf4 dX0_putFunction_9 ?_
      obtain rfl := Option.some.inj h
      subst hQ
      exact W.iret (v := (-1000000002 : Int32)) hx hb hr (fun t ht hW => ⟨⟨(-1000000002 : Int32), (), rfl, rfl, kEnd ht hP⟩, hS.F ht⟩) hS.2.2 dX0_putFunction_11
  exact E0 s.heap [] ls hP hD hS hl
def fX0_putKink (vC : KC) (p1 : Int32) : Option (Int32 × KC) := (fX4_isBetween p1 (0 : Int32) (900 : Int32)).bind fun r5 => if ¬ r5 = (0 : Int32) then (some (vC.2.2.2.1, (vC.1, vC.2.1, vC.2.2.1, p1, vC.2.2.2.2))) else (some ((-1000000002 : Int32), vC))
set_option maxHeartbeats 4000000 in
set_option maxRecDepth 100000 in
theorem cX0_putKink_ok (l : Launch) (D : va_G) (ty : kTy) (adC : Nat → Nat) (sz : Nat) (vC : KC) (p1 : Int32)  (res : Int32 × KC) (h : fX0_putKink vC p1 = some res) : kMI l yX0_putKink wsX0_putKink { frames := 1, cells := 0, slots := 0, locals := 22 } [.ref (adC 0), .int p1] D ty (wC ty adC vC) sz res.1 (wC ty adC res.2) := by
  refine Met.ofW (cc := cX0_putKink) (maxL := 3) (ret := (some .int)) (by decide) rfl ?_
  intro p e s m args below meth c s₁ B hml hv
  obtain ⟨rfl, hsz, hP, hK, hD0⟩ := hv
  have hx := B.exec
  have hb := B.bytes
  have hr := B.returns
  have hts := atoms_spec (ws := wsX0_putKink) B.pre
  have hown : s.vm.findClass RX0 = some m.cls := findClass_of_methodNamed B.named
  have hlocks := B.notSynchronized
  subst hsz
  have hD := hD0.self (sz := s.heap.size)
  generalize hAe : va_A (wC ty adC vC) s.heap.size = A at hD ⊢
  have hA : ∀ q : Nat, s.heap.size ≤ q → A q := fun q h => by rw [← hAe]; exact Or.inr h
  have hS : va_S A s.heap s.heap [] := va_S.rf
  refine kGenW (fun Q hQ => ?_)
  have wf0 := hts (.initialized RX4) (by decide +kernel)
  have wf1 := hts (.static yX4_isBetween) (by decide +kernel)
  have wf2 := hts (.fieldLink RX0 22 "IceCoreDater$Core" "kink" "I") (by decide +kernel)
  have hinX0 : ∀ w ∈ wsX00, w ∈ wsX0_putKink := by decide +kernel
  have wf4 := hts (.constant RX0 71 (-1000000002)) (by decide +kernel)
  have hl := lv_entry ([.ref (adC 0), .int p1]) (n := 3) (Nat.le_of_ble_eq_true rfl)
  rw [lg_entry_eq]
  generalize (lg_sl ([.ref (adC 0), .int p1]) ++ List.replicate (3 - (lg_sl ([.ref (adC 0), .int p1])).length) Slot.unset).toArray = ls at hl ⊢
  have hl : lv_has ls 3 [(0, .ref (adC 0)), (1, .int p1)] := hl
  unfold fX0_putKink at h
  have E0 : ∀ (H : Heap) (locs : List Loc) (ls : Array Slot), va_P D vwCl (wC ty adC vC) H → va_D A (wC ty adC vC) → va_S A s.heap H locs → lv_has ls 3 [(0, .ref (adC 0)), (1, .int p1)] → W p l e (headSpec wsX0_putKink { frames := 1, cells := 0, slots := 0, locals := 22 }).room s m ([.ref (adC 0), .int p1] : List Value).toArray below meth c H locs 0 0 Q (F0 m 0 ls []) := by
    intro H locs ls hP hD hS hl
    refine lv_iload_n hx hb dX0_putKink_0 rfl (lv_at hl 1 rfl) ?_
    refine lv_iconst (v := 0) hx hb dX0_putKink_1 (by decide) ?_
    refine lv_sipush (v := 900) hx hb dX0_putKink_2 (by decide) ?_
    obtain ⟨r5, e5, h⟩ := kBd h
    refine kCallNI (As := [.int p1, .int (0 : Int32), .int (900 : Int32)]) (rest := []) ⟨hx, hb, hml, hown, hts⟩ (cX4_isBetween_ok l D ty  H.size p1 (0 : Int32) (900 : Int32)  r5 e5) ⟨va_cnB 3 hts gX0_putKink_X4_isBetween_n67 rfl rfl rfl hK.2.2.2.2.2.1 wf0 (by decide +kernel) ⟨Nat.le_of_ble_eq_true rfl, Nat.le_of_ble_eq_true rfl⟩, wf1, trivial⟩ hP hK hD hS hA rfl hl.1 rfl (Nat.le_of_ble_eq_true rfl) dX0_putKink_5 ⟨Nat.le_of_ble_eq_true rfl, Nat.le_of_ble_eq_true rfl⟩ (fun H locs hP hS => ?_)
    refine lv_if_ne (tgt := 14) hx hb dX0_putKink_8 (by decide) (fun c8 => ?_) (fun c8 => ?_)
    · have h := kT h c8
      refine lv_aload_n hx hb dX0_putKink_14 rfl (lv_at hl 0 rfl) ?_
      refine va_get (D := D) (ci := 0) (v := .int vC.2.2.2.1) (C := RX0) (T := TX0) (N := 12) hx hb hts hinX0 hown hK.1 hP 0 rfl rfl 3 (by decide) wf2 (fun _ h9 => h9) rfl dX0_putKink_15 ?_
      refine lv_istore_n (lv' := [(2, .int vC.2.2.2.1), (0, .ref (adC 0)), (1, .int p1)]) hx hb dX0_putKink_18 rfl hl (by decide) rfl (fun ls hl => ?_)
      refine lv_aload_n hx hb dX0_putKink_19 rfl (lv_at hl 1 rfl) ?_
      refine lv_iload_n hx hb dX0_putKink_20 rfl (lv_at hl 2 rfl) ?_
      refine va_put (D := D) (ci := 0) (v := .int p1) (ty := .int) (C := RX0) (T := TX0) (N := 12) hx hb hts hinX0 tyX0 tyX0_ok nmX0 hown hK.1 hP hD hS 0 rfl rfl 3 (by decide) wf2 (fun _ h9 => h9) rfl (by decide +kernel) rfl rfl (Nat.le_of_ble_eq_true rfl) dX0_putKink_21 (fun H locs hP hD hS => ?_)
      have hP : va_P D vwCl (wC ty adC (vC.1, vC.2.1, vC.2.2.1, p1, vC.2.2.2.2)) H := hP
      have hD : va_D A (wC ty adC (vC.1, vC.2.1, vC.2.2.1, p1, vC.2.2.2.2)) := hD
      refine lv_iload_n hx hb dX0_putKink_24 rfl (lv_at hl 0 rfl) ?_
      obtain rfl := Option.some.inj h
      subst hQ
      exact W.iret (v := vC.2.2.2.1) hx hb hr (fun t ht hW => ⟨⟨vC.2.2.2.1, (), rfl, rfl, kEnd ht hP⟩, hS.F ht⟩) hS.2.2 dX0_putKink_25
    · have h := kF h (fun z => z c8)
      refine lv_ldc hx hb hown wf4 dX0_putKink_11 ?_
      obtain rfl := Option.some.inj h
      subst hQ
      exact W.iret (v := (-1000000002 : Int32)) hx hb hr (fun t ht hW => ⟨⟨(-1000000002 : Int32), (), rfl, rfl, kEnd ht hP⟩, hS.F ht⟩) hS.2.2 dX0_putKink_13
  exact E0 s.heap [] ls hP hD hS hl
def fX0_putTold (vC : KC) (p1 : Int32) (p2 : Int32) : Option (Int32 × KC) := (fX0_has vC p1).bind fun r2 => if ¬ r2 = (0 : Int32) then ((fX4_isBetween p2 (10 : Int32) (1000 : Int32)).bind fun r17 => if ¬ r17 = (0 : Int32) then (if kIn p1 16 = true then (if kIn p1 16 = true then (some ((vC.2.2.2.2.2.2.2.2.1 p1.toNatClampNeg), (vC.1, vC.2.1, vC.2.2.1, vC.2.2.2.1, vC.2.2.2.2.1, vC.2.2.2.2.2.1, vC.2.2.2.2.2.2.1, vC.2.2.2.2.2.2.2.1, (upd vC.2.2.2.2.2.2.2.2.1 p1.toNatClampNeg p2), vC.2.2.2.2.2.2.2.2.2))) else none) else none) else (some ((-1000000002 : Int32), vC))) else (some ((-1000000001 : Int32), vC))
set_option maxHeartbeats 4000000 in
set_option maxRecDepth 100000 in
theorem cX0_putTold_ok (l : Launch) (D : va_G) (ty : kTy) (adC : Nat → Nat) (sz : Nat) (vC : KC) (p1 : Int32) (p2 : Int32)  (res : Int32 × KC) (h : fX0_putTold vC p1 p2 = some res) : kMI l yX0_putTold wsX0_putTold { frames := 1, cells := 0, slots := 0, locals := 22 } [.ref (adC 0), .int p1, .int p2] D ty (wC ty adC vC) sz res.1 (wC ty adC res.2) := by
  refine Met.ofW (cc := cX0_putTold) (maxL := 4) (ret := (some .int)) (by decide) rfl ?_
  intro p e s m args below meth c s₁ B hml hv
  obtain ⟨rfl, hsz, hP, hK, hD0⟩ := hv
  have hx := B.exec
  have hb := B.bytes
  have hr := B.returns
  have hts := atoms_spec (ws := wsX0_putTold) B.pre
  have hown : s.vm.findClass RX0 = some m.cls := findClass_of_methodNamed B.named
  have hlocks := B.notSynchronized
  subst hsz
  have hD := hD0.self (sz := s.heap.size)
  generalize hAe : va_A (wC ty adC vC) s.heap.size = A at hD ⊢
  have hA : ∀ q : Nat, s.heap.size ≤ q → A q := fun q h => by rw [← hAe]; exact Or.inr h
  have hS : va_S A s.heap s.heap [] := va_S.rf
  refine kGenW (fun Q hQ => ?_)
  have wf0 := hts (.initialized RX4) (by decide +kernel)
  have wf1 := hts (.static yX4_isBetween) (by decide +kernel)
  have wf2 := hts (.fieldLink RX0 38 "IceCoreDater$Core" "told" "[I") (by decide +kernel)
  have hinX0 : ∀ w ∈ wsX00, w ∈ wsX0_putTold := by decide +kernel
  have wf4 := hts (.constant RX0 71 (-1000000002)) (by decide +kernel)
  have wf5 := hts (.constant RX0 78 (-1000000001)) (by decide +kernel)
  have hl := lv_entry ([.ref (adC 0), .int p1, .int p2]) (n := 4) (Nat.le_of_ble_eq_true rfl)
  rw [lg_entry_eq]
  generalize (lg_sl ([.ref (adC 0), .int p1, .int p2]) ++ List.replicate (4 - (lg_sl ([.ref (adC 0), .int p1, .int p2])).length) Slot.unset).toArray = ls at hl ⊢
  have hl : lv_has ls 4 [(0, .ref (adC 0)), (1, .int p1), (2, .int p2)] := hl
  unfold fX0_putTold at h
  have E0 : ∀ (H : Heap) (locs : List Loc) (ls : Array Slot), va_P D vwCl (wC ty adC vC) H → va_D A (wC ty adC vC) → va_S A s.heap H locs → lv_has ls 4 [(0, .ref (adC 0)), (1, .int p1), (2, .int p2)] → W p l e (headSpec wsX0_putTold { frames := 1, cells := 0, slots := 0, locals := 22 }).room s m ([.ref (adC 0), .int p1, .int p2] : List Value).toArray below meth c H locs 0 0 Q (F0 m 0 ls []) := by
    intro H locs ls hP hD hS hl
    refine lv_aload_n hx hb dX0_putTold_0 rfl (lv_at hl 0 rfl) ?_
    refine lv_iload_n hx hb dX0_putTold_1 rfl (lv_at hl 1 rfl) ?_
    obtain ⟨r2, e2, h⟩ := kBd h
    refine kCallVI (As := [.int p1]) (rest := []) (wc := wC ty adC vC) (w1 := wC ty adC vC) (wn := wC ty adC vC) ⟨hx, hb, hml, hown, hts⟩ (cX0_has_ok l D ty adC H.size vC p1  r2 e2) (cwV 1 hts gX0_putTold_X0_has rfl rfl rfl (by decide +kernel) ⟨Nat.le_of_ble_eq_true rfl, Nat.le_of_ble_eq_true rfl⟩) hP hK hD hS hA [0, 1, 2, 3, 4, 5, 6, 7] (by decide +kernel) rfl 0 0 rfl rfl rfl rfl hl.1 rfl (Nat.le_of_ble_eq_true rfl) dX0_putTold_2 ⟨Nat.le_of_ble_eq_true rfl, Nat.le_of_ble_eq_true rfl⟩ rfl rfl (fun H locs hP hD hS => ?_)
    refine lv_if_ne (tgt := 11) hx hb dX0_putTold_5 (by decide) (fun c5 => ?_) (fun c5 => ?_)
    · have h := kT h c5
      refine lv_iload_n hx hb dX0_putTold_11 rfl (lv_at hl 2 rfl) ?_
      refine lv_bipush (v := 10) hx hb dX0_putTold_12 (by decide) ?_
      refine lv_sipush (v := 1000) hx hb dX0_putTold_14 (by decide) ?_
      obtain ⟨r17, e17, h⟩ := kBd h
      refine kCallNI (As := [.int p2, .int (10 : Int32), .int (1000 : Int32)]) (rest := []) ⟨hx, hb, hml, hown, hts⟩ (cX4_isBetween_ok l D ty  H.size p2 (10 : Int32) (1000 : Int32)  r17 e17) ⟨va_cnB 3 hts gX0_putTold_X4_isBetween_n67 rfl rfl rfl hK.2.2.2.2.2.1 wf0 (by decide +kernel) ⟨Nat.le_of_ble_eq_true rfl, Nat.le_of_ble_eq_true rfl⟩, wf1, trivial⟩ hP hK hD hS hA rfl hl.1 rfl (Nat.le_of_ble_eq_true rfl) dX0_putTold_17 ⟨Nat.le_of_ble_eq_true rfl, Nat.le_of_ble_eq_true rfl⟩ (fun H locs hP hS => ?_)
      refine lv_if_ne (tgt := 26) hx hb dX0_putTold_20 (by decide) (fun c20 => ?_) (fun c20 => ?_)
      · have h := kT h c20
        refine lv_aload_n hx hb dX0_putTold_26 rfl (lv_at hl 0 rfl) ?_
        refine va_get (D := D) (ci := 0) (v := .ref (adC 4)) (C := RX0) (T := TX0) (N := 12) hx hb hts hinX0 hown hK.1 hP 0 rfl rfl 8 (by decide) wf2 (fun _ h9 => h9) rfl dX0_putTold_27 ?_
        refine lv_iload_n hx hb dX0_putTold_30 rfl (lv_at hl 1 rfl) ?_
        obtain ⟨b31, h⟩ := kIf h
        refine va_iald (f := vC.2.2.2.2.2.2.2.2.1) (n := 16) hx hb hK.1 hP 4 0 rfl rfl (kIn_ok b31) dX0_putTold_31 ?_
        refine lv_istore_n (lv' := [(3, .int (vC.2.2.2.2.2.2.2.2.1 p1.toNatClampNeg)), (0, .ref (adC 0)), (1, .int p1), (2, .int p2)]) hx hb dX0_putTold_32 rfl hl (by decide) rfl (fun ls hl => ?_)
        refine lv_aload_n hx hb dX0_putTold_33 rfl (lv_at hl 1 rfl) ?_
        refine va_get (D := D) (ci := 0) (v := .ref (adC 4)) (C := RX0) (T := TX0) (N := 12) hx hb hts hinX0 hown hK.1 hP 0 rfl rfl 8 (by decide) wf2 (fun _ h9 => h9) rfl dX0_putTold_34 ?_
        refine lv_iload_n hx hb dX0_putTold_37 rfl (lv_at hl 2 rfl) ?_
        refine lv_iload_n hx hb dX0_putTold_38 rfl (lv_at hl 3 rfl) ?_
        obtain ⟨b39, h⟩ := kIf h
        refine va_iast (f := vC.2.2.2.2.2.2.2.2.1) (n := 16) hx hb hK.1 hP hD hS 4 0 rfl rfl (kIn_ok b39) dX0_putTold_39 (fun H locs hP hD hS => ?_)
        have hP : va_P D vwCl (wC ty adC (vC.1, vC.2.1, vC.2.2.1, vC.2.2.2.1, vC.2.2.2.2.1, vC.2.2.2.2.2.1, vC.2.2.2.2.2.2.1, vC.2.2.2.2.2.2.2.1, (upd vC.2.2.2.2.2.2.2.2.1 p1.toNatClampNeg p2), vC.2.2.2.2.2.2.2.2.2)) H := hP
        have hD : va_D A (wC ty adC (vC.1, vC.2.1, vC.2.2.1, vC.2.2.2.1, vC.2.2.2.2.1, vC.2.2.2.2.2.1, vC.2.2.2.2.2.2.1, vC.2.2.2.2.2.2.2.1, (upd vC.2.2.2.2.2.2.2.2.1 p1.toNatClampNeg p2), vC.2.2.2.2.2.2.2.2.2)) := hD
        refine lv_iload_n hx hb dX0_putTold_40 rfl (lv_at hl 0 rfl) ?_
        obtain rfl := Option.some.inj h
        subst hQ
        exact W.iret (v := (vC.2.2.2.2.2.2.2.2.1 p1.toNatClampNeg)) hx hb hr (fun t ht hW => ⟨⟨(vC.2.2.2.2.2.2.2.2.1 p1.toNatClampNeg), (), rfl, rfl, kEnd ht hP⟩, hS.F ht⟩) hS.2.2 dX0_putTold_41
      · have h := kF h (fun z => z c20)
        refine lv_ldc hx hb hown wf4 dX0_putTold_23 ?_
        obtain rfl := Option.some.inj h
        subst hQ
        exact W.iret (v := (-1000000002 : Int32)) hx hb hr (fun t ht hW => ⟨⟨(-1000000002 : Int32), (), rfl, rfl, kEnd ht hP⟩, hS.F ht⟩) hS.2.2 dX0_putTold_25
    · have h := kF h (fun z => z c5)
      refine lv_ldc hx hb hown wf5 dX0_putTold_8 ?_
      obtain rfl := Option.some.inj h
      subst hQ
      exact W.iret (v := (-1000000001 : Int32)) hx hb hr (fun t ht hW => ⟨⟨(-1000000001 : Int32), (), rfl, rfl, kEnd ht hP⟩, hS.F ht⟩) hS.2.2 dX0_putTold_10
  exact E0 s.heap [] ls hP hD hS hl
def fX0_putCorrection (vC : KC) (p1 : Int32) (p2 : Int32) : Option (Int32 × KC) := (fX0_has vC p1).bind fun r2 => if ¬ r2 = (0 : Int32) then ((fX4_isBetween p2 (200 : Int32) (5000 : Int32)).bind fun r18 => if ¬ r18 = (0 : Int32) then (if kIn p1 16 = true then (if kIn p1 16 = true then (some ((vC.2.2.2.2.2.2.2.1 p1.toNatClampNeg), (vC.1, vC.2.1, vC.2.2.1, vC.2.2.2.1, vC.2.2.2.2.1, vC.2.2.2.2.2.1, vC.2.2.2.2.2.2.1, (upd vC.2.2.2.2.2.2.2.1 p1.toNatClampNeg p2), vC.2.2.2.2.2.2.2.2))) else none) else none) else (some ((-1000000002 : Int32), vC))) else (some ((-1000000001 : Int32), vC))
set_option maxHeartbeats 4000000 in
set_option maxRecDepth 100000 in
theorem cX0_putCorrection_ok (l : Launch) (D : va_G) (ty : kTy) (adC : Nat → Nat) (sz : Nat) (vC : KC) (p1 : Int32) (p2 : Int32)  (res : Int32 × KC) (h : fX0_putCorrection vC p1 p2 = some res) : kMI l yX0_putCorrection wsX0_putCorrection { frames := 1, cells := 0, slots := 0, locals := 22 } [.ref (adC 0), .int p1, .int p2] D ty (wC ty adC vC) sz res.1 (wC ty adC res.2) := by
  refine Met.ofW (cc := cX0_putCorrection) (maxL := 4) (ret := (some .int)) (by decide) rfl ?_
  intro p e s m args below meth c s₁ B hml hv
  obtain ⟨rfl, hsz, hP, hK, hD0⟩ := hv
  have hx := B.exec
  have hb := B.bytes
  have hr := B.returns
  have hts := atoms_spec (ws := wsX0_putCorrection) B.pre
  have hown : s.vm.findClass RX0 = some m.cls := findClass_of_methodNamed B.named
  have hlocks := B.notSynchronized
  subst hsz
  have hD := hD0.self (sz := s.heap.size)
  generalize hAe : va_A (wC ty adC vC) s.heap.size = A at hD ⊢
  have hA : ∀ q : Nat, s.heap.size ≤ q → A q := fun q h => by rw [← hAe]; exact Or.inr h
  have hS : va_S A s.heap s.heap [] := va_S.rf
  refine kGenW (fun Q hQ => ?_)
  have wf0 := hts (.initialized RX4) (by decide +kernel)
  have wf1 := hts (.static yX4_isBetween) (by decide +kernel)
  have wf2 := hts (.fieldLink RX0 35 "IceCoreDater$Core" "correction" "[I") (by decide +kernel)
  have hinX0 : ∀ w ∈ wsX00, w ∈ wsX0_putCorrection := by decide +kernel
  have wf4 := hts (.constant RX0 71 (-1000000002)) (by decide +kernel)
  have wf5 := hts (.constant RX0 78 (-1000000001)) (by decide +kernel)
  have hl := lv_entry ([.ref (adC 0), .int p1, .int p2]) (n := 4) (Nat.le_of_ble_eq_true rfl)
  rw [lg_entry_eq]
  generalize (lg_sl ([.ref (adC 0), .int p1, .int p2]) ++ List.replicate (4 - (lg_sl ([.ref (adC 0), .int p1, .int p2])).length) Slot.unset).toArray = ls at hl ⊢
  have hl : lv_has ls 4 [(0, .ref (adC 0)), (1, .int p1), (2, .int p2)] := hl
  unfold fX0_putCorrection at h
  have E0 : ∀ (H : Heap) (locs : List Loc) (ls : Array Slot), va_P D vwCl (wC ty adC vC) H → va_D A (wC ty adC vC) → va_S A s.heap H locs → lv_has ls 4 [(0, .ref (adC 0)), (1, .int p1), (2, .int p2)] → W p l e (headSpec wsX0_putCorrection { frames := 1, cells := 0, slots := 0, locals := 22 }).room s m ([.ref (adC 0), .int p1, .int p2] : List Value).toArray below meth c H locs 0 0 Q (F0 m 0 ls []) := by
    intro H locs ls hP hD hS hl
    refine lv_aload_n hx hb dX0_putCorrection_0 rfl (lv_at hl 0 rfl) ?_
    refine lv_iload_n hx hb dX0_putCorrection_1 rfl (lv_at hl 1 rfl) ?_
    obtain ⟨r2, e2, h⟩ := kBd h
    refine kCallVI (As := [.int p1]) (rest := []) (wc := wC ty adC vC) (w1 := wC ty adC vC) (wn := wC ty adC vC) ⟨hx, hb, hml, hown, hts⟩ (cX0_has_ok l D ty adC H.size vC p1  r2 e2) (cwV 1 hts gX0_putCorrection_X0_has rfl rfl rfl (by decide +kernel) ⟨Nat.le_of_ble_eq_true rfl, Nat.le_of_ble_eq_true rfl⟩) hP hK hD hS hA [0, 1, 2, 3, 4, 5, 6, 7] (by decide +kernel) rfl 0 0 rfl rfl rfl rfl hl.1 rfl (Nat.le_of_ble_eq_true rfl) dX0_putCorrection_2 ⟨Nat.le_of_ble_eq_true rfl, Nat.le_of_ble_eq_true rfl⟩ rfl rfl (fun H locs hP hD hS => ?_)
    refine lv_if_ne (tgt := 11) hx hb dX0_putCorrection_5 (by decide) (fun c5 => ?_) (fun c5 => ?_)
    · have h := kT h c5
      refine lv_iload_n hx hb dX0_putCorrection_11 rfl (lv_at hl 2 rfl) ?_
      refine lv_sipush (v := 200) hx hb dX0_putCorrection_12 (by decide) ?_
      refine lv_sipush (v := 5000) hx hb dX0_putCorrection_15 (by decide) ?_
      obtain ⟨r18, e18, h⟩ := kBd h
      refine kCallNI (As := [.int p2, .int (200 : Int32), .int (5000 : Int32)]) (rest := []) ⟨hx, hb, hml, hown, hts⟩ (cX4_isBetween_ok l D ty  H.size p2 (200 : Int32) (5000 : Int32)  r18 e18) ⟨va_cnB 3 hts gX0_putCorrection_X4_isBetween_n67 rfl rfl rfl hK.2.2.2.2.2.1 wf0 (by decide +kernel) ⟨Nat.le_of_ble_eq_true rfl, Nat.le_of_ble_eq_true rfl⟩, wf1, trivial⟩ hP hK hD hS hA rfl hl.1 rfl (Nat.le_of_ble_eq_true rfl) dX0_putCorrection_18 ⟨Nat.le_of_ble_eq_true rfl, Nat.le_of_ble_eq_true rfl⟩ (fun H locs hP hS => ?_)
      refine lv_if_ne (tgt := 27) hx hb dX0_putCorrection_21 (by decide) (fun c21 => ?_) (fun c21 => ?_)
      · have h := kT h c21
        refine lv_aload_n hx hb dX0_putCorrection_27 rfl (lv_at hl 0 rfl) ?_
        refine va_get (D := D) (ci := 0) (v := .ref (adC 3)) (C := RX0) (T := TX0) (N := 12) hx hb hts hinX0 hown hK.1 hP 0 rfl rfl 7 (by decide) wf2 (fun _ h9 => h9) rfl dX0_putCorrection_28 ?_
        refine lv_iload_n hx hb dX0_putCorrection_31 rfl (lv_at hl 1 rfl) ?_
        obtain ⟨b32, h⟩ := kIf h
        refine va_iald (f := vC.2.2.2.2.2.2.2.1) (n := 16) hx hb hK.1 hP 3 0 rfl rfl (kIn_ok b32) dX0_putCorrection_32 ?_
        refine lv_istore_n (lv' := [(3, .int (vC.2.2.2.2.2.2.2.1 p1.toNatClampNeg)), (0, .ref (adC 0)), (1, .int p1), (2, .int p2)]) hx hb dX0_putCorrection_33 rfl hl (by decide) rfl (fun ls hl => ?_)
        refine lv_aload_n hx hb dX0_putCorrection_34 rfl (lv_at hl 1 rfl) ?_
        refine va_get (D := D) (ci := 0) (v := .ref (adC 3)) (C := RX0) (T := TX0) (N := 12) hx hb hts hinX0 hown hK.1 hP 0 rfl rfl 7 (by decide) wf2 (fun _ h9 => h9) rfl dX0_putCorrection_35 ?_
        refine lv_iload_n hx hb dX0_putCorrection_38 rfl (lv_at hl 2 rfl) ?_
        refine lv_iload_n hx hb dX0_putCorrection_39 rfl (lv_at hl 3 rfl) ?_
        obtain ⟨b40, h⟩ := kIf h
        refine va_iast (f := vC.2.2.2.2.2.2.2.1) (n := 16) hx hb hK.1 hP hD hS 3 0 rfl rfl (kIn_ok b40) dX0_putCorrection_40 (fun H locs hP hD hS => ?_)
        have hP : va_P D vwCl (wC ty adC (vC.1, vC.2.1, vC.2.2.1, vC.2.2.2.1, vC.2.2.2.2.1, vC.2.2.2.2.2.1, vC.2.2.2.2.2.2.1, (upd vC.2.2.2.2.2.2.2.1 p1.toNatClampNeg p2), vC.2.2.2.2.2.2.2.2)) H := hP
        have hD : va_D A (wC ty adC (vC.1, vC.2.1, vC.2.2.1, vC.2.2.2.1, vC.2.2.2.2.1, vC.2.2.2.2.2.1, vC.2.2.2.2.2.2.1, (upd vC.2.2.2.2.2.2.2.1 p1.toNatClampNeg p2), vC.2.2.2.2.2.2.2.2)) := hD
        refine lv_iload_n hx hb dX0_putCorrection_41 rfl (lv_at hl 0 rfl) ?_
        obtain rfl := Option.some.inj h
        subst hQ
        exact W.iret (v := (vC.2.2.2.2.2.2.2.1 p1.toNatClampNeg)) hx hb hr (fun t ht hW => ⟨⟨(vC.2.2.2.2.2.2.2.1 p1.toNatClampNeg), (), rfl, rfl, kEnd ht hP⟩, hS.F ht⟩) hS.2.2 dX0_putCorrection_42
      · have h := kF h (fun z => z c21)
        refine lv_ldc hx hb hown wf4 dX0_putCorrection_24 ?_
        obtain rfl := Option.some.inj h
        subst hQ
        exact W.iret (v := (-1000000002 : Int32)) hx hb hr (fun t ht hW => ⟨⟨(-1000000002 : Int32), (), rfl, rfl, kEnd ht hP⟩, hS.F ht⟩) hS.2.2 dX0_putCorrection_26
    · have h := kF h (fun z => z c5)
      refine lv_ldc hx hb hown wf5 dX0_putCorrection_8 ?_
      obtain rfl := Option.some.inj h
      subst hQ
      exact W.iret (v := (-1000000001 : Int32)) hx hb hr (fun t ht hW => ⟨⟨(-1000000001 : Int32), (), rfl, rfl, kEnd ht hP⟩, hS.F ht⟩) hS.2.2 dX0_putCorrection_10
  exact E0 s.heap [] ls hP hD hS hl
def fX0_putCloseOff (vC : KC) (p1 : Int32) : Option (Int32 × KC) := (fX4_isBetween p1 (0 : Int32) (15000 : Int32)).bind fun r5 => if ¬ r5 = (0 : Int32) then (some (vC.2.2.2.2.1, (vC.1, vC.2.1, vC.2.2.1, vC.2.2.2.1, p1, vC.2.2.2.2.2))) else (some ((-1000000002 : Int32), vC))
set_option maxHeartbeats 4000000 in
set_option maxRecDepth 100000 in
theorem cX0_putCloseOff_ok (l : Launch) (D : va_G) (ty : kTy) (adC : Nat → Nat) (sz : Nat) (vC : KC) (p1 : Int32)  (res : Int32 × KC) (h : fX0_putCloseOff vC p1 = some res) : kMI l yX0_putCloseOff wsX0_putCloseOff { frames := 1, cells := 0, slots := 0, locals := 22 } [.ref (adC 0), .int p1] D ty (wC ty adC vC) sz res.1 (wC ty adC res.2) := by
  refine Met.ofW (cc := cX0_putCloseOff) (maxL := 3) (ret := (some .int)) (by decide) rfl ?_
  intro p e s m args below meth c s₁ B hml hv
  obtain ⟨rfl, hsz, hP, hK, hD0⟩ := hv
  have hx := B.exec
  have hb := B.bytes
  have hr := B.returns
  have hts := atoms_spec (ws := wsX0_putCloseOff) B.pre
  have hown : s.vm.findClass RX0 = some m.cls := findClass_of_methodNamed B.named
  have hlocks := B.notSynchronized
  subst hsz
  have hD := hD0.self (sz := s.heap.size)
  generalize hAe : va_A (wC ty adC vC) s.heap.size = A at hD ⊢
  have hA : ∀ q : Nat, s.heap.size ≤ q → A q := fun q h => by rw [← hAe]; exact Or.inr h
  have hS : va_S A s.heap s.heap [] := va_S.rf
  refine kGenW (fun Q hQ => ?_)
  have wf0 := hts (.initialized RX4) (by decide +kernel)
  have wf1 := hts (.static yX4_isBetween) (by decide +kernel)
  have wf2 := hts (.fieldLink RX0 25 "IceCoreDater$Core" "closeOff" "I") (by decide +kernel)
  have hinX0 : ∀ w ∈ wsX00, w ∈ wsX0_putCloseOff := by decide +kernel
  have wf4 := hts (.constant RX0 71 (-1000000002)) (by decide +kernel)
  have hl := lv_entry ([.ref (adC 0), .int p1]) (n := 3) (Nat.le_of_ble_eq_true rfl)
  rw [lg_entry_eq]
  generalize (lg_sl ([.ref (adC 0), .int p1]) ++ List.replicate (3 - (lg_sl ([.ref (adC 0), .int p1])).length) Slot.unset).toArray = ls at hl ⊢
  have hl : lv_has ls 3 [(0, .ref (adC 0)), (1, .int p1)] := hl
  unfold fX0_putCloseOff at h
  have E0 : ∀ (H : Heap) (locs : List Loc) (ls : Array Slot), va_P D vwCl (wC ty adC vC) H → va_D A (wC ty adC vC) → va_S A s.heap H locs → lv_has ls 3 [(0, .ref (adC 0)), (1, .int p1)] → W p l e (headSpec wsX0_putCloseOff { frames := 1, cells := 0, slots := 0, locals := 22 }).room s m ([.ref (adC 0), .int p1] : List Value).toArray below meth c H locs 0 0 Q (F0 m 0 ls []) := by
    intro H locs ls hP hD hS hl
    refine lv_iload_n hx hb dX0_putCloseOff_0 rfl (lv_at hl 1 rfl) ?_
    refine lv_iconst (v := 0) hx hb dX0_putCloseOff_1 (by decide) ?_
    refine lv_sipush (v := 15000) hx hb dX0_putCloseOff_2 (by decide) ?_
    obtain ⟨r5, e5, h⟩ := kBd h
    refine kCallNI (As := [.int p1, .int (0 : Int32), .int (15000 : Int32)]) (rest := []) ⟨hx, hb, hml, hown, hts⟩ (cX4_isBetween_ok l D ty  H.size p1 (0 : Int32) (15000 : Int32)  r5 e5) ⟨va_cnB 3 hts gX0_putCloseOff_X4_isBetween_n67 rfl rfl rfl hK.2.2.2.2.2.1 wf0 (by decide +kernel) ⟨Nat.le_of_ble_eq_true rfl, Nat.le_of_ble_eq_true rfl⟩, wf1, trivial⟩ hP hK hD hS hA rfl hl.1 rfl (Nat.le_of_ble_eq_true rfl) dX0_putCloseOff_5 ⟨Nat.le_of_ble_eq_true rfl, Nat.le_of_ble_eq_true rfl⟩ (fun H locs hP hS => ?_)
    refine lv_if_ne (tgt := 14) hx hb dX0_putCloseOff_8 (by decide) (fun c8 => ?_) (fun c8 => ?_)
    · have h := kT h c8
      refine lv_aload_n hx hb dX0_putCloseOff_14 rfl (lv_at hl 0 rfl) ?_
      refine va_get (D := D) (ci := 0) (v := .int vC.2.2.2.2.1) (C := RX0) (T := TX0) (N := 12) hx hb hts hinX0 hown hK.1 hP 0 rfl rfl 4 (by decide) wf2 (fun _ h9 => h9) rfl dX0_putCloseOff_15 ?_
      refine lv_istore_n (lv' := [(2, .int vC.2.2.2.2.1), (0, .ref (adC 0)), (1, .int p1)]) hx hb dX0_putCloseOff_18 rfl hl (by decide) rfl (fun ls hl => ?_)
      refine lv_aload_n hx hb dX0_putCloseOff_19 rfl (lv_at hl 1 rfl) ?_
      refine lv_iload_n hx hb dX0_putCloseOff_20 rfl (lv_at hl 2 rfl) ?_
      refine va_put (D := D) (ci := 0) (v := .int p1) (ty := .int) (C := RX0) (T := TX0) (N := 12) hx hb hts hinX0 tyX0 tyX0_ok nmX0 hown hK.1 hP hD hS 0 rfl rfl 4 (by decide) wf2 (fun _ h9 => h9) rfl (by decide +kernel) rfl rfl (Nat.le_of_ble_eq_true rfl) dX0_putCloseOff_21 (fun H locs hP hD hS => ?_)
      have hP : va_P D vwCl (wC ty adC (vC.1, vC.2.1, vC.2.2.1, vC.2.2.2.1, p1, vC.2.2.2.2.2)) H := hP
      have hD : va_D A (wC ty adC (vC.1, vC.2.1, vC.2.2.1, vC.2.2.2.1, p1, vC.2.2.2.2.2)) := hD
      refine lv_iload_n hx hb dX0_putCloseOff_24 rfl (lv_at hl 0 rfl) ?_
      obtain rfl := Option.some.inj h
      subst hQ
      exact W.iret (v := vC.2.2.2.2.1) hx hb hr (fun t ht hW => ⟨⟨vC.2.2.2.2.1, (), rfl, rfl, kEnd ht hP⟩, hS.F ht⟩) hS.2.2 dX0_putCloseOff_25
    · have h := kF h (fun z => z c8)
      refine lv_ldc hx hb hown wf4 dX0_putCloseOff_11 ?_
      obtain rfl := Option.some.inj h
      subst hQ
      exact W.iret (v := (-1000000002 : Int32)) hx hb hr (fun t ht hW => ⟨⟨(-1000000002 : Int32), (), rfl, rfl, kEnd ht hP⟩, hS.F ht⟩) hS.2.2 dX0_putCloseOff_13
  exact E0 s.heap [] ls hP hD hS hl
def fX0_putAsh (vC : KC) (p1 : Int32) (p2 : Int32) (p3 : Int32) : Option (Int32 × KC) := (fX0_has vC p1).bind fun r2 => if ¬ r2 = (0 : Int32) then ((fX4_isBetween p2 (0 : Int32) (100000000 : Int32)).bind fun r15 => if r15 = (0 : Int32) then (some ((-1000000002 : Int32), vC)) else ((fX4_isBetween p3 (0 : Int32) (10000 : Int32)).bind fun r26 => if ¬ r26 = (0 : Int32) then (if kIn p1 16 = true then (if kIn p1 16 = true then ((fX0_ashBeds (vC.1, vC.2.1, vC.2.2.1, vC.2.2.2.1, vC.2.2.2.2.1, vC.2.2.2.2.2.1, vC.2.2.2.2.2.2.1, vC.2.2.2.2.2.2.2.1, vC.2.2.2.2.2.2.2.2.1, (upd vC.2.2.2.2.2.2.2.2.2.1 p1.toNatClampNeg p2), (upd vC.2.2.2.2.2.2.2.2.2.2.1 p1.toNatClampNeg p3), vC.2.2.2.2.2.2.2.2.2.2.2)).bind fun r50 => some (r50, (vC.1, vC.2.1, vC.2.2.1, vC.2.2.2.1, vC.2.2.2.2.1, vC.2.2.2.2.2.1, vC.2.2.2.2.2.2.1, vC.2.2.2.2.2.2.2.1, vC.2.2.2.2.2.2.2.2.1, (upd vC.2.2.2.2.2.2.2.2.2.1 p1.toNatClampNeg p2), (upd vC.2.2.2.2.2.2.2.2.2.2.1 p1.toNatClampNeg p3), vC.2.2.2.2.2.2.2.2.2.2.2))) else none) else none) else (some ((-1000000002 : Int32), vC)))) else (some ((-1000000001 : Int32), vC))
set_option maxHeartbeats 4000000 in
set_option maxRecDepth 100000 in
theorem cX0_putAsh_ok (l : Launch) (D : va_G) (ty : kTy) (adC : Nat → Nat) (sz : Nat) (vC : KC) (p1 : Int32) (p2 : Int32) (p3 : Int32)  (res : Int32 × KC) (h : fX0_putAsh vC p1 p2 p3 = some res) : kMI l yX0_putAsh wsX0_putAsh { frames := 3, cells := 0, slots := 0, locals := 64 } [.ref (adC 0), .int p1, .int p2, .int p3] D ty (wC ty adC vC) sz res.1 (wC ty adC res.2) := by
  refine Met.ofW (cc := cX0_putAsh) (maxL := 4) (ret := (some .int)) (by decide) rfl ?_
  intro p e s m args below meth c s₁ B hml hv
  obtain ⟨rfl, hsz, hP, hK, hD0⟩ := hv
  have hx := B.exec
  have hb := B.bytes
  have hr := B.returns
  have hts := atoms_spec (ws := wsX0_putAsh) B.pre
  have hown : s.vm.findClass RX0 = some m.cls := findClass_of_methodNamed B.named
  have hlocks := B.notSynchronized
  subst hsz
  have hD := hD0.self (sz := s.heap.size)
  generalize hAe : va_A (wC ty adC vC) s.heap.size = A at hD ⊢
  have hA : ∀ q : Nat, s.heap.size ≤ q → A q := fun q h => by rw [← hAe]; exact Or.inr h
  have hS : va_S A s.heap s.heap [] := va_S.rf
  refine kGenW (fun Q hQ => ?_)
  have wf0 := hts (.constant RX0 84 (100000000)) (by decide +kernel)
  have wf1 := hts (.initialized RX4) (by decide +kernel)
  have wf2 := hts (.static yX4_isBetween) (by decide +kernel)
  have wf3 := hts (.constant RX0 71 (-1000000002)) (by decide +kernel)
  have wf4 := hts (.fieldLink RX0 41 "IceCoreDater$Core" "ashAge" "[I") (by decide +kernel)
  have hinX0 : ∀ w ∈ wsX00, w ∈ wsX0_putAsh := by decide +kernel
  have wf6 := hts (.fieldLink RX0 44 "IceCoreDater$Core" "ashTolerance" "[I") (by decide +kernel)
  have wf7 := hts (.constant RX0 78 (-1000000001)) (by decide +kernel)
  have hl := lv_entry ([.ref (adC 0), .int p1, .int p2, .int p3]) (n := 4) (Nat.le_of_ble_eq_true rfl)
  rw [lg_entry_eq]
  generalize (lg_sl ([.ref (adC 0), .int p1, .int p2, .int p3]) ++ List.replicate (4 - (lg_sl ([.ref (adC 0), .int p1, .int p2, .int p3])).length) Slot.unset).toArray = ls at hl ⊢
  have hl : lv_has ls 4 [(0, .ref (adC 0)), (1, .int p1), (2, .int p2), (3, .int p3)] := hl
  unfold fX0_putAsh at h
  have E0 : ∀ (H : Heap) (locs : List Loc) (ls : Array Slot), va_P D vwCl (wC ty adC vC) H → va_D A (wC ty adC vC) → va_S A s.heap H locs → lv_has ls 4 [(0, .ref (adC 0)), (1, .int p1), (2, .int p2), (3, .int p3)] → W p l e (headSpec wsX0_putAsh { frames := 3, cells := 0, slots := 0, locals := 64 }).room s m ([.ref (adC 0), .int p1, .int p2, .int p3] : List Value).toArray below meth c H locs 0 0 Q (F0 m 0 ls []) := by
    intro H locs ls hP hD hS hl
    refine lv_aload_n hx hb dX0_putAsh_0 rfl (lv_at hl 0 rfl) ?_
    refine lv_iload_n hx hb dX0_putAsh_1 rfl (lv_at hl 1 rfl) ?_
    obtain ⟨r2, e2, h⟩ := kBd h
    refine kCallVI (As := [.int p1]) (rest := []) (wc := wC ty adC vC) (w1 := wC ty adC vC) (wn := wC ty adC vC) ⟨hx, hb, hml, hown, hts⟩ (cX0_has_ok l D ty adC H.size vC p1  r2 e2) (cwV 1 hts gX0_putAsh_X0_has rfl rfl rfl (by decide +kernel) ⟨Nat.le_of_ble_eq_true rfl, Nat.le_of_ble_eq_true rfl⟩) hP hK hD hS hA [0, 1, 2, 3, 4, 5, 6, 7] (by decide +kernel) rfl 0 0 rfl rfl rfl rfl hl.1 rfl (Nat.le_of_ble_eq_true rfl) dX0_putAsh_2 ⟨Nat.le_of_ble_eq_true rfl, Nat.le_of_ble_eq_true rfl⟩ rfl rfl (fun H locs hP hD hS => ?_)
    refine lv_if_ne (tgt := 11) hx hb dX0_putAsh_5 (by decide) (fun c5 => ?_) (fun c5 => ?_)
    · have h := kT h c5
      refine lv_iload_n hx hb dX0_putAsh_11 rfl (lv_at hl 2 rfl) ?_
      refine lv_iconst (v := 0) hx hb dX0_putAsh_12 (by decide) ?_
      refine lv_ldc hx hb hown wf0 dX0_putAsh_13 ?_
      obtain ⟨r15, e15, h⟩ := kBd h
      refine kCallNI (As := [.int p2, .int (0 : Int32), .int (100000000 : Int32)]) (rest := []) ⟨hx, hb, hml, hown, hts⟩ (cX4_isBetween_ok l D ty  H.size p2 (0 : Int32) (100000000 : Int32)  r15 e15) ⟨va_cnB 3 hts gX0_putAsh_X4_isBetween_n67 rfl rfl rfl hK.2.2.2.2.2.1 wf1 (by decide +kernel) ⟨Nat.le_of_ble_eq_true rfl, Nat.le_of_ble_eq_true rfl⟩, wf2, trivial⟩ hP hK hD hS hA rfl hl.1 rfl (Nat.le_of_ble_eq_true rfl) dX0_putAsh_15 ⟨Nat.le_of_ble_eq_true rfl, Nat.le_of_ble_eq_true rfl⟩ (fun H locs hP hS => ?_)
      refine lv_if_eq (tgt := 32) hx hb dX0_putAsh_18 (by decide) (fun c18 => ?_) (fun c18 => ?_)
      · have h := kT h c18
        refine lv_ldc hx hb hown wf3 dX0_putAsh_32 ?_
        obtain rfl := Option.some.inj h
        subst hQ
        exact W.iret (v := (-1000000002 : Int32)) hx hb hr (fun t ht hW => ⟨⟨(-1000000002 : Int32), (), rfl, rfl, kEnd ht hP⟩, hS.F ht⟩) hS.2.2 dX0_putAsh_34
      · have h := kF h c18
        refine lv_iload_n hx hb dX0_putAsh_21 rfl (lv_at hl 3 rfl) ?_
        refine lv_iconst (v := 0) hx hb dX0_putAsh_22 (by decide) ?_
        refine lv_sipush (v := 10000) hx hb dX0_putAsh_23 (by decide) ?_
        obtain ⟨r26, e26, h⟩ := kBd h
        refine kCallNI (As := [.int p3, .int (0 : Int32), .int (10000 : Int32)]) (rest := []) ⟨hx, hb, hml, hown, hts⟩ (cX4_isBetween_ok l D ty  H.size p3 (0 : Int32) (10000 : Int32)  r26 e26) ⟨va_cnB 3 hts gX0_putAsh_X4_isBetween_n67 rfl rfl rfl hK.2.2.2.2.2.1 wf1 (by decide +kernel) ⟨Nat.le_of_ble_eq_true rfl, Nat.le_of_ble_eq_true rfl⟩, wf2, trivial⟩ hP hK hD hS hA rfl hl.1 rfl (Nat.le_of_ble_eq_true rfl) dX0_putAsh_26 ⟨Nat.le_of_ble_eq_true rfl, Nat.le_of_ble_eq_true rfl⟩ (fun H locs hP hS => ?_)
        refine lv_if_ne (tgt := 35) hx hb dX0_putAsh_29 (by decide) (fun c29 => ?_) (fun c29 => ?_)
        · have h := kT h c29
          refine lv_aload_n hx hb dX0_putAsh_35 rfl (lv_at hl 0 rfl) ?_
          refine va_get (D := D) (ci := 0) (v := .ref (adC 5)) (C := RX0) (T := TX0) (N := 12) hx hb hts hinX0 hown hK.1 hP 0 rfl rfl 9 (by decide) wf4 (fun _ h9 => h9) rfl dX0_putAsh_36 ?_
          refine lv_iload_n hx hb dX0_putAsh_39 rfl (lv_at hl 1 rfl) ?_
          refine lv_iload_n hx hb dX0_putAsh_40 rfl (lv_at hl 2 rfl) ?_
          obtain ⟨b41, h⟩ := kIf h
          refine va_iast (f := vC.2.2.2.2.2.2.2.2.2.1) (n := 16) hx hb hK.1 hP hD hS 5 0 rfl rfl (kIn_ok b41) dX0_putAsh_41 (fun H locs hP hD hS => ?_)
          have hP : va_P D vwCl (wC ty adC (vC.1, vC.2.1, vC.2.2.1, vC.2.2.2.1, vC.2.2.2.2.1, vC.2.2.2.2.2.1, vC.2.2.2.2.2.2.1, vC.2.2.2.2.2.2.2.1, vC.2.2.2.2.2.2.2.2.1, (upd vC.2.2.2.2.2.2.2.2.2.1 p1.toNatClampNeg p2), vC.2.2.2.2.2.2.2.2.2.2)) H := hP
          have hD : va_D A (wC ty adC (vC.1, vC.2.1, vC.2.2.1, vC.2.2.2.1, vC.2.2.2.2.1, vC.2.2.2.2.2.1, vC.2.2.2.2.2.2.1, vC.2.2.2.2.2.2.2.1, vC.2.2.2.2.2.2.2.2.1, (upd vC.2.2.2.2.2.2.2.2.2.1 p1.toNatClampNeg p2), vC.2.2.2.2.2.2.2.2.2.2)) := hD
          refine lv_aload_n hx hb dX0_putAsh_42 rfl (lv_at hl 0 rfl) ?_
          refine va_get (D := D) (ci := 0) (v := .ref (adC 6)) (C := RX0) (T := TX0) (N := 12) hx hb hts hinX0 hown hK.1 hP 0 rfl rfl 10 (by decide) wf6 (fun _ h9 => h9) rfl dX0_putAsh_43 ?_
          refine lv_iload_n hx hb dX0_putAsh_46 rfl (lv_at hl 1 rfl) ?_
          refine lv_iload_n hx hb dX0_putAsh_47 rfl (lv_at hl 3 rfl) ?_
          obtain ⟨b48, h⟩ := kIf h
          refine va_iast (f := vC.2.2.2.2.2.2.2.2.2.2.1) (n := 16) hx hb hK.1 hP hD hS 6 0 rfl rfl (kIn_ok b48) dX0_putAsh_48 (fun H locs hP hD hS => ?_)
          have hP : va_P D vwCl (wC ty adC (vC.1, vC.2.1, vC.2.2.1, vC.2.2.2.1, vC.2.2.2.2.1, vC.2.2.2.2.2.1, vC.2.2.2.2.2.2.1, vC.2.2.2.2.2.2.2.1, vC.2.2.2.2.2.2.2.2.1, (upd vC.2.2.2.2.2.2.2.2.2.1 p1.toNatClampNeg p2), (upd vC.2.2.2.2.2.2.2.2.2.2.1 p1.toNatClampNeg p3), vC.2.2.2.2.2.2.2.2.2.2.2)) H := hP
          have hD : va_D A (wC ty adC (vC.1, vC.2.1, vC.2.2.1, vC.2.2.2.1, vC.2.2.2.2.1, vC.2.2.2.2.2.1, vC.2.2.2.2.2.2.1, vC.2.2.2.2.2.2.2.1, vC.2.2.2.2.2.2.2.2.1, (upd vC.2.2.2.2.2.2.2.2.2.1 p1.toNatClampNeg p2), (upd vC.2.2.2.2.2.2.2.2.2.2.1 p1.toNatClampNeg p3), vC.2.2.2.2.2.2.2.2.2.2.2)) := hD
          refine lv_aload_n hx hb dX0_putAsh_49 rfl (lv_at hl 0 rfl) ?_
          obtain ⟨r50, e50, h⟩ := kBd h
          refine kCallVI (As := []) (rest := []) (wc := wC ty adC (vC.1, vC.2.1, vC.2.2.1, vC.2.2.2.1, vC.2.2.2.2.1, vC.2.2.2.2.2.1, vC.2.2.2.2.2.2.1, vC.2.2.2.2.2.2.2.1, vC.2.2.2.2.2.2.2.2.1, (upd vC.2.2.2.2.2.2.2.2.2.1 p1.toNatClampNeg p2), (upd vC.2.2.2.2.2.2.2.2.2.2.1 p1.toNatClampNeg p3), vC.2.2.2.2.2.2.2.2.2.2.2)) (w1 := wC ty adC (vC.1, vC.2.1, vC.2.2.1, vC.2.2.2.1, vC.2.2.2.2.1, vC.2.2.2.2.2.1, vC.2.2.2.2.2.2.1, vC.2.2.2.2.2.2.2.1, vC.2.2.2.2.2.2.2.2.1, (upd vC.2.2.2.2.2.2.2.2.2.1 p1.toNatClampNeg p2), (upd vC.2.2.2.2.2.2.2.2.2.2.1 p1.toNatClampNeg p3), vC.2.2.2.2.2.2.2.2.2.2.2)) (wn := wC ty adC (vC.1, vC.2.1, vC.2.2.1, vC.2.2.2.1, vC.2.2.2.2.1, vC.2.2.2.2.2.1, vC.2.2.2.2.2.2.1, vC.2.2.2.2.2.2.2.1, vC.2.2.2.2.2.2.2.2.1, (upd vC.2.2.2.2.2.2.2.2.2.1 p1.toNatClampNeg p2), (upd vC.2.2.2.2.2.2.2.2.2.2.1 p1.toNatClampNeg p3), vC.2.2.2.2.2.2.2.2.2.2.2)) ⟨hx, hb, hml, hown, hts⟩ (cX0_ashBeds_ok l D ty adC H.size (vC.1, vC.2.1, vC.2.2.1, vC.2.2.2.1, vC.2.2.2.2.1, vC.2.2.2.2.2.1, vC.2.2.2.2.2.2.1, vC.2.2.2.2.2.2.2.1, vC.2.2.2.2.2.2.2.2.1, (upd vC.2.2.2.2.2.2.2.2.2.1 p1.toNatClampNeg p2), (upd vC.2.2.2.2.2.2.2.2.2.2.1 p1.toNatClampNeg p3), vC.2.2.2.2.2.2.2.2.2.2.2)  r50 e50) (cwV 0 hts gX0_putAsh_X0_ashBeds rfl rfl rfl (by decide +kernel) ⟨Nat.le_of_ble_eq_true rfl, Nat.le_of_ble_eq_true rfl⟩) hP hK hD hS hA [0, 1, 2, 3, 4, 5, 6, 7] (by decide +kernel) rfl 0 0 rfl rfl rfl rfl hl.1 rfl (Nat.le_of_ble_eq_true rfl) dX0_putAsh_50 ⟨Nat.le_of_ble_eq_true rfl, Nat.le_of_ble_eq_true rfl⟩ rfl rfl (fun H locs hP hD hS => ?_)
          obtain rfl := Option.some.inj h
          subst hQ
          exact W.iret (v := r50) hx hb hr (fun t ht hW => ⟨⟨r50, (), rfl, rfl, kEnd ht hP⟩, hS.F ht⟩) hS.2.2 dX0_putAsh_53
        · have h := kF h (fun z => z c29)
          refine lv_ldc hx hb hown wf3 dX0_putAsh_32 ?_
          obtain rfl := Option.some.inj h
          subst hQ
          exact W.iret (v := (-1000000002 : Int32)) hx hb hr (fun t ht hW => ⟨⟨(-1000000002 : Int32), (), rfl, rfl, kEnd ht hP⟩, hS.F ht⟩) hS.2.2 dX0_putAsh_34
    · have h := kF h (fun z => z c5)
      refine lv_ldc hx hb hown wf7 dX0_putAsh_8 ?_
      obtain rfl := Option.some.inj h
      subst hQ
      exact W.iret (v := (-1000000001 : Int32)) hx hb hr (fun t ht hW => ⟨⟨(-1000000001 : Int32), (), rfl, rfl, kEnd ht hP⟩, hS.F ht⟩) hS.2.2 dX0_putAsh_10
  exact E0 s.heap [] ls hP hD hS hl
def fX0_dropAsh (vC : KC) (p1 : Int32) : Option (Int32 × KC) := (fX0_has vC p1).bind fun r2 => if ¬ r2 = (0 : Int32) then ((fX0_hasAsh vC p1).bind fun r13 => if ¬ r13 = (0 : Int32) then (if kIn p1 16 = true then ((fX0_ashBeds (vC.1, vC.2.1, vC.2.2.1, vC.2.2.2.1, vC.2.2.2.2.1, vC.2.2.2.2.2.1, vC.2.2.2.2.2.2.1, vC.2.2.2.2.2.2.2.1, vC.2.2.2.2.2.2.2.2.1, (upd vC.2.2.2.2.2.2.2.2.2.1 p1.toNatClampNeg (-1 : Int32)), vC.2.2.2.2.2.2.2.2.2.2)).bind fun r30 => some (r30, (vC.1, vC.2.1, vC.2.2.1, vC.2.2.2.1, vC.2.2.2.2.1, vC.2.2.2.2.2.1, vC.2.2.2.2.2.2.1, vC.2.2.2.2.2.2.2.1, vC.2.2.2.2.2.2.2.2.1, (upd vC.2.2.2.2.2.2.2.2.2.1 p1.toNatClampNeg (-1 : Int32)), vC.2.2.2.2.2.2.2.2.2.2))) else none) else (some ((-1000000003 : Int32), vC))) else (some ((-1000000001 : Int32), vC))
set_option maxHeartbeats 4000000 in
set_option maxRecDepth 100000 in
theorem cX0_dropAsh_ok (l : Launch) (D : va_G) (ty : kTy) (adC : Nat → Nat) (sz : Nat) (vC : KC) (p1 : Int32)  (res : Int32 × KC) (h : fX0_dropAsh vC p1 = some res) : kMI l yX0_dropAsh wsX0_dropAsh { frames := 3, cells := 0, slots := 0, locals := 64 } [.ref (adC 0), .int p1] D ty (wC ty adC vC) sz res.1 (wC ty adC res.2) := by
  refine Met.ofW (cc := cX0_dropAsh) (maxL := 2) (ret := (some .int)) (by decide) rfl ?_
  intro p e s m args below meth c s₁ B hml hv
  obtain ⟨rfl, hsz, hP, hK, hD0⟩ := hv
  have hx := B.exec
  have hb := B.bytes
  have hr := B.returns
  have hts := atoms_spec (ws := wsX0_dropAsh) B.pre
  have hown : s.vm.findClass RX0 = some m.cls := findClass_of_methodNamed B.named
  have hlocks := B.notSynchronized
  subst hsz
  have hD := hD0.self (sz := s.heap.size)
  generalize hAe : va_A (wC ty adC vC) s.heap.size = A at hD ⊢
  have hA : ∀ q : Nat, s.heap.size ≤ q → A q := fun q h => by rw [← hAe]; exact Or.inr h
  have hS : va_S A s.heap s.heap [] := va_S.rf
  refine kGenW (fun Q hQ => ?_)
  have wf0 := hts (.fieldLink RX0 41 "IceCoreDater$Core" "ashAge" "[I") (by decide +kernel)
  have hinX0 : ∀ w ∈ wsX00, w ∈ wsX0_dropAsh := by decide +kernel
  have wf2 := hts (.constant RX0 76 (-1000000003)) (by decide +kernel)
  have wf3 := hts (.constant RX0 78 (-1000000001)) (by decide +kernel)
  have hl := lv_entry ([.ref (adC 0), .int p1]) (n := 2) (Nat.le_of_ble_eq_true rfl)
  rw [lg_entry_eq]
  generalize (lg_sl ([.ref (adC 0), .int p1]) ++ List.replicate (2 - (lg_sl ([.ref (adC 0), .int p1])).length) Slot.unset).toArray = ls at hl ⊢
  have hl : lv_has ls 2 [(0, .ref (adC 0)), (1, .int p1)] := hl
  unfold fX0_dropAsh at h
  have E0 : ∀ (H : Heap) (locs : List Loc) (ls : Array Slot), va_P D vwCl (wC ty adC vC) H → va_D A (wC ty adC vC) → va_S A s.heap H locs → lv_has ls 2 [(0, .ref (adC 0)), (1, .int p1)] → W p l e (headSpec wsX0_dropAsh { frames := 3, cells := 0, slots := 0, locals := 64 }).room s m ([.ref (adC 0), .int p1] : List Value).toArray below meth c H locs 0 0 Q (F0 m 0 ls []) := by
    intro H locs ls hP hD hS hl
    refine lv_aload_n hx hb dX0_dropAsh_0 rfl (lv_at hl 0 rfl) ?_
    refine lv_iload_n hx hb dX0_dropAsh_1 rfl (lv_at hl 1 rfl) ?_
    obtain ⟨r2, e2, h⟩ := kBd h
    refine kCallVI (As := [.int p1]) (rest := []) (wc := wC ty adC vC) (w1 := wC ty adC vC) (wn := wC ty adC vC) ⟨hx, hb, hml, hown, hts⟩ (cX0_has_ok l D ty adC H.size vC p1  r2 e2) (cwV 1 hts gX0_dropAsh_X0_has rfl rfl rfl (by decide +kernel) ⟨Nat.le_of_ble_eq_true rfl, Nat.le_of_ble_eq_true rfl⟩) hP hK hD hS hA [0, 1, 2, 3, 4, 5, 6, 7] (by decide +kernel) rfl 0 0 rfl rfl rfl rfl hl.1 rfl (Nat.le_of_ble_eq_true rfl) dX0_dropAsh_2 ⟨Nat.le_of_ble_eq_true rfl, Nat.le_of_ble_eq_true rfl⟩ rfl rfl (fun H locs hP hD hS => ?_)
    refine lv_if_ne (tgt := 11) hx hb dX0_dropAsh_5 (by decide) (fun c5 => ?_) (fun c5 => ?_)
    · have h := kT h c5
      refine lv_aload_n hx hb dX0_dropAsh_11 rfl (lv_at hl 0 rfl) ?_
      refine lv_iload_n hx hb dX0_dropAsh_12 rfl (lv_at hl 1 rfl) ?_
      obtain ⟨r13, e13, h⟩ := kBd h
      refine kCallVI (As := [.int p1]) (rest := []) (wc := wC ty adC vC) (w1 := wC ty adC vC) (wn := wC ty adC vC) ⟨hx, hb, hml, hown, hts⟩ (cX0_hasAsh_ok l D ty adC H.size vC p1  r13 e13) (cwV 1 hts gX0_dropAsh_X0_hasAsh rfl rfl rfl (by decide +kernel) ⟨Nat.le_of_ble_eq_true rfl, Nat.le_of_ble_eq_true rfl⟩) hP hK hD hS hA [0, 1, 2, 3, 4, 5, 6, 7] (by decide +kernel) rfl 0 0 rfl rfl rfl rfl hl.1 rfl (Nat.le_of_ble_eq_true rfl) dX0_dropAsh_13 ⟨Nat.le_of_ble_eq_true rfl, Nat.le_of_ble_eq_true rfl⟩ rfl rfl (fun H locs hP hD hS => ?_)
      refine lv_if_ne (tgt := 22) hx hb dX0_dropAsh_16 (by decide) (fun c16 => ?_) (fun c16 => ?_)
      · have h := kT h c16
        refine lv_aload_n hx hb dX0_dropAsh_22 rfl (lv_at hl 0 rfl) ?_
        refine va_get (D := D) (ci := 0) (v := .ref (adC 5)) (C := RX0) (T := TX0) (N := 12) hx hb hts hinX0 hown hK.1 hP 0 rfl rfl 9 (by decide) wf0 (fun _ h9 => h9) rfl dX0_dropAsh_23 ?_
        refine lv_iload_n hx hb dX0_dropAsh_26 rfl (lv_at hl 1 rfl) ?_
        refine lv_iconst (v := (-1)) hx hb dX0_dropAsh_27 (by decide) ?_
        obtain ⟨b28, h⟩ := kIf h
        refine va_iast (f := vC.2.2.2.2.2.2.2.2.2.1) (n := 16) hx hb hK.1 hP hD hS 5 0 rfl rfl (kIn_ok b28) dX0_dropAsh_28 (fun H locs hP hD hS => ?_)
        have hP : va_P D vwCl (wC ty adC (vC.1, vC.2.1, vC.2.2.1, vC.2.2.2.1, vC.2.2.2.2.1, vC.2.2.2.2.2.1, vC.2.2.2.2.2.2.1, vC.2.2.2.2.2.2.2.1, vC.2.2.2.2.2.2.2.2.1, (upd vC.2.2.2.2.2.2.2.2.2.1 p1.toNatClampNeg (-1 : Int32)), vC.2.2.2.2.2.2.2.2.2.2)) H := hP
        have hD : va_D A (wC ty adC (vC.1, vC.2.1, vC.2.2.1, vC.2.2.2.1, vC.2.2.2.2.1, vC.2.2.2.2.2.1, vC.2.2.2.2.2.2.1, vC.2.2.2.2.2.2.2.1, vC.2.2.2.2.2.2.2.2.1, (upd vC.2.2.2.2.2.2.2.2.2.1 p1.toNatClampNeg (-1 : Int32)), vC.2.2.2.2.2.2.2.2.2.2)) := hD
        refine lv_aload_n hx hb dX0_dropAsh_29 rfl (lv_at hl 0 rfl) ?_
        obtain ⟨r30, e30, h⟩ := kBd h
        refine kCallVI (As := []) (rest := []) (wc := wC ty adC (vC.1, vC.2.1, vC.2.2.1, vC.2.2.2.1, vC.2.2.2.2.1, vC.2.2.2.2.2.1, vC.2.2.2.2.2.2.1, vC.2.2.2.2.2.2.2.1, vC.2.2.2.2.2.2.2.2.1, (upd vC.2.2.2.2.2.2.2.2.2.1 p1.toNatClampNeg (-1 : Int32)), vC.2.2.2.2.2.2.2.2.2.2)) (w1 := wC ty adC (vC.1, vC.2.1, vC.2.2.1, vC.2.2.2.1, vC.2.2.2.2.1, vC.2.2.2.2.2.1, vC.2.2.2.2.2.2.1, vC.2.2.2.2.2.2.2.1, vC.2.2.2.2.2.2.2.2.1, (upd vC.2.2.2.2.2.2.2.2.2.1 p1.toNatClampNeg (-1 : Int32)), vC.2.2.2.2.2.2.2.2.2.2)) (wn := wC ty adC (vC.1, vC.2.1, vC.2.2.1, vC.2.2.2.1, vC.2.2.2.2.1, vC.2.2.2.2.2.1, vC.2.2.2.2.2.2.1, vC.2.2.2.2.2.2.2.1, vC.2.2.2.2.2.2.2.2.1, (upd vC.2.2.2.2.2.2.2.2.2.1 p1.toNatClampNeg (-1 : Int32)), vC.2.2.2.2.2.2.2.2.2.2)) ⟨hx, hb, hml, hown, hts⟩ (cX0_ashBeds_ok l D ty adC H.size (vC.1, vC.2.1, vC.2.2.1, vC.2.2.2.1, vC.2.2.2.2.1, vC.2.2.2.2.2.1, vC.2.2.2.2.2.2.1, vC.2.2.2.2.2.2.2.1, vC.2.2.2.2.2.2.2.2.1, (upd vC.2.2.2.2.2.2.2.2.2.1 p1.toNatClampNeg (-1 : Int32)), vC.2.2.2.2.2.2.2.2.2.2)  r30 e30) (cwV 0 hts gX0_dropAsh_X0_ashBeds rfl rfl rfl (by decide +kernel) ⟨Nat.le_of_ble_eq_true rfl, Nat.le_of_ble_eq_true rfl⟩) hP hK hD hS hA [0, 1, 2, 3, 4, 5, 6, 7] (by decide +kernel) rfl 0 0 rfl rfl rfl rfl hl.1 rfl (Nat.le_of_ble_eq_true rfl) dX0_dropAsh_30 ⟨Nat.le_of_ble_eq_true rfl, Nat.le_of_ble_eq_true rfl⟩ rfl rfl (fun H locs hP hD hS => ?_)
        obtain rfl := Option.some.inj h
        subst hQ
        exact W.iret (v := r30) hx hb hr (fun t ht hW => ⟨⟨r30, (), rfl, rfl, kEnd ht hP⟩, hS.F ht⟩) hS.2.2 dX0_dropAsh_33
      · have h := kF h (fun z => z c16)
        refine lv_ldc hx hb hown wf2 dX0_dropAsh_19 ?_
        obtain rfl := Option.some.inj h
        subst hQ
        exact W.iret (v := (-1000000003 : Int32)) hx hb hr (fun t ht hW => ⟨⟨(-1000000003 : Int32), (), rfl, rfl, kEnd ht hP⟩, hS.F ht⟩) hS.2.2 dX0_dropAsh_21
    · have h := kF h (fun z => z c5)
      refine lv_ldc hx hb hown wf3 dX0_dropAsh_8 ?_
      obtain rfl := Option.some.inj h
      subst hQ
      exact W.iret (v := (-1000000001 : Int32)) hx hb hr (fun t ht hW => ⟨⟨(-1000000001 : Int32), (), rfl, rfl, kEnd ht hP⟩, hS.F ht⟩) hS.2.2 dX0_dropAsh_10
  exact E0 s.heap [] ls hP hD hS hl
def fX0_thinningOf_c127 (vC : KC) (x10 : Int64) (x12 : Int64) (x14 : Int32) (s0 : Int64) : Option (Int32) := if x14 = (0 : Int32) then ((fX4_quotient s0 (x10 * x12)).bind fun r153 => some ((if r153 < (10 : Int64) then (10 : Int64) else r153).toInt32)) else ((fX4_quotient s0 x12).bind fun r153 => some ((if r153 < (10 : Int64) then (10 : Int64) else r153).toInt32))
def fX0_thinningOf_c95 (vC : KC) (x4 : Int64) (x10 : Int64) (x12 : Int64) (s0 : Int32) : Option (Int32) := if s0 = (0 : Int32) then (fX0_thinningOf_c127 vC x10 x12 s0 (((1000 : Int64) * x4) * x4)) else (fX0_thinningOf_c127 vC x10 x12 s0 ((1000 : Int64) * (((2 : Int64) * x4) - x10)))
def fX0_thinningOf (vC : KC) (p1 : Int32) (p2 : Int32) (p3 : Int32) : Option (Int32) := if ¬ p2 = (2 : Int32) then ((fX0_topOf vC p1).bind fun r18 => if kIn p1 16 = true then ((some ((vC.2.1 - (r18 + ((vC.2.2.2.2.2.1 p1.toNatClampNeg) / (2 : Int32)))).toInt64)).bind fun y32 => if ¬ p2 = (1 : Int32) then ((fX4_quotient ((1000 : Int64) * y32) vC.2.1.toInt64).bind fun r153 => some ((if r153 < (10 : Int64) then (10 : Int64) else r153).toInt32)) else ((some ((vC.2.1.toInt64 * p3.toInt64) / (1000 : Int64))).bind fun y66 => if y32 < y66 then (fX0_thinningOf_c95 vC y32 y66 (((2 : Int64) * vC.2.1.toInt64) - y66) (0 : Int32)) else (fX0_thinningOf_c95 vC y32 y66 (((2 : Int64) * vC.2.1.toInt64) - y66) (1 : Int32)))) else none) else (if kIn p1 16 = true then (some (vC.2.2.2.2.2.2.2.2.1 p1.toNatClampNeg)) else none)
set_option maxHeartbeats 4000000 in
set_option maxRecDepth 100000 in
theorem cX0_thinningOf_ok (l : Launch) (D : va_G) (ty : kTy) (adC : Nat → Nat) (sz : Nat) (vC : KC) (p1 : Int32) (p2 : Int32) (p3 : Int32)  (res : Int32) (h : fX0_thinningOf vC p1 p2 p3 = some res) : kMI l yX0_thinningOf wsX0_thinningOf { frames := 1, cells := 0, slots := 0, locals := 23 } [.ref (adC 0), .int p1, .int p2, .int p3] D ty (wC ty adC vC) sz res (wC ty adC vC) := by
  refine Met.ofW (cc := cX0_thinningOf) (maxL := 15) (ret := (some .int)) (by decide) rfl ?_
  intro p e s m args below meth c s₁ B hml hv
  obtain ⟨rfl, hsz, hP, hK, hD0⟩ := hv
  have hx := B.exec
  have hb := B.bytes
  have hr := B.returns
  have hts := atoms_spec (ws := wsX0_thinningOf) B.pre
  have hown : s.vm.findClass RX0 = some m.cls := findClass_of_methodNamed B.named
  have hlocks := B.notSynchronized
  subst hsz
  have hD := hD0.self (sz := s.heap.size)
  generalize hAe : va_A (wC ty adC vC) s.heap.size = A at hD ⊢
  have hA : ∀ q : Nat, s.heap.size ≤ q → A q := fun q h => by rw [← hAe]; exact Or.inr h
  have hS : va_S A s.heap s.heap [] := va_S.rf
  refine kGenW (fun Q hQ => ?_)
  have wf0 := hts (.constantLong RX0 96 (10)) (by decide +kernel)
  have wf1 := hts (.initialized RX4) (by decide +kernel)
  have wf2 := hts (.static yX4_quotient) (by decide +kernel)
  have wf3 := hts (.methodLink RX0 102 Lib.MathLoose.max_long.x) (by decide +kernel)
  have wf4 := hts (.static Lib.MathLoose.max_long.x) (by decide +kernel)
  have wf5 := hts (.initialized "java/lang/Math") (by decide +kernel)
  have wf6 := hts (.code Lib.MathLoose.max_long.x Lib.MathLoose.max_long.code 4 (some .long)) (by decide +kernel)
  have wf7 := hts (.constantLong RX0 92 (1000)) (by decide +kernel)
  have wf8 := hts (.constantLong RX0 94 (2)) (by decide +kernel)
  have wf9 := hts (.fieldLink RX0 16 "IceCoreDater$Core" "bed" "I") (by decide +kernel)
  have hinX0 : ∀ w ∈ wsX00, w ∈ wsX0_thinningOf := by decide +kernel
  have wf11 := hts (.fieldLink RX0 28 "IceCoreDater$Core" "thickness" "[I") (by decide +kernel)
  have wf12 := hts (.fieldLink RX0 38 "IceCoreDater$Core" "told" "[I") (by decide +kernel)
  have J127 : ∀ (x10 : Int64) (x12 : Int64) (x14 : Int32) (s0 : Int64), fX0_thinningOf_c127 vC x10 x12 x14 s0 = some res → ∀ (H : Heap) (locs : List Loc) (ls : Array Slot), va_P D vwCl (wC ty adC vC) H → va_D A (wC ty adC vC) → va_S A s.heap H locs → lv_has ls 15 [(10, .long x10), (12, .long x12), (14, .int x14)] → W p l e (headSpec wsX0_thinningOf { frames := 1, cells := 0, slots := 0, locals := 23 }).room s m ([.ref (adC 0), .int p1, .int p2, .int p3] : List Value).toArray below meth c H locs 0 0 Q (F0 m 127 ls [.long s0]) := by
    intro x10 x12 x14 s0 h H locs ls hP hD hS hl
    unfold fX0_thinningOf_c127 at h
    refine lv_lstore (lv' := [(6, .long s0), (10, .long x10), (12, .long x12), (14, .int x14)]) hx hb dX0_thinningOf_127 hl (by decide) rfl (fun ls hl => ?_)
    refine lv_iload hx hb dX0_thinningOf_129 (lv_at hl 3 rfl) ?_
    refine lv_if_eq (tgt := 139) hx hb dX0_thinningOf_131 (by decide) (fun c131 => ?_) (fun c131 => ?_)
    · have h := kT h c131
      refine lv_lload hx hb dX0_thinningOf_139 (lv_at hl 1 rfl) ?_
      refine lv_lload hx hb dX0_thinningOf_141 (lv_at hl 2 rfl) ?_
      refine lv_lmul hx hb dX0_thinningOf_143 ?_
      refine lv_lstore (lv' := [(8, .long (x10 * x12)), (6, .long s0), (10, .long x10), (12, .long x12), (14, .int x14)]) hx hb dX0_thinningOf_144 hl (by decide) rfl (fun ls hl => ?_)
      refine lv_ldc2 hx hb hown wf0 dX0_thinningOf_146 ?_
      refine lv_lload hx hb dX0_thinningOf_149 (lv_at hl 1 rfl) ?_
      refine lv_lload hx hb dX0_thinningOf_151 (lv_at hl 0 rfl) ?_
      obtain ⟨r153, e153, h⟩ := kBd h
      refine kCallNL (As := [.long s0, .long (x10 * x12)]) (rest := [.long (10 : Int64)]) ⟨hx, hb, hml, hown, hts⟩ (cX4_quotient_ok l D ty  H.size s0 (x10 * x12)  r153 e153) ⟨va_cnB 2 hts gX0_thinningOf_X4_quotient_n98 rfl rfl rfl hK.2.2.2.2.2.2 wf1 (by decide +kernel) ⟨Nat.le_of_ble_eq_true rfl, Nat.le_of_ble_eq_true rfl⟩, wf2, trivial⟩ hP hK hD hS hA rfl hl.1 rfl (Nat.le_of_ble_eq_true rfl) dX0_thinningOf_153 ⟨Nat.le_of_ble_eq_true rfl, Nat.le_of_ble_eq_true rfl⟩ (fun H locs hP hS => ?_)
      refine va_mmax_long hx hb (hml.trans hl.1.symm) hown wf3 wf4 wf5 wf6 (Nat.le_of_ble_eq_true rfl) (Nat.le_of_ble_eq_true rfl) (Nat.le_of_ble_eq_true rfl) (Nat.le_of_ble_eq_true rfl) dX0_thinningOf_156 ?_
      refine lv_l2i hx hb dX0_thinningOf_159 rfl ?_
      obtain rfl := Option.some.inj h
      subst hQ
      exact W.iret (v := (if r153 < (10 : Int64) then (10 : Int64) else r153).toInt32) hx hb hr (fun t ht hW => ⟨⟨(if r153 < (10 : Int64) then (10 : Int64) else r153).toInt32, (), rfl, rfl, kEnd ht hP⟩, hS.F ht⟩) hS.2.2 dX0_thinningOf_160
    · have h := kF h c131
      refine lv_lload hx hb dX0_thinningOf_134 (lv_at hl 2 rfl) ?_
      refine lv_goto (tgt := 144) hx hb dX0_thinningOf_136 (by decide) ?_
      refine lv_lstore (lv' := [(8, .long x12), (6, .long s0), (10, .long x10), (12, .long x12), (14, .int x14)]) hx hb dX0_thinningOf_144 hl (by decide) rfl (fun ls hl => ?_)
      refine lv_ldc2 hx hb hown wf0 dX0_thinningOf_146 ?_
      refine lv_lload hx hb dX0_thinningOf_149 (lv_at hl 1 rfl) ?_
      refine lv_lload hx hb dX0_thinningOf_151 (lv_at hl 0 rfl) ?_
      obtain ⟨r153, e153, h⟩ := kBd h
      refine kCallNL (As := [.long s0, .long x12]) (rest := [.long (10 : Int64)]) ⟨hx, hb, hml, hown, hts⟩ (cX4_quotient_ok l D ty  H.size s0 x12  r153 e153) ⟨va_cnB 2 hts gX0_thinningOf_X4_quotient_n98 rfl rfl rfl hK.2.2.2.2.2.2 wf1 (by decide +kernel) ⟨Nat.le_of_ble_eq_true rfl, Nat.le_of_ble_eq_true rfl⟩, wf2, trivial⟩ hP hK hD hS hA rfl hl.1 rfl (Nat.le_of_ble_eq_true rfl) dX0_thinningOf_153 ⟨Nat.le_of_ble_eq_true rfl, Nat.le_of_ble_eq_true rfl⟩ (fun H locs hP hS => ?_)
      refine va_mmax_long hx hb (hml.trans hl.1.symm) hown wf3 wf4 wf5 wf6 (Nat.le_of_ble_eq_true rfl) (Nat.le_of_ble_eq_true rfl) (Nat.le_of_ble_eq_true rfl) (Nat.le_of_ble_eq_true rfl) dX0_thinningOf_156 ?_
      refine lv_l2i hx hb dX0_thinningOf_159 rfl ?_
      obtain rfl := Option.some.inj h
      subst hQ
      exact W.iret (v := (if r153 < (10 : Int64) then (10 : Int64) else r153).toInt32) hx hb hr (fun t ht hW => ⟨⟨(if r153 < (10 : Int64) then (10 : Int64) else r153).toInt32, (), rfl, rfl, kEnd ht hP⟩, hS.F ht⟩) hS.2.2 dX0_thinningOf_160
  have J95 : ∀ (x4 : Int64) (x10 : Int64) (x12 : Int64) (s0 : Int32), fX0_thinningOf_c95 vC x4 x10 x12 s0 = some res → ∀ (H : Heap) (locs : List Loc) (ls : Array Slot), va_P D vwCl (wC ty adC vC) H → va_D A (wC ty adC vC) → va_S A s.heap H locs → lv_has ls 15 [(4, .long x4), (10, .long x10), (12, .long x12)] → W p l e (headSpec wsX0_thinningOf { frames := 1, cells := 0, slots := 0, locals := 23 }).room s m ([.ref (adC 0), .int p1, .int p2, .int p3] : List Value).toArray below meth c H locs 0 0 Q (F0 m 95 ls [.int s0]) := by
    intro x4 x10 x12 s0 h H locs ls hP hD hS hl
    unfold fX0_thinningOf_c95 at h
    refine lv_istore (lv' := [(14, .int s0), (4, .long x4), (10, .long x10), (12, .long x12)]) hx hb dX0_thinningOf_95 hl (by decide) rfl (fun ls hl => ?_)
    refine lv_iload hx hb dX0_thinningOf_97 (lv_at hl 0 rfl) ?_
    refine lv_if_eq (tgt := 118) hx hb dX0_thinningOf_99 (by decide) (fun c99 => ?_) (fun c99 => ?_)
    · have h := kT h c99
      refine lv_ldc2 hx hb hown wf7 dX0_thinningOf_118 ?_
      refine lv_lload hx hb dX0_thinningOf_121 (lv_at hl 1 rfl) ?_
      refine lv_lmul hx hb dX0_thinningOf_123 ?_
      refine lv_lload hx hb dX0_thinningOf_124 (lv_at hl 1 rfl) ?_
      refine lv_lmul hx hb dX0_thinningOf_126 ?_
      exact J127 x10 x12 s0 (((1000 : Int64) * x4) * x4) h H locs ls hP hD hS (lv_sub hl [2, 3, 0] rfl)
    · have h := kF h c99
      refine lv_ldc2 hx hb hown wf7 dX0_thinningOf_102 ?_
      refine lv_ldc2 hx hb hown wf8 dX0_thinningOf_105 ?_
      refine lv_lload hx hb dX0_thinningOf_108 (lv_at hl 1 rfl) ?_
      refine lv_lmul hx hb dX0_thinningOf_110 ?_
      refine lv_lload hx hb dX0_thinningOf_111 (lv_at hl 2 rfl) ?_
      refine lv_lsub hx hb dX0_thinningOf_113 ?_
      refine lv_lmul hx hb dX0_thinningOf_114 ?_
      refine lv_goto (tgt := 127) hx hb dX0_thinningOf_115 (by decide) ?_
      exact J127 x10 x12 s0 ((1000 : Int64) * (((2 : Int64) * x4) - x10)) h H locs ls hP hD hS (lv_sub hl [2, 3, 0] rfl)
  have hl := lv_entry ([.ref (adC 0), .int p1, .int p2, .int p3]) (n := 15) (Nat.le_of_ble_eq_true rfl)
  rw [lg_entry_eq]
  generalize (lg_sl ([.ref (adC 0), .int p1, .int p2, .int p3]) ++ List.replicate (15 - (lg_sl ([.ref (adC 0), .int p1, .int p2, .int p3])).length) Slot.unset).toArray = ls at hl ⊢
  have hl : lv_has ls 15 [(0, .ref (adC 0)), (1, .int p1), (2, .int p2), (3, .int p3)] := hl
  unfold fX0_thinningOf at h
  have E0 : ∀ (H : Heap) (locs : List Loc) (ls : Array Slot), va_P D vwCl (wC ty adC vC) H → va_D A (wC ty adC vC) → va_S A s.heap H locs → lv_has ls 15 [(0, .ref (adC 0)), (1, .int p1), (2, .int p2), (3, .int p3)] → W p l e (headSpec wsX0_thinningOf { frames := 1, cells := 0, slots := 0, locals := 23 }).room s m ([.ref (adC 0), .int p1, .int p2, .int p3] : List Value).toArray below meth c H locs 0 0 Q (F0 m 0 ls []) := by
    intro H locs ls hP hD hS hl
    refine lv_iload_n hx hb dX0_thinningOf_0 rfl (lv_at hl 2 rfl) ?_
    refine lv_iconst (v := 2) hx hb dX0_thinningOf_1 (by decide) ?_
    refine lv_icmp_ne (tgt := 12) hx hb dX0_thinningOf_2 (by decide) (fun c2 => ?_) (fun c2 => ?_)
    · have h := kT h c2
      refine lv_aload_n hx hb dX0_thinningOf_12 rfl (lv_at hl 0 rfl) ?_
      refine va_get (D := D) (ci := 0) (v := .int vC.2.1) (C := RX0) (T := TX0) (N := 12) hx hb hts hinX0 hown hK.1 hP 0 rfl rfl 1 (by decide) wf9 (fun _ h9 => h9) rfl dX0_thinningOf_13 ?_
      refine lv_aload_n hx hb dX0_thinningOf_16 rfl (lv_at hl 0 rfl) ?_
      refine lv_iload_n hx hb dX0_thinningOf_17 rfl (lv_at hl 1 rfl) ?_
      obtain ⟨r18, e18, h⟩ := kBd h
      refine kCallVI (As := [.int p1]) (rest := [.int vC.2.1]) (wc := wC ty adC vC) (w1 := wC ty adC vC) (wn := wC ty adC vC) ⟨hx, hb, hml, hown, hts⟩ (cX0_topOf_ok l D ty adC H.size vC p1  r18 e18) (cwV 1 hts gX0_thinningOf_X0_topOf rfl rfl rfl (by decide +kernel) ⟨Nat.le_of_ble_eq_true rfl, Nat.le_of_ble_eq_true rfl⟩) hP hK hD hS hA [0, 1, 2, 3, 4, 5, 6, 7] (by decide +kernel) rfl 0 0 rfl rfl rfl rfl hl.1 rfl (Nat.le_of_ble_eq_true rfl) dX0_thinningOf_18 ⟨Nat.le_of_ble_eq_true rfl, Nat.le_of_ble_eq_true rfl⟩ rfl rfl (fun H locs hP hD hS => ?_)
      refine lv_aload_n hx hb dX0_thinningOf_21 rfl (lv_at hl 0 rfl) ?_
      refine va_get (D := D) (ci := 0) (v := .ref (adC 1)) (C := RX0) (T := TX0) (N := 12) hx hb hts hinX0 hown hK.1 hP 0 rfl rfl 5 (by decide) wf11 (fun _ h9 => h9) rfl dX0_thinningOf_22 ?_
      refine lv_iload_n hx hb dX0_thinningOf_25 rfl (lv_at hl 1 rfl) ?_
      obtain ⟨b26, h⟩ := kIf h
      refine va_iald (f := vC.2.2.2.2.2.1) (n := 16) hx hb hK.1 hP 1 0 rfl rfl (kIn_ok b26) dX0_thinningOf_26 ?_
      refine lv_iconst (v := 2) hx hb dX0_thinningOf_27 (by decide) ?_
      refine lv_idiv hx hb dX0_thinningOf_28 (by decide) ?_
      refine lv_iadd hx hb dX0_thinningOf_29 ?_
      refine lv_isub hx hb dX0_thinningOf_30 ?_
      refine lv_i2l hx hb dX0_thinningOf_31 rfl ?_
      refine lv_topl (fun y32 ey32 => ?_)
      have h := kBs h ey32
      refine lv_lstore (lv' := [(4, .long y32), (0, .ref (adC 0)), (1, .int p1), (2, .int p2), (3, .int p3)]) hx hb dX0_thinningOf_32 hl (by decide) rfl (fun ls hl => ?_)
      refine lv_ldc2 hx hb hown wf7 dX0_thinningOf_34 ?_
      refine lv_lload hx hb dX0_thinningOf_37 (lv_at hl 0 rfl) ?_
      refine lv_lmul hx hb dX0_thinningOf_39 ?_
      refine lv_lstore (lv' := [(6, .long ((1000 : Int64) * y32)), (4, .long y32), (0, .ref (adC 0)), (1, .int p1), (2, .int p2), (3, .int p3)]) hx hb dX0_thinningOf_40 hl (by decide) rfl (fun ls hl => ?_)
      refine lv_aload_n hx hb dX0_thinningOf_42 rfl (lv_at hl 2 rfl) ?_
      refine va_get (D := D) (ci := 0) (v := .int vC.2.1) (C := RX0) (T := TX0) (N := 12) hx hb hts hinX0 hown hK.1 hP 0 rfl rfl 1 (by decide) wf9 (fun _ h9 => h9) rfl dX0_thinningOf_43 ?_
      refine lv_i2l hx hb dX0_thinningOf_46 rfl ?_
      refine lv_lstore (lv' := [(8, .long vC.2.1.toInt64), (6, .long ((1000 : Int64) * y32)), (4, .long y32), (0, .ref (adC 0)), (1, .int p1), (2, .int p2), (3, .int p3)]) hx hb dX0_thinningOf_47 hl (by decide) rfl (fun ls hl => ?_)
      refine lv_iload_n hx hb dX0_thinningOf_49 rfl (lv_at hl 5 rfl) ?_
      refine lv_iconst (v := 1) hx hb dX0_thinningOf_50 (by decide) ?_
      refine lv_icmp_ne (tgt := 146) hx hb dX0_thinningOf_51 (by decide) (fun c51 => ?_) (fun c51 => ?_)
      · have h := kT h c51
        refine lv_ldc2 hx hb hown wf0 dX0_thinningOf_146 ?_
        refine lv_lload hx hb dX0_thinningOf_149 (lv_at hl 1 rfl) ?_
        refine lv_lload hx hb dX0_thinningOf_151 (lv_at hl 0 rfl) ?_
        obtain ⟨r153, e153, h⟩ := kBd h
        refine kCallNL (As := [.long ((1000 : Int64) * y32), .long vC.2.1.toInt64]) (rest := [.long (10 : Int64)]) ⟨hx, hb, hml, hown, hts⟩ (cX4_quotient_ok l D ty  H.size ((1000 : Int64) * y32) vC.2.1.toInt64  r153 e153) ⟨va_cnB 2 hts gX0_thinningOf_X4_quotient_n98 rfl rfl rfl hK.2.2.2.2.2.2 wf1 (by decide +kernel) ⟨Nat.le_of_ble_eq_true rfl, Nat.le_of_ble_eq_true rfl⟩, wf2, trivial⟩ hP hK hD hS hA rfl hl.1 rfl (Nat.le_of_ble_eq_true rfl) dX0_thinningOf_153 ⟨Nat.le_of_ble_eq_true rfl, Nat.le_of_ble_eq_true rfl⟩ (fun H locs hP hS => ?_)
        refine va_mmax_long hx hb (hml.trans hl.1.symm) hown wf3 wf4 wf5 wf6 (Nat.le_of_ble_eq_true rfl) (Nat.le_of_ble_eq_true rfl) (Nat.le_of_ble_eq_true rfl) (Nat.le_of_ble_eq_true rfl) dX0_thinningOf_156 ?_
        refine lv_l2i hx hb dX0_thinningOf_159 rfl ?_
        obtain rfl := Option.some.inj h
        subst hQ
        exact W.iret (v := (if r153 < (10 : Int64) then (10 : Int64) else r153).toInt32) hx hb hr (fun t ht hW => ⟨⟨(if r153 < (10 : Int64) then (10 : Int64) else r153).toInt32, (), rfl, rfl, kEnd ht hP⟩, hS.F ht⟩) hS.2.2 dX0_thinningOf_160
      · have h := kF h (fun z => z c51)
        refine lv_aload_n hx hb dX0_thinningOf_54 rfl (lv_at hl 3 rfl) ?_
        refine va_get (D := D) (ci := 0) (v := .int vC.2.1) (C := RX0) (T := TX0) (N := 12) hx hb hts hinX0 hown hK.1 hP 0 rfl rfl 1 (by decide) wf9 (fun _ h9 => h9) rfl dX0_thinningOf_55 ?_
        refine lv_i2l hx hb dX0_thinningOf_58 rfl ?_
        refine lv_iload_n hx hb dX0_thinningOf_59 rfl (lv_at hl 6 rfl) ?_
        refine lv_i2l hx hb dX0_thinningOf_60 rfl ?_
        refine lv_lmul hx hb dX0_thinningOf_61 ?_
        refine lv_ldc2 hx hb hown wf7 dX0_thinningOf_62 ?_
        refine lv_ldiv hx hb dX0_thinningOf_65 (by decide) ?_
        refine lv_topl (fun y66 ey66 => ?_)
        have h := kBs h ey66
        refine lv_lstore (lv' := [(10, .long y66), (8, .long vC.2.1.toInt64), (6, .long ((1000 : Int64) * y32)), (4, .long y32), (0, .ref (adC 0)), (1, .int p1), (2, .int p2), (3, .int p3)]) hx hb dX0_thinningOf_66 hl (by decide) rfl (fun ls hl => ?_)
        refine lv_ldc2 hx hb hown wf8 dX0_thinningOf_68 ?_
        refine lv_aload_n hx hb dX0_thinningOf_71 rfl (lv_at hl 4 rfl) ?_
        refine va_get (D := D) (ci := 0) (v := .int vC.2.1) (C := RX0) (T := TX0) (N := 12) hx hb hts hinX0 hown hK.1 hP 0 rfl rfl 1 (by decide) wf9 (fun _ h9 => h9) rfl dX0_thinningOf_72 ?_
        refine lv_i2l hx hb dX0_thinningOf_75 rfl ?_
        refine lv_lmul hx hb dX0_thinningOf_76 ?_
        refine lv_lload hx hb dX0_thinningOf_77 (lv_at hl 0 rfl) ?_
        refine lv_lsub hx hb dX0_thinningOf_79 ?_
        refine lv_lstore (lv' := [(12, .long (((2 : Int64) * vC.2.1.toInt64) - y66)), (10, .long y66), (8, .long vC.2.1.toInt64), (6, .long ((1000 : Int64) * y32)), (4, .long y32), (0, .ref (adC 0)), (1, .int p1), (2, .int p2), (3, .int p3)]) hx hb dX0_thinningOf_80 hl (by decide) rfl (fun ls hl => ?_)
        refine lv_lload hx hb dX0_thinningOf_82 (lv_at hl 4 rfl) ?_
        refine lv_lload hx hb dX0_thinningOf_84 (lv_at hl 1 rfl) ?_
        refine W.lcmp hx hb dX0_thinningOf_86 ?_
        refine lv_if_lt (tgt := 94) hx hb dX0_thinningOf_87 (by decide) (fun c87 => ?_) (fun c87 => ?_)
        · have h := kT h ((lg_cmp_lt _ _).mp c87)
          refine lv_iconst (v := 0) hx hb dX0_thinningOf_94 (by decide) ?_
          exact J95 y32 y66 (((2 : Int64) * vC.2.1.toInt64) - y66) (0 : Int32) h H locs ls hP hD hS (lv_sub hl [4, 1, 0] rfl)
        · have h := kF h (fun z => c87 ((lg_cmp_lt _ _).mpr z))
          refine lv_iconst (v := 1) hx hb dX0_thinningOf_90 (by decide) ?_
          refine lv_goto (tgt := 95) hx hb dX0_thinningOf_91 (by decide) ?_
          exact J95 y32 y66 (((2 : Int64) * vC.2.1.toInt64) - y66) (1 : Int32) h H locs ls hP hD hS (lv_sub hl [4, 1, 0] rfl)
    · have h := kF h (fun z => z c2)
      refine lv_aload_n hx hb dX0_thinningOf_5 rfl (lv_at hl 0 rfl) ?_
      refine va_get (D := D) (ci := 0) (v := .ref (adC 4)) (C := RX0) (T := TX0) (N := 12) hx hb hts hinX0 hown hK.1 hP 0 rfl rfl 8 (by decide) wf12 (fun _ h9 => h9) rfl dX0_thinningOf_6 ?_
      refine lv_iload_n hx hb dX0_thinningOf_9 rfl (lv_at hl 1 rfl) ?_
      obtain ⟨b10, h⟩ := kIf h
      refine va_iald (f := vC.2.2.2.2.2.2.2.2.1) (n := 16) hx hb hK.1 hP 4 0 rfl rfl (kIn_ok b10) dX0_thinningOf_10 ?_
      obtain rfl := Option.some.inj h
      subst hQ
      exact W.iret (v := (vC.2.2.2.2.2.2.2.2.1 p1.toNatClampNeg)) hx hb hr (fun t ht hW => ⟨⟨(vC.2.2.2.2.2.2.2.2.1 p1.toNatClampNeg), (), rfl, rfl, kEnd ht hP⟩, hS.F ht⟩) hS.2.2 dX0_thinningOf_11
  exact E0 s.heap [] ls hP hD hS hl
def fX0_yearsDividend (vC : KC) (p1 : Int32) : Option (Int64) := if kIn p1 16 = true then (some ((10000000 : Int64) * (vC.2.2.2.2.2.1 p1.toNatClampNeg).toInt64)) else none
set_option maxHeartbeats 4000000 in
set_option maxRecDepth 100000 in
theorem cX0_yearsDividend_ok (l : Launch) (D : va_G) (ty : kTy) (adC : Nat → Nat) (sz : Nat) (vC : KC) (p1 : Int32)  (res : Int64) (h : fX0_yearsDividend vC p1 = some res) : kML l yX0_yearsDividend wsX0_yearsDividend { frames := 0, cells := 0, slots := 0, locals := 0 } [.ref (adC 0), .int p1] D ty (wC ty adC vC) sz res (wC ty adC vC) := by
  refine Met.ofW (cc := cX0_yearsDividend) (maxL := 2) (ret := (some .long)) (by decide) rfl ?_
  intro p e s m args below meth c s₁ B hml hv
  obtain ⟨rfl, hsz, hP, hK, hD0⟩ := hv
  have hx := B.exec
  have hb := B.bytes
  have hr := B.returns
  have hts := atoms_spec (ws := wsX0_yearsDividend) B.pre
  have hown : s.vm.findClass RX0 = some m.cls := findClass_of_methodNamed B.named
  have hlocks := B.notSynchronized
  subst hsz
  have hD := hD0.self (sz := s.heap.size)
  generalize hAe : va_A (wC ty adC vC) s.heap.size = A at hD ⊢
  have hA : ∀ q : Nat, s.heap.size ≤ q → A q := fun q h => by rw [← hAe]; exact Or.inr h
  have hS : va_S A s.heap s.heap [] := va_S.rf
  refine kGenW (fun Q hQ => ?_)
  have wf0 := hts (.constantLong RX0 107 (10000000)) (by decide +kernel)
  have wf1 := hts (.fieldLink RX0 28 "IceCoreDater$Core" "thickness" "[I") (by decide +kernel)
  have hinX0 : ∀ w ∈ wsX00, w ∈ wsX0_yearsDividend := by decide +kernel
  have hl := lv_entry ([.ref (adC 0), .int p1]) (n := 2) (Nat.le_of_ble_eq_true rfl)
  rw [lg_entry_eq]
  generalize (lg_sl ([.ref (adC 0), .int p1]) ++ List.replicate (2 - (lg_sl ([.ref (adC 0), .int p1])).length) Slot.unset).toArray = ls at hl ⊢
  have hl : lv_has ls 2 [(0, .ref (adC 0)), (1, .int p1)] := hl
  unfold fX0_yearsDividend at h
  have E0 : ∀ (H : Heap) (locs : List Loc) (ls : Array Slot), va_P D vwCl (wC ty adC vC) H → va_D A (wC ty adC vC) → va_S A s.heap H locs → lv_has ls 2 [(0, .ref (adC 0)), (1, .int p1)] → W p l e (headSpec wsX0_yearsDividend { frames := 0, cells := 0, slots := 0, locals := 0 }).room s m ([.ref (adC 0), .int p1] : List Value).toArray below meth c H locs 0 0 Q (F0 m 0 ls []) := by
    intro H locs ls hP hD hS hl
    refine lv_ldc2 hx hb hown wf0 dX0_yearsDividend_0 ?_
    refine lv_aload_n hx hb dX0_yearsDividend_3 rfl (lv_at hl 0 rfl) ?_
    refine va_get (D := D) (ci := 0) (v := .ref (adC 1)) (C := RX0) (T := TX0) (N := 12) hx hb hts hinX0 hown hK.1 hP 0 rfl rfl 5 (by decide) wf1 (fun _ h9 => h9) rfl dX0_yearsDividend_4 ?_
    refine lv_iload_n hx hb dX0_yearsDividend_7 rfl (lv_at hl 1 rfl) ?_
    obtain ⟨b8, h⟩ := kIf h
    refine va_iald (f := vC.2.2.2.2.2.1) (n := 16) hx hb hK.1 hP 1 0 rfl rfl (kIn_ok b8) dX0_yearsDividend_8 ?_
    refine lv_i2l hx hb dX0_yearsDividend_9 rfl ?_
    refine lv_lmul hx hb dX0_yearsDividend_10 ?_
    obtain rfl := Option.some.inj h
    subst hQ
    exact W.lret (v := ((10000000 : Int64) * (vC.2.2.2.2.2.1 p1.toNatClampNeg).toInt64)) hx hb hr (fun t ht hW => ⟨⟨((10000000 : Int64) * (vC.2.2.2.2.2.1 p1.toNatClampNeg).toInt64), (), rfl, rfl, kEnd ht hP⟩, hS.F ht⟩) hS.2.2 dX0_yearsDividend_11
  exact E0 s.heap [] ls hP hD hS hl
def fX0_yearsOf (vC : KC) (p1 : Int32) (p2 : Int32) (p3 : Int32) : Option (Int32) := (fX0_thinningOf vC p1 p2 p3).bind fun r4 => (fX0_yearsDividend vC p1).bind fun r12 => if kIn p1 16 = true then (if kIn p1 16 = true then ((fX4_quotient r12 ((r4.toInt64 * (vC.2.2.2.2.2.2.1 p1.toNatClampNeg).toInt64) * (vC.2.2.2.2.2.2.2.1 p1.toNatClampNeg).toInt64)).bind fun r33 => some r33.toInt32) else none) else none
set_option maxHeartbeats 4000000 in
set_option maxRecDepth 100000 in
theorem cX0_yearsOf_ok (l : Launch) (D : va_G) (ty : kTy) (adC : Nat → Nat) (sz : Nat) (vC : KC) (p1 : Int32) (p2 : Int32) (p3 : Int32)  (res : Int32) (h : fX0_yearsOf vC p1 p2 p3 = some res) : kMI l yX0_yearsOf wsX0_yearsOf { frames := 2, cells := 0, slots := 0, locals := 57 } [.ref (adC 0), .int p1, .int p2, .int p3] D ty (wC ty adC vC) sz res (wC ty adC vC) := by
  refine Met.ofW (cc := cX0_yearsOf) (maxL := 6) (ret := (some .int)) (by decide) rfl ?_
  intro p e s m args below meth c s₁ B hml hv
  obtain ⟨rfl, hsz, hP, hK, hD0⟩ := hv
  have hx := B.exec
  have hb := B.bytes
  have hr := B.returns
  have hts := atoms_spec (ws := wsX0_yearsOf) B.pre
  have hown : s.vm.findClass RX0 = some m.cls := findClass_of_methodNamed B.named
  have hlocks := B.notSynchronized
  subst hsz
  have hD := hD0.self (sz := s.heap.size)
  generalize hAe : va_A (wC ty adC vC) s.heap.size = A at hD ⊢
  have hA : ∀ q : Nat, s.heap.size ≤ q → A q := fun q h => by rw [← hAe]; exact Or.inr h
  have hS : va_S A s.heap s.heap [] := va_S.rf
  refine kGenW (fun Q hQ => ?_)
  have wf0 := hts (.fieldLink RX0 32 "IceCoreDater$Core" "accumulation" "[I") (by decide +kernel)
  have hinX0 : ∀ w ∈ wsX00, w ∈ wsX0_yearsOf := by decide +kernel
  have wf2 := hts (.fieldLink RX0 35 "IceCoreDater$Core" "correction" "[I") (by decide +kernel)
  have wf3 := hts (.initialized RX4) (by decide +kernel)
  have wf4 := hts (.static yX4_quotient) (by decide +kernel)
  have hl := lv_entry ([.ref (adC 0), .int p1, .int p2, .int p3]) (n := 6) (Nat.le_of_ble_eq_true rfl)
  rw [lg_entry_eq]
  generalize (lg_sl ([.ref (adC 0), .int p1, .int p2, .int p3]) ++ List.replicate (6 - (lg_sl ([.ref (adC 0), .int p1, .int p2, .int p3])).length) Slot.unset).toArray = ls at hl ⊢
  have hl : lv_has ls 6 [(0, .ref (adC 0)), (1, .int p1), (2, .int p2), (3, .int p3)] := hl
  unfold fX0_yearsOf at h
  have E0 : ∀ (H : Heap) (locs : List Loc) (ls : Array Slot), va_P D vwCl (wC ty adC vC) H → va_D A (wC ty adC vC) → va_S A s.heap H locs → lv_has ls 6 [(0, .ref (adC 0)), (1, .int p1), (2, .int p2), (3, .int p3)] → W p l e (headSpec wsX0_yearsOf { frames := 2, cells := 0, slots := 0, locals := 57 }).room s m ([.ref (adC 0), .int p1, .int p2, .int p3] : List Value).toArray below meth c H locs 0 0 Q (F0 m 0 ls []) := by
    intro H locs ls hP hD hS hl
    refine lv_aload_n hx hb dX0_yearsOf_0 rfl (lv_at hl 0 rfl) ?_
    refine lv_iload_n hx hb dX0_yearsOf_1 rfl (lv_at hl 1 rfl) ?_
    refine lv_iload_n hx hb dX0_yearsOf_2 rfl (lv_at hl 2 rfl) ?_
    refine lv_iload_n hx hb dX0_yearsOf_3 rfl (lv_at hl 3 rfl) ?_
    obtain ⟨r4, e4, h⟩ := kBd h
    refine kCallVI (As := [.int p1, .int p2, .int p3]) (rest := []) (wc := wC ty adC vC) (w1 := wC ty adC vC) (wn := wC ty adC vC) ⟨hx, hb, hml, hown, hts⟩ (cX0_thinningOf_ok l D ty adC H.size vC p1 p2 p3  r4 e4) (cwV 3 hts gX0_yearsOf_X0_thinningOf rfl rfl rfl (by decide +kernel) ⟨Nat.le_of_ble_eq_true rfl, Nat.le_of_ble_eq_true rfl⟩) hP hK hD hS hA [0, 1, 2, 3, 4, 5, 6, 7] (by decide +kernel) rfl 0 0 rfl rfl rfl rfl hl.1 rfl (Nat.le_of_ble_eq_true rfl) dX0_yearsOf_4 ⟨Nat.le_of_ble_eq_true rfl, Nat.le_of_ble_eq_true rfl⟩ rfl rfl (fun H locs hP hD hS => ?_)
    refine lv_i2l hx hb dX0_yearsOf_7 rfl ?_
    refine lv_lstore (lv' := [(4, .long r4.toInt64), (0, .ref (adC 0)), (1, .int p1), (2, .int p2), (3, .int p3)]) hx hb dX0_yearsOf_8 hl (by decide) rfl (fun ls hl => ?_)
    refine lv_aload_n hx hb dX0_yearsOf_10 rfl (lv_at hl 1 rfl) ?_
    refine lv_iload_n hx hb dX0_yearsOf_11 rfl (lv_at hl 2 rfl) ?_
    obtain ⟨r12, e12, h⟩ := kBd h
    refine kCallVL (As := [.int p1]) (rest := []) (wc := wC ty adC vC) (w1 := wC ty adC vC) (wn := wC ty adC vC) ⟨hx, hb, hml, hown, hts⟩ (cX0_yearsDividend_ok l D ty adC H.size vC p1  r12 e12) (cwV 1 hts gX0_yearsOf_X0_yearsDividend rfl rfl rfl (by decide +kernel) ⟨Nat.le_of_ble_eq_true rfl, Nat.le_of_ble_eq_true rfl⟩) hP hK hD hS hA [0, 1, 2, 3, 4, 5, 6, 7] (by decide +kernel) rfl 0 0 rfl rfl rfl rfl hl.1 rfl (Nat.le_of_ble_eq_true rfl) dX0_yearsOf_12 ⟨Nat.le_of_ble_eq_true rfl, Nat.le_of_ble_eq_true rfl⟩ rfl rfl (fun H locs hP hD hS => ?_)
    refine lv_lload hx hb dX0_yearsOf_15 (lv_at hl 0 rfl) ?_
    refine lv_aload_n hx hb dX0_yearsOf_17 rfl (lv_at hl 1 rfl) ?_
    refine va_get (D := D) (ci := 0) (v := .ref (adC 2)) (C := RX0) (T := TX0) (N := 12) hx hb hts hinX0 hown hK.1 hP 0 rfl rfl 6 (by decide) wf0 (fun _ h9 => h9) rfl dX0_yearsOf_18 ?_
    refine lv_iload_n hx hb dX0_yearsOf_21 rfl (lv_at hl 2 rfl) ?_
    obtain ⟨b22, h⟩ := kIf h
    refine va_iald (f := vC.2.2.2.2.2.2.1) (n := 16) hx hb hK.1 hP 2 0 rfl rfl (kIn_ok b22) dX0_yearsOf_22 ?_
    refine lv_i2l hx hb dX0_yearsOf_23 rfl ?_
    refine lv_lmul hx hb dX0_yearsOf_24 ?_
    refine lv_aload_n hx hb dX0_yearsOf_25 rfl (lv_at hl 1 rfl) ?_
    refine va_get (D := D) (ci := 0) (v := .ref (adC 3)) (C := RX0) (T := TX0) (N := 12) hx hb hts hinX0 hown hK.1 hP 0 rfl rfl 7 (by decide) wf2 (fun _ h9 => h9) rfl dX0_yearsOf_26 ?_
    refine lv_iload_n hx hb dX0_yearsOf_29 rfl (lv_at hl 2 rfl) ?_
    obtain ⟨b30, h⟩ := kIf h
    refine va_iald (f := vC.2.2.2.2.2.2.2.1) (n := 16) hx hb hK.1 hP 3 0 rfl rfl (kIn_ok b30) dX0_yearsOf_30 ?_
    refine lv_i2l hx hb dX0_yearsOf_31 rfl ?_
    refine lv_lmul hx hb dX0_yearsOf_32 ?_
    obtain ⟨r33, e33, h⟩ := kBd h
    refine kCallNL (As := [.long r12, .long ((r4.toInt64 * (vC.2.2.2.2.2.2.1 p1.toNatClampNeg).toInt64) * (vC.2.2.2.2.2.2.2.1 p1.toNatClampNeg).toInt64)]) (rest := []) ⟨hx, hb, hml, hown, hts⟩ (cX4_quotient_ok l D ty  H.size r12 ((r4.toInt64 * (vC.2.2.2.2.2.2.1 p1.toNatClampNeg).toInt64) * (vC.2.2.2.2.2.2.2.1 p1.toNatClampNeg).toInt64)  r33 e33) ⟨va_cnB 2 hts gX0_yearsOf_X4_quotient_n98 rfl rfl rfl hK.2.2.2.2.2.2 wf3 (by decide +kernel) ⟨Nat.le_of_ble_eq_true rfl, Nat.le_of_ble_eq_true rfl⟩, wf4, trivial⟩ hP hK hD hS hA rfl hl.1 rfl (Nat.le_of_ble_eq_true rfl) dX0_yearsOf_33 ⟨Nat.le_of_ble_eq_true rfl, Nat.le_of_ble_eq_true rfl⟩ (fun H locs hP hS => ?_)
    refine lv_l2i hx hb dX0_yearsOf_36 rfl ?_
    obtain rfl := Option.some.inj h
    subst hQ
    exact W.iret (v := r33.toInt32) hx hb hr (fun t ht hW => ⟨⟨r33.toInt32, (), rfl, rfl, kEnd ht hP⟩, hS.F ht⟩) hS.2.2 dX0_yearsOf_37
  exact E0 s.heap [] ls hP hD hS hl
def fX0_countErrorOf (vC : KC) (p1 : Int32) : Option (Int32) := (fX0_yearsOf vC p1 vC.2.2.1 vC.2.2.2.1).bind fun r10 => if kIn p1 16 = true then (some (r10 - (vC.2.2.2.2.2.2.2.2.2.2.2 p1.toNatClampNeg))) else none
set_option maxHeartbeats 4000000 in
set_option maxRecDepth 100000 in
theorem cX0_countErrorOf_ok (l : Launch) (D : va_G) (ty : kTy) (adC : Nat → Nat) (sz : Nat) (vC : KC) (p1 : Int32)  (res : Int32) (h : fX0_countErrorOf vC p1 = some res) : kMI l yX0_countErrorOf wsX0_countErrorOf { frames := 3, cells := 0, slots := 0, locals := 82 } [.ref (adC 0), .int p1] D ty (wC ty adC vC) sz res (wC ty adC vC) := by
  refine Met.ofW (cc := cX0_countErrorOf) (maxL := 2) (ret := (some .int)) (by decide) rfl ?_
  intro p e s m args below meth c s₁ B hml hv
  obtain ⟨rfl, hsz, hP, hK, hD0⟩ := hv
  have hx := B.exec
  have hb := B.bytes
  have hr := B.returns
  have hts := atoms_spec (ws := wsX0_countErrorOf) B.pre
  have hown : s.vm.findClass RX0 = some m.cls := findClass_of_methodNamed B.named
  have hlocks := B.notSynchronized
  subst hsz
  have hD := hD0.self (sz := s.heap.size)
  generalize hAe : va_A (wC ty adC vC) s.heap.size = A at hD ⊢
  have hA : ∀ q : Nat, s.heap.size ≤ q → A q := fun q h => by rw [← hAe]; exact Or.inr h
  have hS : va_S A s.heap s.heap [] := va_S.rf
  refine kGenW (fun Q hQ => ?_)
  have wf0 := hts (.fieldLink RX0 19 "IceCoreDater$Core" "function" "I") (by decide +kernel)
  have hinX0 : ∀ w ∈ wsX00, w ∈ wsX0_countErrorOf := by decide +kernel
  have wf2 := hts (.fieldLink RX0 22 "IceCoreDater$Core" "kink" "I") (by decide +kernel)
  have wf3 := hts (.fieldLink RX0 47 "IceCoreDater$Core" "count" "[I") (by decide +kernel)
  have hl := lv_entry ([.ref (adC 0), .int p1]) (n := 2) (Nat.le_of_ble_eq_true rfl)
  rw [lg_entry_eq]
  generalize (lg_sl ([.ref (adC 0), .int p1]) ++ List.replicate (2 - (lg_sl ([.ref (adC 0), .int p1])).length) Slot.unset).toArray = ls at hl ⊢
  have hl : lv_has ls 2 [(0, .ref (adC 0)), (1, .int p1)] := hl
  unfold fX0_countErrorOf at h
  have E0 : ∀ (H : Heap) (locs : List Loc) (ls : Array Slot), va_P D vwCl (wC ty adC vC) H → va_D A (wC ty adC vC) → va_S A s.heap H locs → lv_has ls 2 [(0, .ref (adC 0)), (1, .int p1)] → W p l e (headSpec wsX0_countErrorOf { frames := 3, cells := 0, slots := 0, locals := 82 }).room s m ([.ref (adC 0), .int p1] : List Value).toArray below meth c H locs 0 0 Q (F0 m 0 ls []) := by
    intro H locs ls hP hD hS hl
    refine lv_aload_n hx hb dX0_countErrorOf_0 rfl (lv_at hl 0 rfl) ?_
    refine lv_iload_n hx hb dX0_countErrorOf_1 rfl (lv_at hl 1 rfl) ?_
    refine lv_aload_n hx hb dX0_countErrorOf_2 rfl (lv_at hl 0 rfl) ?_
    refine va_get (D := D) (ci := 0) (v := .int vC.2.2.1) (C := RX0) (T := TX0) (N := 12) hx hb hts hinX0 hown hK.1 hP 0 rfl rfl 2 (by decide) wf0 (fun _ h9 => h9) rfl dX0_countErrorOf_3 ?_
    refine lv_aload_n hx hb dX0_countErrorOf_6 rfl (lv_at hl 0 rfl) ?_
    refine va_get (D := D) (ci := 0) (v := .int vC.2.2.2.1) (C := RX0) (T := TX0) (N := 12) hx hb hts hinX0 hown hK.1 hP 0 rfl rfl 3 (by decide) wf2 (fun _ h9 => h9) rfl dX0_countErrorOf_7 ?_
    obtain ⟨r10, e10, h⟩ := kBd h
    refine kCallVI (As := [.int p1, .int vC.2.2.1, .int vC.2.2.2.1]) (rest := []) (wc := wC ty adC vC) (w1 := wC ty adC vC) (wn := wC ty adC vC) ⟨hx, hb, hml, hown, hts⟩ (cX0_yearsOf_ok l D ty adC H.size vC p1 vC.2.2.1 vC.2.2.2.1  r10 e10) (cwV 3 hts gX0_countErrorOf_X0_yearsOf rfl rfl rfl (by decide +kernel) ⟨Nat.le_of_ble_eq_true rfl, Nat.le_of_ble_eq_true rfl⟩) hP hK hD hS hA [0, 1, 2, 3, 4, 5, 6, 7] (by decide +kernel) rfl 0 0 rfl rfl rfl rfl hl.1 rfl (Nat.le_of_ble_eq_true rfl) dX0_countErrorOf_10 ⟨Nat.le_of_ble_eq_true rfl, Nat.le_of_ble_eq_true rfl⟩ rfl rfl (fun H locs hP hD hS => ?_)
    refine lv_aload_n hx hb dX0_countErrorOf_13 rfl (lv_at hl 0 rfl) ?_
    refine va_get (D := D) (ci := 0) (v := .ref (adC 7)) (C := RX0) (T := TX0) (N := 12) hx hb hts hinX0 hown hK.1 hP 0 rfl rfl 11 (by decide) wf3 (fun _ h9 => h9) rfl dX0_countErrorOf_14 ?_
    refine lv_iload_n hx hb dX0_countErrorOf_17 rfl (lv_at hl 1 rfl) ?_
    obtain ⟨b18, h⟩ := kIf h
    refine va_iald (f := vC.2.2.2.2.2.2.2.2.2.2.2) (n := 16) hx hb hK.1 hP 7 0 rfl rfl (kIn_ok b18) dX0_countErrorOf_18 ?_
    refine lv_isub hx hb dX0_countErrorOf_19 ?_
    obtain rfl := Option.some.inj h
    subst hQ
    exact W.iret (v := (r10 - (vC.2.2.2.2.2.2.2.2.2.2.2 p1.toNatClampNeg))) hx hb hr (fun t ht hW => ⟨⟨(r10 - (vC.2.2.2.2.2.2.2.2.2.2.2 p1.toNatClampNeg)), (), rfl, rfl, kEnd ht hP⟩, hS.F ht⟩) hS.2.2 dX0_countErrorOf_20
  exact E0 s.heap [] ls hP hD hS hl
def fX0_putCount (vC : KC) (p1 : Int32) (p2 : Int32) : Option (Int32 × KC) := (fX0_has vC p1).bind fun r2 => if ¬ r2 = (0 : Int32) then ((fX4_isBetween p2 (1 : Int32) (1000000 : Int32)).bind fun r15 => if ¬ r15 = (0 : Int32) then (if kIn p1 16 = true then ((fX0_countErrorOf (vC.1, vC.2.1, vC.2.2.1, vC.2.2.2.1, vC.2.2.2.2.1, vC.2.2.2.2.2.1, vC.2.2.2.2.2.2.1, vC.2.2.2.2.2.2.2.1, vC.2.2.2.2.2.2.2.2.1, vC.2.2.2.2.2.2.2.2.2.1, vC.2.2.2.2.2.2.2.2.2.2.1, (upd vC.2.2.2.2.2.2.2.2.2.2.2 p1.toNatClampNeg p2)) p1).bind fun r33 => some (r33, (vC.1, vC.2.1, vC.2.2.1, vC.2.2.2.1, vC.2.2.2.2.1, vC.2.2.2.2.2.1, vC.2.2.2.2.2.2.1, vC.2.2.2.2.2.2.2.1, vC.2.2.2.2.2.2.2.2.1, vC.2.2.2.2.2.2.2.2.2.1, vC.2.2.2.2.2.2.2.2.2.2.1, (upd vC.2.2.2.2.2.2.2.2.2.2.2 p1.toNatClampNeg p2)))) else none) else (some ((-1000000002 : Int32), vC))) else (some ((-1000000001 : Int32), vC))
set_option maxHeartbeats 4000000 in
set_option maxRecDepth 100000 in
theorem cX0_putCount_ok (l : Launch) (D : va_G) (ty : kTy) (adC : Nat → Nat) (sz : Nat) (vC : KC) (p1 : Int32) (p2 : Int32)  (res : Int32 × KC) (h : fX0_putCount vC p1 p2 = some res) : kMI l yX0_putCount wsX0_putCount { frames := 4, cells := 0, slots := 0, locals := 103 } [.ref (adC 0), .int p1, .int p2] D ty (wC ty adC vC) sz res.1 (wC ty adC res.2) := by
  refine Met.ofW (cc := cX0_putCount) (maxL := 3) (ret := (some .int)) (by decide) rfl ?_
  intro p e s m args below meth c s₁ B hml hv
  obtain ⟨rfl, hsz, hP, hK, hD0⟩ := hv
  have hx := B.exec
  have hb := B.bytes
  have hr := B.returns
  have hts := atoms_spec (ws := wsX0_putCount) B.pre
  have hown : s.vm.findClass RX0 = some m.cls := findClass_of_methodNamed B.named
  have hlocks := B.notSynchronized
  subst hsz
  have hD := hD0.self (sz := s.heap.size)
  generalize hAe : va_A (wC ty adC vC) s.heap.size = A at hD ⊢
  have hA : ∀ q : Nat, s.heap.size ≤ q → A q := fun q h => by rw [← hAe]; exact Or.inr h
  have hS : va_S A s.heap s.heap [] := va_S.rf
  refine kGenW (fun Q hQ => ?_)
  have wf0 := hts (.constant RX0 88 (1000000)) (by decide +kernel)
  have wf1 := hts (.initialized RX4) (by decide +kernel)
  have wf2 := hts (.static yX4_isBetween) (by decide +kernel)
  have wf3 := hts (.fieldLink RX0 47 "IceCoreDater$Core" "count" "[I") (by decide +kernel)
  have hinX0 : ∀ w ∈ wsX00, w ∈ wsX0_putCount := by decide +kernel
  have wf5 := hts (.constant RX0 71 (-1000000002)) (by decide +kernel)
  have wf6 := hts (.constant RX0 78 (-1000000001)) (by decide +kernel)
  have hl := lv_entry ([.ref (adC 0), .int p1, .int p2]) (n := 3) (Nat.le_of_ble_eq_true rfl)
  rw [lg_entry_eq]
  generalize (lg_sl ([.ref (adC 0), .int p1, .int p2]) ++ List.replicate (3 - (lg_sl ([.ref (adC 0), .int p1, .int p2])).length) Slot.unset).toArray = ls at hl ⊢
  have hl : lv_has ls 3 [(0, .ref (adC 0)), (1, .int p1), (2, .int p2)] := hl
  unfold fX0_putCount at h
  have E0 : ∀ (H : Heap) (locs : List Loc) (ls : Array Slot), va_P D vwCl (wC ty adC vC) H → va_D A (wC ty adC vC) → va_S A s.heap H locs → lv_has ls 3 [(0, .ref (adC 0)), (1, .int p1), (2, .int p2)] → W p l e (headSpec wsX0_putCount { frames := 4, cells := 0, slots := 0, locals := 103 }).room s m ([.ref (adC 0), .int p1, .int p2] : List Value).toArray below meth c H locs 0 0 Q (F0 m 0 ls []) := by
    intro H locs ls hP hD hS hl
    refine lv_aload_n hx hb dX0_putCount_0 rfl (lv_at hl 0 rfl) ?_
    refine lv_iload_n hx hb dX0_putCount_1 rfl (lv_at hl 1 rfl) ?_
    obtain ⟨r2, e2, h⟩ := kBd h
    refine kCallVI (As := [.int p1]) (rest := []) (wc := wC ty adC vC) (w1 := wC ty adC vC) (wn := wC ty adC vC) ⟨hx, hb, hml, hown, hts⟩ (cX0_has_ok l D ty adC H.size vC p1  r2 e2) (cwV 1 hts gX0_putCount_X0_has rfl rfl rfl (by decide +kernel) ⟨Nat.le_of_ble_eq_true rfl, Nat.le_of_ble_eq_true rfl⟩) hP hK hD hS hA [0, 1, 2, 3, 4, 5, 6, 7] (by decide +kernel) rfl 0 0 rfl rfl rfl rfl hl.1 rfl (Nat.le_of_ble_eq_true rfl) dX0_putCount_2 ⟨Nat.le_of_ble_eq_true rfl, Nat.le_of_ble_eq_true rfl⟩ rfl rfl (fun H locs hP hD hS => ?_)
    refine lv_if_ne (tgt := 11) hx hb dX0_putCount_5 (by decide) (fun c5 => ?_) (fun c5 => ?_)
    · have h := kT h c5
      refine lv_iload_n hx hb dX0_putCount_11 rfl (lv_at hl 2 rfl) ?_
      refine lv_iconst (v := 1) hx hb dX0_putCount_12 (by decide) ?_
      refine lv_ldc hx hb hown wf0 dX0_putCount_13 ?_
      obtain ⟨r15, e15, h⟩ := kBd h
      refine kCallNI (As := [.int p2, .int (1 : Int32), .int (1000000 : Int32)]) (rest := []) ⟨hx, hb, hml, hown, hts⟩ (cX4_isBetween_ok l D ty  H.size p2 (1 : Int32) (1000000 : Int32)  r15 e15) ⟨va_cnB 3 hts gX0_putCount_X4_isBetween_n67 rfl rfl rfl hK.2.2.2.2.2.1 wf1 (by decide +kernel) ⟨Nat.le_of_ble_eq_true rfl, Nat.le_of_ble_eq_true rfl⟩, wf2, trivial⟩ hP hK hD hS hA rfl hl.1 rfl (Nat.le_of_ble_eq_true rfl) dX0_putCount_15 ⟨Nat.le_of_ble_eq_true rfl, Nat.le_of_ble_eq_true rfl⟩ (fun H locs hP hS => ?_)
      refine lv_if_ne (tgt := 24) hx hb dX0_putCount_18 (by decide) (fun c18 => ?_) (fun c18 => ?_)
      · have h := kT h c18
        refine lv_aload_n hx hb dX0_putCount_24 rfl (lv_at hl 0 rfl) ?_
        refine va_get (D := D) (ci := 0) (v := .ref (adC 7)) (C := RX0) (T := TX0) (N := 12) hx hb hts hinX0 hown hK.1 hP 0 rfl rfl 11 (by decide) wf3 (fun _ h9 => h9) rfl dX0_putCount_25 ?_
        refine lv_iload_n hx hb dX0_putCount_28 rfl (lv_at hl 1 rfl) ?_
        refine lv_iload_n hx hb dX0_putCount_29 rfl (lv_at hl 2 rfl) ?_
        obtain ⟨b30, h⟩ := kIf h
        refine va_iast (f := vC.2.2.2.2.2.2.2.2.2.2.2) (n := 16) hx hb hK.1 hP hD hS 7 0 rfl rfl (kIn_ok b30) dX0_putCount_30 (fun H locs hP hD hS => ?_)
        have hP : va_P D vwCl (wC ty adC (vC.1, vC.2.1, vC.2.2.1, vC.2.2.2.1, vC.2.2.2.2.1, vC.2.2.2.2.2.1, vC.2.2.2.2.2.2.1, vC.2.2.2.2.2.2.2.1, vC.2.2.2.2.2.2.2.2.1, vC.2.2.2.2.2.2.2.2.2.1, vC.2.2.2.2.2.2.2.2.2.2.1, (upd vC.2.2.2.2.2.2.2.2.2.2.2 p1.toNatClampNeg p2))) H := hP
        have hD : va_D A (wC ty adC (vC.1, vC.2.1, vC.2.2.1, vC.2.2.2.1, vC.2.2.2.2.1, vC.2.2.2.2.2.1, vC.2.2.2.2.2.2.1, vC.2.2.2.2.2.2.2.1, vC.2.2.2.2.2.2.2.2.1, vC.2.2.2.2.2.2.2.2.2.1, vC.2.2.2.2.2.2.2.2.2.2.1, (upd vC.2.2.2.2.2.2.2.2.2.2.2 p1.toNatClampNeg p2))) := hD
        refine lv_aload_n hx hb dX0_putCount_31 rfl (lv_at hl 0 rfl) ?_
        refine lv_iload_n hx hb dX0_putCount_32 rfl (lv_at hl 1 rfl) ?_
        obtain ⟨r33, e33, h⟩ := kBd h
        refine kCallVI (As := [.int p1]) (rest := []) (wc := wC ty adC (vC.1, vC.2.1, vC.2.2.1, vC.2.2.2.1, vC.2.2.2.2.1, vC.2.2.2.2.2.1, vC.2.2.2.2.2.2.1, vC.2.2.2.2.2.2.2.1, vC.2.2.2.2.2.2.2.2.1, vC.2.2.2.2.2.2.2.2.2.1, vC.2.2.2.2.2.2.2.2.2.2.1, (upd vC.2.2.2.2.2.2.2.2.2.2.2 p1.toNatClampNeg p2))) (w1 := wC ty adC (vC.1, vC.2.1, vC.2.2.1, vC.2.2.2.1, vC.2.2.2.2.1, vC.2.2.2.2.2.1, vC.2.2.2.2.2.2.1, vC.2.2.2.2.2.2.2.1, vC.2.2.2.2.2.2.2.2.1, vC.2.2.2.2.2.2.2.2.2.1, vC.2.2.2.2.2.2.2.2.2.2.1, (upd vC.2.2.2.2.2.2.2.2.2.2.2 p1.toNatClampNeg p2))) (wn := wC ty adC (vC.1, vC.2.1, vC.2.2.1, vC.2.2.2.1, vC.2.2.2.2.1, vC.2.2.2.2.2.1, vC.2.2.2.2.2.2.1, vC.2.2.2.2.2.2.2.1, vC.2.2.2.2.2.2.2.2.1, vC.2.2.2.2.2.2.2.2.2.1, vC.2.2.2.2.2.2.2.2.2.2.1, (upd vC.2.2.2.2.2.2.2.2.2.2.2 p1.toNatClampNeg p2))) ⟨hx, hb, hml, hown, hts⟩ (cX0_countErrorOf_ok l D ty adC H.size (vC.1, vC.2.1, vC.2.2.1, vC.2.2.2.1, vC.2.2.2.2.1, vC.2.2.2.2.2.1, vC.2.2.2.2.2.2.1, vC.2.2.2.2.2.2.2.1, vC.2.2.2.2.2.2.2.2.1, vC.2.2.2.2.2.2.2.2.2.1, vC.2.2.2.2.2.2.2.2.2.2.1, (upd vC.2.2.2.2.2.2.2.2.2.2.2 p1.toNatClampNeg p2)) p1  r33 e33) (cwV 1 hts gX0_putCount_X0_countErrorOf rfl rfl rfl (by decide +kernel) ⟨Nat.le_of_ble_eq_true rfl, Nat.le_of_ble_eq_true rfl⟩) hP hK hD hS hA [0, 1, 2, 3, 4, 5, 6, 7] (by decide +kernel) rfl 0 0 rfl rfl rfl rfl hl.1 rfl (Nat.le_of_ble_eq_true rfl) dX0_putCount_33 ⟨Nat.le_of_ble_eq_true rfl, Nat.le_of_ble_eq_true rfl⟩ rfl rfl (fun H locs hP hD hS => ?_)
        obtain rfl := Option.some.inj h
        subst hQ
        exact W.iret (v := r33) hx hb hr (fun t ht hW => ⟨⟨r33, (), rfl, rfl, kEnd ht hP⟩, hS.F ht⟩) hS.2.2 dX0_putCount_36
      · have h := kF h (fun z => z c18)
        refine lv_ldc hx hb hown wf5 dX0_putCount_21 ?_
        obtain rfl := Option.some.inj h
        subst hQ
        exact W.iret (v := (-1000000002 : Int32)) hx hb hr (fun t ht hW => ⟨⟨(-1000000002 : Int32), (), rfl, rfl, kEnd ht hP⟩, hS.F ht⟩) hS.2.2 dX0_putCount_23
    · have h := kF h (fun z => z c5)
      refine lv_ldc hx hb hown wf6 dX0_putCount_8 ?_
      obtain rfl := Option.some.inj h
      subst hQ
      exact W.iret (v := (-1000000001 : Int32)) hx hb hr (fun t ht hW => ⟨⟨(-1000000001 : Int32), (), rfl, rfl, kEnd ht hP⟩, hS.F ht⟩) hS.2.2 dX0_putCount_10
  exact E0 s.heap [] ls hP hD hS hl
def fX0_delayOf (vC : KC) (p1 : Int32) : Option (Int32) := if kIn p1 16 = true then (if kIn p1 16 = true then ((fX4_quotient ((10000 : Int64) * vC.2.2.2.2.1.toInt64) ((vC.2.2.2.2.2.2.1 p1.toNatClampNeg).toInt64 * (vC.2.2.2.2.2.2.2.1 p1.toNatClampNeg).toInt64)).bind fun r24 => some r24.toInt32) else none) else none
set_option maxHeartbeats 4000000 in
set_option maxRecDepth 100000 in
theorem cX0_delayOf_ok (l : Launch) (D : va_G) (ty : kTy) (adC : Nat → Nat) (sz : Nat) (vC : KC) (p1 : Int32)  (res : Int32) (h : fX0_delayOf vC p1 = some res) : kMI l yX0_delayOf wsX0_delayOf { frames := 1, cells := 0, slots := 0, locals := 23 } [.ref (adC 0), .int p1] D ty (wC ty adC vC) sz res (wC ty adC vC) := by
  refine Met.ofW (cc := cX0_delayOf) (maxL := 2) (ret := (some .int)) (by decide) rfl ?_
  intro p e s m args below meth c s₁ B hml hv
  obtain ⟨rfl, hsz, hP, hK, hD0⟩ := hv
  have hx := B.exec
  have hb := B.bytes
  have hr := B.returns
  have hts := atoms_spec (ws := wsX0_delayOf) B.pre
  have hown : s.vm.findClass RX0 = some m.cls := findClass_of_methodNamed B.named
  have hlocks := B.notSynchronized
  subst hsz
  have hD := hD0.self (sz := s.heap.size)
  generalize hAe : va_A (wC ty adC vC) s.heap.size = A at hD ⊢
  have hA : ∀ q : Nat, s.heap.size ≤ q → A q := fun q h => by rw [← hAe]; exact Or.inr h
  have hS : va_S A s.heap s.heap [] := va_S.rf
  refine kGenW (fun Q hQ => ?_)
  have wf0 := hts (.constantLong RX0 117 (10000)) (by decide +kernel)
  have wf1 := hts (.fieldLink RX0 25 "IceCoreDater$Core" "closeOff" "I") (by decide +kernel)
  have hinX0 : ∀ w ∈ wsX00, w ∈ wsX0_delayOf := by decide +kernel
  have wf3 := hts (.fieldLink RX0 32 "IceCoreDater$Core" "accumulation" "[I") (by decide +kernel)
  have wf4 := hts (.fieldLink RX0 35 "IceCoreDater$Core" "correction" "[I") (by decide +kernel)
  have wf5 := hts (.initialized RX4) (by decide +kernel)
  have wf6 := hts (.static yX4_quotient) (by decide +kernel)
  have hl := lv_entry ([.ref (adC 0), .int p1]) (n := 2) (Nat.le_of_ble_eq_true rfl)
  rw [lg_entry_eq]
  generalize (lg_sl ([.ref (adC 0), .int p1]) ++ List.replicate (2 - (lg_sl ([.ref (adC 0), .int p1])).length) Slot.unset).toArray = ls at hl ⊢
  have hl : lv_has ls 2 [(0, .ref (adC 0)), (1, .int p1)] := hl
  unfold fX0_delayOf at h
  have E0 : ∀ (H : Heap) (locs : List Loc) (ls : Array Slot), va_P D vwCl (wC ty adC vC) H → va_D A (wC ty adC vC) → va_S A s.heap H locs → lv_has ls 2 [(0, .ref (adC 0)), (1, .int p1)] → W p l e (headSpec wsX0_delayOf { frames := 1, cells := 0, slots := 0, locals := 23 }).room s m ([.ref (adC 0), .int p1] : List Value).toArray below meth c H locs 0 0 Q (F0 m 0 ls []) := by
    intro H locs ls hP hD hS hl
    refine lv_ldc2 hx hb hown wf0 dX0_delayOf_0 ?_
    refine lv_aload_n hx hb dX0_delayOf_3 rfl (lv_at hl 0 rfl) ?_
    refine va_get (D := D) (ci := 0) (v := .int vC.2.2.2.2.1) (C := RX0) (T := TX0) (N := 12) hx hb hts hinX0 hown hK.1 hP 0 rfl rfl 4 (by decide) wf1 (fun _ h9 => h9) rfl dX0_delayOf_4 ?_
    refine lv_i2l hx hb dX0_delayOf_7 rfl ?_
    refine lv_lmul hx hb dX0_delayOf_8 ?_
    refine lv_aload_n hx hb dX0_delayOf_9 rfl (lv_at hl 0 rfl) ?_
    refine va_get (D := D) (ci := 0) (v := .ref (adC 2)) (C := RX0) (T := TX0) (N := 12) hx hb hts hinX0 hown hK.1 hP 0 rfl rfl 6 (by decide) wf3 (fun _ h9 => h9) rfl dX0_delayOf_10 ?_
    refine lv_iload_n hx hb dX0_delayOf_13 rfl (lv_at hl 1 rfl) ?_
    obtain ⟨b14, h⟩ := kIf h
    refine va_iald (f := vC.2.2.2.2.2.2.1) (n := 16) hx hb hK.1 hP 2 0 rfl rfl (kIn_ok b14) dX0_delayOf_14 ?_
    refine lv_i2l hx hb dX0_delayOf_15 rfl ?_
    refine lv_aload_n hx hb dX0_delayOf_16 rfl (lv_at hl 0 rfl) ?_
    refine va_get (D := D) (ci := 0) (v := .ref (adC 3)) (C := RX0) (T := TX0) (N := 12) hx hb hts hinX0 hown hK.1 hP 0 rfl rfl 7 (by decide) wf4 (fun _ h9 => h9) rfl dX0_delayOf_17 ?_
    refine lv_iload_n hx hb dX0_delayOf_20 rfl (lv_at hl 1 rfl) ?_
    obtain ⟨b21, h⟩ := kIf h
    refine va_iald (f := vC.2.2.2.2.2.2.2.1) (n := 16) hx hb hK.1 hP 3 0 rfl rfl (kIn_ok b21) dX0_delayOf_21 ?_
    refine lv_i2l hx hb dX0_delayOf_22 rfl ?_
    refine lv_lmul hx hb dX0_delayOf_23 ?_
    obtain ⟨r24, e24, h⟩ := kBd h
    refine kCallNL (As := [.long ((10000 : Int64) * vC.2.2.2.2.1.toInt64), .long ((vC.2.2.2.2.2.2.1 p1.toNatClampNeg).toInt64 * (vC.2.2.2.2.2.2.2.1 p1.toNatClampNeg).toInt64)]) (rest := []) ⟨hx, hb, hml, hown, hts⟩ (cX4_quotient_ok l D ty  H.size ((10000 : Int64) * vC.2.2.2.2.1.toInt64) ((vC.2.2.2.2.2.2.1 p1.toNatClampNeg).toInt64 * (vC.2.2.2.2.2.2.2.1 p1.toNatClampNeg).toInt64)  r24 e24) ⟨va_cnB 2 hts gX0_delayOf_X4_quotient_n98 rfl rfl rfl hK.2.2.2.2.2.2 wf5 (by decide +kernel) ⟨Nat.le_of_ble_eq_true rfl, Nat.le_of_ble_eq_true rfl⟩, wf6, trivial⟩ hP hK hD hS hA rfl hl.1 rfl (Nat.le_of_ble_eq_true rfl) dX0_delayOf_24 ⟨Nat.le_of_ble_eq_true rfl, Nat.le_of_ble_eq_true rfl⟩ (fun H locs hP hS => ?_)
    refine lv_l2i hx hb dX0_delayOf_27 rfl ?_
    obtain rfl := Option.some.inj h
    subst hQ
    exact W.iret (v := r24.toInt32) hx hb hr (fun t ht hW => ⟨⟨r24.toInt32, (), rfl, rfl, kEnd ht hP⟩, hS.F ht⟩) hS.2.2 dX0_delayOf_28
  exact E0 s.heap [] ls hP hD hS hl
def fX0_residualOf_c4 (vC : KC) (x1 : Int32) (x2 : Int32) (x3 : Int32) (nx4 : Int32 × Int32 → Option (Int32)) : Option (Int32) := if x1 < x3 then (if kIn x1 16 = true then (some (x2 - (vC.2.2.2.2.2.2.2.2.2.1 x1.toNatClampNeg))) else none) else (if vC.1 ≤ x3 then (if kIn x1 16 = true then (some (x2 - (vC.2.2.2.2.2.2.2.2.2.1 x1.toNatClampNeg))) else none) else ((fX0_yearsOf vC x3 vC.2.2.1 vC.2.2.2.1).bind fun r28 => nx4 ((x2 + r28), (x3 + 1))))
def fX0_residualOf (vC : KC) (p1 : Int32) : Option (Int32) := kLoopC kFu (fun q nx4 => fX0_residualOf_c4 vC p1 q.1 q.2 nx4) ((0 : Int32), (0 : Int32))
set_option maxHeartbeats 4000000 in
set_option maxRecDepth 100000 in
theorem cX0_residualOf_ok (l : Launch) (D : va_G) (ty : kTy) (adC : Nat → Nat) (sz : Nat) (vC : KC) (p1 : Int32)  (res : Int32) (h : fX0_residualOf vC p1 = some res) : kMI l yX0_residualOf wsX0_residualOf { frames := 3, cells := 0, slots := 0, locals := 82 } [.ref (adC 0), .int p1] D ty (wC ty adC vC) sz res (wC ty adC vC) := by
  refine Met.ofW (cc := cX0_residualOf) (maxL := 4) (ret := (some .int)) (by decide) rfl ?_
  intro p e s m args below meth c s₁ B hml hv
  obtain ⟨rfl, hsz, hP, hK, hD0⟩ := hv
  have hx := B.exec
  have hb := B.bytes
  have hr := B.returns
  have hts := atoms_spec (ws := wsX0_residualOf) B.pre
  have hown : s.vm.findClass RX0 = some m.cls := findClass_of_methodNamed B.named
  have hlocks := B.notSynchronized
  subst hsz
  have hD := hD0.self (sz := s.heap.size)
  generalize hAe : va_A (wC ty adC vC) s.heap.size = A at hD ⊢
  have hA : ∀ q : Nat, s.heap.size ≤ q → A q := fun q h => by rw [← hAe]; exact Or.inr h
  have hS : va_S A s.heap s.heap [] := va_S.rf
  refine kGenW (fun Q hQ => ?_)
  have wf0 := hts (.fieldLink RX0 41 "IceCoreDater$Core" "ashAge" "[I") (by decide +kernel)
  have hinX0 : ∀ w ∈ wsX00, w ∈ wsX0_residualOf := by decide +kernel
  have wf2 := hts (.fieldLink RX0 9 "IceCoreDater$Core" "size" "I") (by decide +kernel)
  have wf3 := hts (.fieldLink RX0 19 "IceCoreDater$Core" "function" "I") (by decide +kernel)
  have wf4 := hts (.fieldLink RX0 22 "IceCoreDater$Core" "kink" "I") (by decide +kernel)
  have B4 : ∀ (x1 : Int32) (nx4 : Int32 × Int32 → Option (Int32)) (hn4 : ∀ (x2 : Int32) (x3 : Int32), nx4 (x2, x3) = some res → ∀ (H : Heap) (locs : List Loc) (ls : Array Slot), va_P D vwCl (wC ty adC vC) H → va_D A (wC ty adC vC) → va_S A s.heap H locs → lv_has ls 4 [(0, .ref (adC 0)), (1, .int x1), (2, .int x2), (3, .int x3)] → W p l e (headSpec wsX0_residualOf { frames := 3, cells := 0, slots := 0, locals := 82 }).room s m ([.ref (adC 0), .int p1] : List Value).toArray below meth c H locs 0 0 Q (F0 m 4 ls [])) (x2 : Int32) (x3 : Int32), fX0_residualOf_c4 vC x1 x2 x3 nx4 = some res → ∀ (H : Heap) (locs : List Loc) (ls : Array Slot), va_P D vwCl (wC ty adC vC) H → va_D A (wC ty adC vC) → va_S A s.heap H locs → lv_has ls 4 [(0, .ref (adC 0)), (1, .int x1), (2, .int x2), (3, .int x3)] → W p l e (headSpec wsX0_residualOf { frames := 3, cells := 0, slots := 0, locals := 82 }).room s m ([.ref (adC 0), .int p1] : List Value).toArray below meth c H locs 0 0 Q (F0 m 4 ls []) := by
    intro x1 nx4 hn4 x2 x3 h H locs ls hP hD hS hl
    unfold fX0_residualOf_c4 at h
    refine lv_iload_n hx hb dX0_residualOf_4 rfl (lv_at hl 3 rfl) ?_
    refine lv_iload_n hx hb dX0_residualOf_5 rfl (lv_at hl 1 rfl) ?_
    refine lv_icmp_gt (tgt := 39) hx hb dX0_residualOf_6 (by decide) (fun c6 => ?_) (fun c6 => ?_)
    · have h := kT h c6
      refine lv_iload_n hx hb dX0_residualOf_39 rfl (lv_at hl 2 rfl) ?_
      refine lv_aload_n hx hb dX0_residualOf_40 rfl (lv_at hl 0 rfl) ?_
      refine va_get (D := D) (ci := 0) (v := .ref (adC 5)) (C := RX0) (T := TX0) (N := 12) hx hb hts hinX0 hown hK.1 hP 0 rfl rfl 9 (by decide) wf0 (fun _ h9 => h9) rfl dX0_residualOf_41 ?_
      refine lv_iload_n hx hb dX0_residualOf_44 rfl (lv_at hl 1 rfl) ?_
      obtain ⟨b45, h⟩ := kIf h
      refine va_iald (f := vC.2.2.2.2.2.2.2.2.2.1) (n := 16) hx hb hK.1 hP 5 0 rfl rfl (kIn_ok b45) dX0_residualOf_45 ?_
      refine lv_isub hx hb dX0_residualOf_46 ?_
      obtain rfl := Option.some.inj h
      subst hQ
      exact W.iret (v := (x2 - (vC.2.2.2.2.2.2.2.2.2.1 x1.toNatClampNeg))) hx hb hr (fun t ht hW => ⟨⟨(x2 - (vC.2.2.2.2.2.2.2.2.2.1 x1.toNatClampNeg)), (), rfl, rfl, kEnd ht hP⟩, hS.F ht⟩) hS.2.2 dX0_residualOf_47
    · have h := kF h c6
      refine lv_iload_n hx hb dX0_residualOf_9 rfl (lv_at hl 3 rfl) ?_
      refine lv_aload_n hx hb dX0_residualOf_10 rfl (lv_at hl 0 rfl) ?_
      refine va_get (D := D) (ci := 0) (v := .int vC.1) (C := RX0) (T := TX0) (N := 12) hx hb hts hinX0 hown hK.1 hP 0 rfl rfl 0 (by decide) wf2 (fun _ h9 => h9) rfl dX0_residualOf_11 ?_
      refine lv_icmp_ge (tgt := 39) hx hb dX0_residualOf_14 (by decide) (fun c14 => ?_) (fun c14 => ?_)
      · have h := kT h c14
        refine lv_iload_n hx hb dX0_residualOf_39 rfl (lv_at hl 2 rfl) ?_
        refine lv_aload_n hx hb dX0_residualOf_40 rfl (lv_at hl 0 rfl) ?_
        refine va_get (D := D) (ci := 0) (v := .ref (adC 5)) (C := RX0) (T := TX0) (N := 12) hx hb hts hinX0 hown hK.1 hP 0 rfl rfl 9 (by decide) wf0 (fun _ h9 => h9) rfl dX0_residualOf_41 ?_
        refine lv_iload_n hx hb dX0_residualOf_44 rfl (lv_at hl 1 rfl) ?_
        obtain ⟨b45, h⟩ := kIf h
        refine va_iald (f := vC.2.2.2.2.2.2.2.2.2.1) (n := 16) hx hb hK.1 hP 5 0 rfl rfl (kIn_ok b45) dX0_residualOf_45 ?_
        refine lv_isub hx hb dX0_residualOf_46 ?_
        obtain rfl := Option.some.inj h
        subst hQ
        exact W.iret (v := (x2 - (vC.2.2.2.2.2.2.2.2.2.1 x1.toNatClampNeg))) hx hb hr (fun t ht hW => ⟨⟨(x2 - (vC.2.2.2.2.2.2.2.2.2.1 x1.toNatClampNeg)), (), rfl, rfl, kEnd ht hP⟩, hS.F ht⟩) hS.2.2 dX0_residualOf_47
      · have h := kF h c14
        refine lv_iload_n hx hb dX0_residualOf_17 rfl (lv_at hl 2 rfl) ?_
        refine lv_aload_n hx hb dX0_residualOf_18 rfl (lv_at hl 0 rfl) ?_
        refine lv_iload_n hx hb dX0_residualOf_19 rfl (lv_at hl 3 rfl) ?_
        refine lv_aload_n hx hb dX0_residualOf_20 rfl (lv_at hl 0 rfl) ?_
        refine va_get (D := D) (ci := 0) (v := .int vC.2.2.1) (C := RX0) (T := TX0) (N := 12) hx hb hts hinX0 hown hK.1 hP 0 rfl rfl 2 (by decide) wf3 (fun _ h9 => h9) rfl dX0_residualOf_21 ?_
        refine lv_aload_n hx hb dX0_residualOf_24 rfl (lv_at hl 0 rfl) ?_
        refine va_get (D := D) (ci := 0) (v := .int vC.2.2.2.1) (C := RX0) (T := TX0) (N := 12) hx hb hts hinX0 hown hK.1 hP 0 rfl rfl 3 (by decide) wf4 (fun _ h9 => h9) rfl dX0_residualOf_25 ?_
        obtain ⟨r28, e28, h⟩ := kBd h
        refine kCallVI (As := [.int x3, .int vC.2.2.1, .int vC.2.2.2.1]) (rest := [.int x2]) (wc := wC ty adC vC) (w1 := wC ty adC vC) (wn := wC ty adC vC) ⟨hx, hb, hml, hown, hts⟩ (cX0_yearsOf_ok l D ty adC H.size vC x3 vC.2.2.1 vC.2.2.2.1  r28 e28) (cwV 3 hts gX0_residualOf_X0_yearsOf rfl rfl rfl (by decide +kernel) ⟨Nat.le_of_ble_eq_true rfl, Nat.le_of_ble_eq_true rfl⟩) hP hK hD hS hA [0, 1, 2, 3, 4, 5, 6, 7] (by decide +kernel) rfl 0 0 rfl rfl rfl rfl hl.1 rfl (Nat.le_of_ble_eq_true rfl) dX0_residualOf_28 ⟨Nat.le_of_ble_eq_true rfl, Nat.le_of_ble_eq_true rfl⟩ rfl rfl (fun H locs hP hD hS => ?_)
        refine lv_iadd hx hb dX0_residualOf_31 ?_
        refine lv_istore_n (lv' := [(2, .int (x2 + r28)), (0, .ref (adC 0)), (1, .int x1), (3, .int x3)]) hx hb dX0_residualOf_32 rfl hl (by decide) rfl (fun ls hl => ?_)
        refine lv_iinc (v := (x3 + 1)) (lv' := [(3, .int (x3 + 1)), (2, .int (x2 + r28)), (0, .ref (adC 0)), (1, .int x1)]) hx hb dX0_residualOf_33 hl (k := 3) rfl rfl (by decide) rfl (fun ls hl => ?_)
        refine lv_goto (tgt := 4) hx hb dX0_residualOf_36 (by decide) ?_
        exact hn4 (x2 + r28) (x3 + 1) h H locs ls hP hD hS (lv_sub hl [2, 3, 1, 0] rfl)
  have L4 : ∀ (x1 : Int32) (n : Nat) (x2 : Int32) (x3 : Int32), kLoopC n (fun q nx4 => fX0_residualOf_c4 vC x1 q.1 q.2 nx4) (x2, x3) = some res → ∀ (H : Heap) (locs : List Loc) (ls : Array Slot), va_P D vwCl (wC ty adC vC) H → va_D A (wC ty adC vC) → va_S A s.heap H locs → lv_has ls 4 [(0, .ref (adC 0)), (1, .int x1), (2, .int x2), (3, .int x3)] → W p l e (headSpec wsX0_residualOf { frames := 3, cells := 0, slots := 0, locals := 82 }).room s m ([.ref (adC 0), .int p1] : List Value).toArray below meth c H locs 0 0 Q (F0 m 4 ls []) := by
    intro x1 n
    induction n with
    | zero => intro x2 x3 h; exact absurd h (by simp [kLoopC])
    | succ n ih => intro x2 x3 h; exact B4 x1 (kLoopC n (fun q nx4 => fX0_residualOf_c4 vC x1 q.1 q.2 nx4)) ih x2 x3 h
  have hl := lv_entry ([.ref (adC 0), .int p1]) (n := 4) (Nat.le_of_ble_eq_true rfl)
  rw [lg_entry_eq]
  generalize (lg_sl ([.ref (adC 0), .int p1]) ++ List.replicate (4 - (lg_sl ([.ref (adC 0), .int p1])).length) Slot.unset).toArray = ls at hl ⊢
  have hl : lv_has ls 4 [(0, .ref (adC 0)), (1, .int p1)] := hl
  unfold fX0_residualOf at h
  have E0 : ∀ (H : Heap) (locs : List Loc) (ls : Array Slot), va_P D vwCl (wC ty adC vC) H → va_D A (wC ty adC vC) → va_S A s.heap H locs → lv_has ls 4 [(0, .ref (adC 0)), (1, .int p1)] → W p l e (headSpec wsX0_residualOf { frames := 3, cells := 0, slots := 0, locals := 82 }).room s m ([.ref (adC 0), .int p1] : List Value).toArray below meth c H locs 0 0 Q (F0 m 0 ls []) := by
    intro H locs ls hP hD hS hl
    refine lv_iconst (v := 0) hx hb dX0_residualOf_0 (by decide) ?_
    refine lv_istore_n (lv' := [(2, .int (0 : Int32)), (0, .ref (adC 0)), (1, .int p1)]) hx hb dX0_residualOf_1 rfl hl (by decide) rfl (fun ls hl => ?_)
    refine lv_iconst (v := 0) hx hb dX0_residualOf_2 (by decide) ?_
    refine lv_istore_n (lv' := [(3, .int (0 : Int32)), (2, .int (0 : Int32)), (0, .ref (adC 0)), (1, .int p1)]) hx hb dX0_residualOf_3 rfl hl (by decide) rfl (fun ls hl => ?_)
    exact L4 p1  kFu (0 : Int32) (0 : Int32) h H locs ls hP hD hS (lv_sub hl [2, 3, 1, 0] rfl)
  exact E0 s.heap [] ls hP hD hS hl
def fX0_fittingBeds_c6 (vC : KC) (x1 : Int32) (x2 : Int32) (x3 : Int32) (nx6 : Int32 × Int32 × Int32 → Option (Int32)) : Option (Int32) := if vC.1 ≤ x3 then some x2 else ((fX0_yearsOf vC x3 vC.2.2.1 vC.2.2.2.1).bind fun r25 => (fX0_hasAsh vC x3).bind fun r32 => if r32 = (0 : Int32) then (nx6 ((x1 + r25), x2, (x3 + 1))) else (if kIn x3 16 = true then (if kIn x3 16 = true then (if (vC.2.2.2.2.2.2.2.2.2.2.1 x3.toNatClampNeg) < (if 0 ≤ ((x1 + r25) - (vC.2.2.2.2.2.2.2.2.2.1 x3.toNatClampNeg)) then ((x1 + r25) - (vC.2.2.2.2.2.2.2.2.2.1 x3.toNatClampNeg)) else 0 - ((x1 + r25) - (vC.2.2.2.2.2.2.2.2.2.1 x3.toNatClampNeg))) then (nx6 ((x1 + r25), x2, (x3 + 1))) else (nx6 ((x1 + r25), (x2 + 1), (x3 + 1)))) else none) else none))
def fX0_fittingBeds (vC : KC) : Option (Int32) := kLoopC kFu (fun q nx6 => fX0_fittingBeds_c6 vC q.1 q.2.1 q.2.2 nx6) ((0 : Int32), (0 : Int32), (0 : Int32))
set_option maxHeartbeats 4000000 in
set_option maxRecDepth 100000 in
theorem cX0_fittingBeds_ok (l : Launch) (D : va_G) (ty : kTy) (adC : Nat → Nat) (sz : Nat) (vC : KC)  (res : Int32) (h : fX0_fittingBeds vC = some res) : kMI l yX0_fittingBeds wsX0_fittingBeds { frames := 3, cells := 0, slots := 0, locals := 82 } [.ref (adC 0)] D ty (wC ty adC vC) sz res (wC ty adC vC) := by
  refine Met.ofW (cc := cX0_fittingBeds) (maxL := 4) (ret := (some .int)) (by decide) rfl ?_
  intro p e s m args below meth c s₁ B hml hv
  obtain ⟨rfl, hsz, hP, hK, hD0⟩ := hv
  have hx := B.exec
  have hb := B.bytes
  have hr := B.returns
  have hts := atoms_spec (ws := wsX0_fittingBeds) B.pre
  have hown : s.vm.findClass RX0 = some m.cls := findClass_of_methodNamed B.named
  have hlocks := B.notSynchronized
  subst hsz
  have hD := hD0.self (sz := s.heap.size)
  generalize hAe : va_A (wC ty adC vC) s.heap.size = A at hD ⊢
  have hA : ∀ q : Nat, s.heap.size ≤ q → A q := fun q h => by rw [← hAe]; exact Or.inr h
  have hS : va_S A s.heap s.heap [] := va_S.rf
  refine kGenW (fun Q hQ => ?_)
  have wf0 := hts (.fieldLink RX0 9 "IceCoreDater$Core" "size" "I") (by decide +kernel)
  have hinX0 : ∀ w ∈ wsX00, w ∈ wsX0_fittingBeds := by decide +kernel
  have wf2 := hts (.fieldLink RX0 19 "IceCoreDater$Core" "function" "I") (by decide +kernel)
  have wf3 := hts (.fieldLink RX0 22 "IceCoreDater$Core" "kink" "I") (by decide +kernel)
  have wf4 := hts (.fieldLink RX0 41 "IceCoreDater$Core" "ashAge" "[I") (by decide +kernel)
  have wf5 := hts (.methodLink RX0 122 Lib.Math.abs.name) (by decide +kernel)
  have wf6 := hts (.static Lib.Math.abs.name) (by decide +kernel)
  have wf7 := hts (.initialized "java/lang/Math") (by decide +kernel)
  have wf8 := hts (.code Lib.Math.abs.name Lib.Math.abs.code 1 (some .int)) (by decide +kernel)
  have wf9 := hts (.fieldLink RX0 44 "IceCoreDater$Core" "ashTolerance" "[I") (by decide +kernel)
  have B6 : ∀ (nx6 : Int32 × Int32 × Int32 → Option (Int32)) (hn6 : ∀ (x1 : Int32) (x2 : Int32) (x3 : Int32), nx6 (x1, x2, x3) = some res → ∀ (H : Heap) (locs : List Loc) (ls : Array Slot), va_P D vwCl (wC ty adC vC) H → va_D A (wC ty adC vC) → va_S A s.heap H locs → lv_has ls 4 [(0, .ref (adC 0)), (1, .int x1), (2, .int x2), (3, .int x3)] → W p l e (headSpec wsX0_fittingBeds { frames := 3, cells := 0, slots := 0, locals := 82 }).room s m ([.ref (adC 0)] : List Value).toArray below meth c H locs 0 0 Q (F0 m 6 ls [])) (x1 : Int32) (x2 : Int32) (x3 : Int32), fX0_fittingBeds_c6 vC x1 x2 x3 nx6 = some res → ∀ (H : Heap) (locs : List Loc) (ls : Array Slot), va_P D vwCl (wC ty adC vC) H → va_D A (wC ty adC vC) → va_S A s.heap H locs → lv_has ls 4 [(0, .ref (adC 0)), (1, .int x1), (2, .int x2), (3, .int x3)] → W p l e (headSpec wsX0_fittingBeds { frames := 3, cells := 0, slots := 0, locals := 82 }).room s m ([.ref (adC 0)] : List Value).toArray below meth c H locs 0 0 Q (F0 m 6 ls []) := by
    intro  nx6 hn6 x1 x2 x3 h H locs ls hP hD hS hl
    unfold fX0_fittingBeds_c6 at h
    refine lv_iload_n hx hb dX0_fittingBeds_6 rfl (lv_at hl 3 rfl) ?_
    refine lv_aload_n hx hb dX0_fittingBeds_7 rfl (lv_at hl 0 rfl) ?_
    refine va_get (D := D) (ci := 0) (v := .int vC.1) (C := RX0) (T := TX0) (N := 12) hx hb hts hinX0 hown hK.1 hP 0 rfl rfl 0 (by decide) wf0 (fun _ h9 => h9) rfl dX0_fittingBeds_8 ?_
    refine lv_icmp_ge (tgt := 67) hx hb dX0_fittingBeds_11 (by decide) (fun c11 => ?_) (fun c11 => ?_)
    · have h := kT h c11
      refine lv_iload_n hx hb dX0_fittingBeds_67 rfl (lv_at hl 2 rfl) ?_
      obtain rfl := Option.some.inj h
      subst hQ
      exact W.iret (v := x2) hx hb hr (fun t ht hW => ⟨⟨x2, (), rfl, rfl, kEnd ht hP⟩, hS.F ht⟩) hS.2.2 dX0_fittingBeds_68
    · have h := kF h c11
      refine lv_iload_n hx hb dX0_fittingBeds_14 rfl (lv_at hl 1 rfl) ?_
      refine lv_aload_n hx hb dX0_fittingBeds_15 rfl (lv_at hl 0 rfl) ?_
      refine lv_iload_n hx hb dX0_fittingBeds_16 rfl (lv_at hl 3 rfl) ?_
      refine lv_aload_n hx hb dX0_fittingBeds_17 rfl (lv_at hl 0 rfl) ?_
      refine va_get (D := D) (ci := 0) (v := .int vC.2.2.1) (C := RX0) (T := TX0) (N := 12) hx hb hts hinX0 hown hK.1 hP 0 rfl rfl 2 (by decide) wf2 (fun _ h9 => h9) rfl dX0_fittingBeds_18 ?_
      refine lv_aload_n hx hb dX0_fittingBeds_21 rfl (lv_at hl 0 rfl) ?_
      refine va_get (D := D) (ci := 0) (v := .int vC.2.2.2.1) (C := RX0) (T := TX0) (N := 12) hx hb hts hinX0 hown hK.1 hP 0 rfl rfl 3 (by decide) wf3 (fun _ h9 => h9) rfl dX0_fittingBeds_22 ?_
      obtain ⟨r25, e25, h⟩ := kBd h
      refine kCallVI (As := [.int x3, .int vC.2.2.1, .int vC.2.2.2.1]) (rest := [.int x1]) (wc := wC ty adC vC) (w1 := wC ty adC vC) (wn := wC ty adC vC) ⟨hx, hb, hml, hown, hts⟩ (cX0_yearsOf_ok l D ty adC H.size vC x3 vC.2.2.1 vC.2.2.2.1  r25 e25) (cwV 3 hts gX0_fittingBeds_X0_yearsOf rfl rfl rfl (by decide +kernel) ⟨Nat.le_of_ble_eq_true rfl, Nat.le_of_ble_eq_true rfl⟩) hP hK hD hS hA [0, 1, 2, 3, 4, 5, 6, 7] (by decide +kernel) rfl 0 0 rfl rfl rfl rfl hl.1 rfl (Nat.le_of_ble_eq_true rfl) dX0_fittingBeds_25 ⟨Nat.le_of_ble_eq_true rfl, Nat.le_of_ble_eq_true rfl⟩ rfl rfl (fun H locs hP hD hS => ?_)
      refine lv_iadd hx hb dX0_fittingBeds_28 ?_
      refine lv_istore_n (lv' := [(1, .int (x1 + r25)), (0, .ref (adC 0)), (2, .int x2), (3, .int x3)]) hx hb dX0_fittingBeds_29 rfl hl (by decide) rfl (fun ls hl => ?_)
      refine lv_aload_n hx hb dX0_fittingBeds_30 rfl (lv_at hl 1 rfl) ?_
      refine lv_iload_n hx hb dX0_fittingBeds_31 rfl (lv_at hl 3 rfl) ?_
      obtain ⟨r32, e32, h⟩ := kBd h
      refine kCallVI (As := [.int x3]) (rest := []) (wc := wC ty adC vC) (w1 := wC ty adC vC) (wn := wC ty adC vC) ⟨hx, hb, hml, hown, hts⟩ (cX0_hasAsh_ok l D ty adC H.size vC x3  r32 e32) (cwV 1 hts gX0_fittingBeds_X0_hasAsh rfl rfl rfl (by decide +kernel) ⟨Nat.le_of_ble_eq_true rfl, Nat.le_of_ble_eq_true rfl⟩) hP hK hD hS hA [0, 1, 2, 3, 4, 5, 6, 7] (by decide +kernel) rfl 0 0 rfl rfl rfl rfl hl.1 rfl (Nat.le_of_ble_eq_true rfl) dX0_fittingBeds_32 ⟨Nat.le_of_ble_eq_true rfl, Nat.le_of_ble_eq_true rfl⟩ rfl rfl (fun H locs hP hD hS => ?_)
      refine lv_if_eq (tgt := 61) hx hb dX0_fittingBeds_35 (by decide) (fun c35 => ?_) (fun c35 => ?_)
      · have h := kT h c35
        refine lv_iinc (v := (x3 + 1)) (lv' := [(3, .int (x3 + 1)), (1, .int (x1 + r25)), (0, .ref (adC 0)), (2, .int x2)]) hx hb dX0_fittingBeds_61 hl (k := 3) rfl rfl (by decide) rfl (fun ls hl => ?_)
        refine lv_goto (tgt := 6) hx hb dX0_fittingBeds_64 (by decide) ?_
        exact hn6 (x1 + r25) x2 (x3 + 1) h H locs ls hP hD hS (lv_sub hl [2, 1, 3, 0] rfl)
      · have h := kF h c35
        refine lv_iload_n hx hb dX0_fittingBeds_38 rfl (lv_at hl 0 rfl) ?_
        refine lv_aload_n hx hb dX0_fittingBeds_39 rfl (lv_at hl 1 rfl) ?_
        refine va_get (D := D) (ci := 0) (v := .ref (adC 5)) (C := RX0) (T := TX0) (N := 12) hx hb hts hinX0 hown hK.1 hP 0 rfl rfl 9 (by decide) wf4 (fun _ h9 => h9) rfl dX0_fittingBeds_40 ?_
        refine lv_iload_n hx hb dX0_fittingBeds_43 rfl (lv_at hl 3 rfl) ?_
        obtain ⟨b44, h⟩ := kIf h
        refine va_iald (f := vC.2.2.2.2.2.2.2.2.2.1) (n := 16) hx hb hK.1 hP 5 0 rfl rfl (kIn_ok b44) dX0_fittingBeds_44 ?_
        refine lv_isub hx hb dX0_fittingBeds_45 ?_
        refine va_mabs hx hb (hml.trans hl.1.symm) hown wf5 wf6 wf7 wf8 (Nat.le_of_ble_eq_true rfl) (Nat.le_of_ble_eq_true rfl) (Nat.le_of_ble_eq_true rfl) (Nat.le_of_ble_eq_true rfl) dX0_fittingBeds_46 ?_
        refine lv_aload_n hx hb dX0_fittingBeds_49 rfl (lv_at hl 1 rfl) ?_
        refine va_get (D := D) (ci := 0) (v := .ref (adC 6)) (C := RX0) (T := TX0) (N := 12) hx hb hts hinX0 hown hK.1 hP 0 rfl rfl 10 (by decide) wf9 (fun _ h9 => h9) rfl dX0_fittingBeds_50 ?_
        refine lv_iload_n hx hb dX0_fittingBeds_53 rfl (lv_at hl 3 rfl) ?_
        obtain ⟨b54, h⟩ := kIf h
        refine va_iald (f := vC.2.2.2.2.2.2.2.2.2.2.1) (n := 16) hx hb hK.1 hP 6 0 rfl rfl (kIn_ok b54) dX0_fittingBeds_54 ?_
        refine lv_icmp_gt (tgt := 61) hx hb dX0_fittingBeds_55 (by decide) (fun c55 => ?_) (fun c55 => ?_)
        · have h := kT h c55
          refine lv_iinc (v := (x3 + 1)) (lv' := [(3, .int (x3 + 1)), (1, .int (x1 + r25)), (0, .ref (adC 0)), (2, .int x2)]) hx hb dX0_fittingBeds_61 hl (k := 3) rfl rfl (by decide) rfl (fun ls hl => ?_)
          refine lv_goto (tgt := 6) hx hb dX0_fittingBeds_64 (by decide) ?_
          exact hn6 (x1 + r25) x2 (x3 + 1) h H locs ls hP hD hS (lv_sub hl [2, 1, 3, 0] rfl)
        · have h := kF h c55
          refine lv_iinc (v := (x2 + 1)) (lv' := [(2, .int (x2 + 1)), (1, .int (x1 + r25)), (0, .ref (adC 0)), (3, .int x3)]) hx hb dX0_fittingBeds_58 hl (k := 2) rfl rfl (by decide) rfl (fun ls hl => ?_)
          refine lv_iinc (v := (x3 + 1)) (lv' := [(3, .int (x3 + 1)), (2, .int (x2 + 1)), (1, .int (x1 + r25)), (0, .ref (adC 0))]) hx hb dX0_fittingBeds_61 hl (k := 3) rfl rfl (by decide) rfl (fun ls hl => ?_)
          refine lv_goto (tgt := 6) hx hb dX0_fittingBeds_64 (by decide) ?_
          exact hn6 (x1 + r25) (x2 + 1) (x3 + 1) h H locs ls hP hD hS (lv_sub hl [3, 2, 1, 0] rfl)
  have L6 : ∀  (n : Nat) (x1 : Int32) (x2 : Int32) (x3 : Int32), kLoopC n (fun q nx6 => fX0_fittingBeds_c6 vC q.1 q.2.1 q.2.2 nx6) (x1, x2, x3) = some res → ∀ (H : Heap) (locs : List Loc) (ls : Array Slot), va_P D vwCl (wC ty adC vC) H → va_D A (wC ty adC vC) → va_S A s.heap H locs → lv_has ls 4 [(0, .ref (adC 0)), (1, .int x1), (2, .int x2), (3, .int x3)] → W p l e (headSpec wsX0_fittingBeds { frames := 3, cells := 0, slots := 0, locals := 82 }).room s m ([.ref (adC 0)] : List Value).toArray below meth c H locs 0 0 Q (F0 m 6 ls []) := by
    intro  n
    induction n with
    | zero => intro x1 x2 x3 h; exact absurd h (by simp [kLoopC])
    | succ n ih => intro x1 x2 x3 h; exact B6  (kLoopC n (fun q nx6 => fX0_fittingBeds_c6 vC q.1 q.2.1 q.2.2 nx6)) ih x1 x2 x3 h
  have hl := lv_entry ([.ref (adC 0)]) (n := 4) (Nat.le_of_ble_eq_true rfl)
  rw [lg_entry_eq]
  generalize (lg_sl ([.ref (adC 0)]) ++ List.replicate (4 - (lg_sl ([.ref (adC 0)])).length) Slot.unset).toArray = ls at hl ⊢
  have hl : lv_has ls 4 [(0, .ref (adC 0))] := hl
  unfold fX0_fittingBeds at h
  have E0 : ∀ (H : Heap) (locs : List Loc) (ls : Array Slot), va_P D vwCl (wC ty adC vC) H → va_D A (wC ty adC vC) → va_S A s.heap H locs → lv_has ls 4 [(0, .ref (adC 0))] → W p l e (headSpec wsX0_fittingBeds { frames := 3, cells := 0, slots := 0, locals := 82 }).room s m ([.ref (adC 0)] : List Value).toArray below meth c H locs 0 0 Q (F0 m 0 ls []) := by
    intro H locs ls hP hD hS hl
    refine lv_iconst (v := 0) hx hb dX0_fittingBeds_0 (by decide) ?_
    refine lv_istore_n (lv' := [(1, .int (0 : Int32)), (0, .ref (adC 0))]) hx hb dX0_fittingBeds_1 rfl hl (by decide) rfl (fun ls hl => ?_)
    refine lv_iconst (v := 0) hx hb dX0_fittingBeds_2 (by decide) ?_
    refine lv_istore_n (lv' := [(2, .int (0 : Int32)), (1, .int (0 : Int32)), (0, .ref (adC 0))]) hx hb dX0_fittingBeds_3 rfl hl (by decide) rfl (fun ls hl => ?_)
    refine lv_iconst (v := 0) hx hb dX0_fittingBeds_4 (by decide) ?_
    refine lv_istore_n (lv' := [(3, .int (0 : Int32)), (2, .int (0 : Int32)), (1, .int (0 : Int32)), (0, .ref (adC 0))]) hx hb dX0_fittingBeds_5 rfl hl (by decide) rfl (fun ls hl => ?_)
    exact L6   kFu (0 : Int32) (0 : Int32) (0 : Int32) h H locs ls hP hD hS (lv_sub hl [3, 2, 1, 0] rfl)
  exact E0 s.heap [] ls hP hD hS hl
def fX0_misfit_c8 (vC : KC) (x1 : Int32) (x2 : Int32) (x3 : Int32) (x4 : Int64) (x6 : Int32) (nx8 : Int32 × Int64 × Int32 → Option (Int64)) : Option (Int64) := if vC.1 ≤ x6 then some x4 else ((fX0_yearsOf vC x6 x1 x2).bind fun r23 => (fX0_hasAsh vC x6).bind fun r31 => if r31 = (0 : Int32) then (nx8 ((x3 + r23), x4, (x6 + 1))) else (if kIn x6 16 = true then ((some (x4 + (if 0 ≤ ((x3 + r23) - (vC.2.2.2.2.2.2.2.2.2.1 x6.toNatClampNeg)) then ((x3 + r23) - (vC.2.2.2.2.2.2.2.2.2.1 x6.toNatClampNeg)) else 0 - ((x3 + r23) - (vC.2.2.2.2.2.2.2.2.2.1 x6.toNatClampNeg))).toInt64)).bind fun y53 => nx8 ((x3 + r23), y53, (x6 + 1))) else none))
def fX0_misfit (vC : KC) (p1 : Int32) (p2 : Int32) : Option (Int64) := kLoopC kFu (fun q nx8 => fX0_misfit_c8 vC p1 p2 q.1 q.2.1 q.2.2 nx8) ((0 : Int32), (0 : Int64), (0 : Int32))
set_option maxHeartbeats 4000000 in
set_option maxRecDepth 100000 in
theorem cX0_misfit_ok (l : Launch) (D : va_G) (ty : kTy) (adC : Nat → Nat) (sz : Nat) (vC : KC) (p1 : Int32) (p2 : Int32)  (res : Int64) (h : fX0_misfit vC p1 p2 = some res) : kML l yX0_misfit wsX0_misfit { frames := 3, cells := 0, slots := 0, locals := 82 } [.ref (adC 0), .int p1, .int p2] D ty (wC ty adC vC) sz res (wC ty adC vC) := by
  refine Met.ofW (cc := cX0_misfit) (maxL := 7) (ret := (some .long)) (by decide) rfl ?_
  intro p e s m args below meth c s₁ B hml hv
  obtain ⟨rfl, hsz, hP, hK, hD0⟩ := hv
  have hx := B.exec
  have hb := B.bytes
  have hr := B.returns
  have hts := atoms_spec (ws := wsX0_misfit) B.pre
  have hown : s.vm.findClass RX0 = some m.cls := findClass_of_methodNamed B.named
  have hlocks := B.notSynchronized
  subst hsz
  have hD := hD0.self (sz := s.heap.size)
  generalize hAe : va_A (wC ty adC vC) s.heap.size = A at hD ⊢
  have hA : ∀ q : Nat, s.heap.size ≤ q → A q := fun q h => by rw [← hAe]; exact Or.inr h
  have hS : va_S A s.heap s.heap [] := va_S.rf
  refine kGenW (fun Q hQ => ?_)
  have wf0 := hts (.fieldLink RX0 9 "IceCoreDater$Core" "size" "I") (by decide +kernel)
  have hinX0 : ∀ w ∈ wsX00, w ∈ wsX0_misfit := by decide +kernel
  have wf2 := hts (.fieldLink RX0 41 "IceCoreDater$Core" "ashAge" "[I") (by decide +kernel)
  have wf3 := hts (.methodLink RX0 122 Lib.Math.abs.name) (by decide +kernel)
  have wf4 := hts (.static Lib.Math.abs.name) (by decide +kernel)
  have wf5 := hts (.initialized "java/lang/Math") (by decide +kernel)
  have wf6 := hts (.code Lib.Math.abs.name Lib.Math.abs.code 1 (some .int)) (by decide +kernel)
  have B8 : ∀ (x1 : Int32) (x2 : Int32) (nx8 : Int32 × Int64 × Int32 → Option (Int64)) (hn8 : ∀ (x3 : Int32) (x4 : Int64) (x6 : Int32), nx8 (x3, x4, x6) = some res → ∀ (H : Heap) (locs : List Loc) (ls : Array Slot), va_P D vwCl (wC ty adC vC) H → va_D A (wC ty adC vC) → va_S A s.heap H locs → lv_has ls 7 [(0, .ref (adC 0)), (1, .int x1), (2, .int x2), (3, .int x3), (4, .long x4), (6, .int x6)] → W p l e (headSpec wsX0_misfit { frames := 3, cells := 0, slots := 0, locals := 82 }).room s m ([.ref (adC 0), .int p1, .int p2] : List Value).toArray below meth c H locs 0 0 Q (F0 m 8 ls [])) (x3 : Int32) (x4 : Int64) (x6 : Int32), fX0_misfit_c8 vC x1 x2 x3 x4 x6 nx8 = some res → ∀ (H : Heap) (locs : List Loc) (ls : Array Slot), va_P D vwCl (wC ty adC vC) H → va_D A (wC ty adC vC) → va_S A s.heap H locs → lv_has ls 7 [(0, .ref (adC 0)), (1, .int x1), (2, .int x2), (3, .int x3), (4, .long x4), (6, .int x6)] → W p l e (headSpec wsX0_misfit { frames := 3, cells := 0, slots := 0, locals := 82 }).room s m ([.ref (adC 0), .int p1, .int p2] : List Value).toArray below meth c H locs 0 0 Q (F0 m 8 ls []) := by
    intro x1 x2 nx8 hn8 x3 x4 x6 h H locs ls hP hD hS hl
    unfold fX0_misfit_c8 at h
    refine lv_iload hx hb dX0_misfit_8 (lv_at hl 5 rfl) ?_
    refine lv_aload_n hx hb dX0_misfit_10 rfl (lv_at hl 0 rfl) ?_
    refine va_get (D := D) (ci := 0) (v := .int vC.1) (C := RX0) (T := TX0) (N := 12) hx hb hts hinX0 hown hK.1 hP 0 rfl rfl 0 (by decide) wf0 (fun _ h9 => h9) rfl dX0_misfit_11 ?_
    refine lv_icmp_ge (tgt := 61) hx hb dX0_misfit_14 (by decide) (fun c14 => ?_) (fun c14 => ?_)
    · have h := kT h c14
      refine lv_lload hx hb dX0_misfit_61 (lv_at hl 4 rfl) ?_
      obtain rfl := Option.some.inj h
      subst hQ
      exact W.lret (v := x4) hx hb hr (fun t ht hW => ⟨⟨x4, (), rfl, rfl, kEnd ht hP⟩, hS.F ht⟩) hS.2.2 dX0_misfit_63
    · have h := kF h c14
      refine lv_iload_n hx hb dX0_misfit_17 rfl (lv_at hl 3 rfl) ?_
      refine lv_aload_n hx hb dX0_misfit_18 rfl (lv_at hl 0 rfl) ?_
      refine lv_iload hx hb dX0_misfit_19 (lv_at hl 5 rfl) ?_
      refine lv_iload_n hx hb dX0_misfit_21 rfl (lv_at hl 1 rfl) ?_
      refine lv_iload_n hx hb dX0_misfit_22 rfl (lv_at hl 2 rfl) ?_
      obtain ⟨r23, e23, h⟩ := kBd h
      refine kCallVI (As := [.int x6, .int x1, .int x2]) (rest := [.int x3]) (wc := wC ty adC vC) (w1 := wC ty adC vC) (wn := wC ty adC vC) ⟨hx, hb, hml, hown, hts⟩ (cX0_yearsOf_ok l D ty adC H.size vC x6 x1 x2  r23 e23) (cwV 3 hts gX0_misfit_X0_yearsOf rfl rfl rfl (by decide +kernel) ⟨Nat.le_of_ble_eq_true rfl, Nat.le_of_ble_eq_true rfl⟩) hP hK hD hS hA [0, 1, 2, 3, 4, 5, 6, 7] (by decide +kernel) rfl 0 0 rfl rfl rfl rfl hl.1 rfl (Nat.le_of_ble_eq_true rfl) dX0_misfit_23 ⟨Nat.le_of_ble_eq_true rfl, Nat.le_of_ble_eq_true rfl⟩ rfl rfl (fun H locs hP hD hS => ?_)
      refine lv_iadd hx hb dX0_misfit_26 ?_
      refine lv_istore_n (lv' := [(3, .int (x3 + r23)), (0, .ref (adC 0)), (1, .int x1), (2, .int x2), (4, .long x4), (6, .int x6)]) hx hb dX0_misfit_27 rfl hl (by decide) rfl (fun ls hl => ?_)
      refine lv_aload_n hx hb dX0_misfit_28 rfl (lv_at hl 1 rfl) ?_
      refine lv_iload hx hb dX0_misfit_29 (lv_at hl 5 rfl) ?_
      obtain ⟨r31, e31, h⟩ := kBd h
      refine kCallVI (As := [.int x6]) (rest := []) (wc := wC ty adC vC) (w1 := wC ty adC vC) (wn := wC ty adC vC) ⟨hx, hb, hml, hown, hts⟩ (cX0_hasAsh_ok l D ty adC H.size vC x6  r31 e31) (cwV 1 hts gX0_misfit_X0_hasAsh rfl rfl rfl (by decide +kernel) ⟨Nat.le_of_ble_eq_true rfl, Nat.le_of_ble_eq_true rfl⟩) hP hK hD hS hA [0, 1, 2, 3, 4, 5, 6, 7] (by decide +kernel) rfl 0 0 rfl rfl rfl rfl hl.1 rfl (Nat.le_of_ble_eq_true rfl) dX0_misfit_31 ⟨Nat.le_of_ble_eq_true rfl, Nat.le_of_ble_eq_true rfl⟩ rfl rfl (fun H locs hP hD hS => ?_)
      refine lv_if_eq (tgt := 55) hx hb dX0_misfit_34 (by decide) (fun c34 => ?_) (fun c34 => ?_)
      · have h := kT h c34
        refine lv_iinc (v := (x6 + 1)) (lv' := [(6, .int (x6 + 1)), (3, .int (x3 + r23)), (0, .ref (adC 0)), (1, .int x1), (2, .int x2), (4, .long x4)]) hx hb dX0_misfit_55 hl (k := 5) rfl rfl (by decide) rfl (fun ls hl => ?_)
        refine lv_goto (tgt := 8) hx hb dX0_misfit_58 (by decide) ?_
        exact hn8 (x3 + r23) x4 (x6 + 1) h H locs ls hP hD hS (lv_sub hl [2, 3, 4, 1, 5, 0] rfl)
      · have h := kF h c34
        refine lv_lload hx hb dX0_misfit_37 (lv_at hl 4 rfl) ?_
        refine lv_iload_n hx hb dX0_misfit_39 rfl (lv_at hl 0 rfl) ?_
        refine lv_aload_n hx hb dX0_misfit_40 rfl (lv_at hl 1 rfl) ?_
        refine va_get (D := D) (ci := 0) (v := .ref (adC 5)) (C := RX0) (T := TX0) (N := 12) hx hb hts hinX0 hown hK.1 hP 0 rfl rfl 9 (by decide) wf2 (fun _ h9 => h9) rfl dX0_misfit_41 ?_
        refine lv_iload hx hb dX0_misfit_44 (lv_at hl 5 rfl) ?_
        obtain ⟨b46, h⟩ := kIf h
        refine va_iald (f := vC.2.2.2.2.2.2.2.2.2.1) (n := 16) hx hb hK.1 hP 5 0 rfl rfl (kIn_ok b46) dX0_misfit_46 ?_
        refine lv_isub hx hb dX0_misfit_47 ?_
        refine va_mabs hx hb (hml.trans hl.1.symm) hown wf3 wf4 wf5 wf6 (Nat.le_of_ble_eq_true rfl) (Nat.le_of_ble_eq_true rfl) (Nat.le_of_ble_eq_true rfl) (Nat.le_of_ble_eq_true rfl) dX0_misfit_48 ?_
        refine lv_i2l hx hb dX0_misfit_51 rfl ?_
        refine lv_ladd hx hb dX0_misfit_52 ?_
        refine lv_topl (fun y53 ey53 => ?_)
        have h := kBs h ey53
        refine lv_lstore (lv' := [(4, .long y53), (3, .int (x3 + r23)), (0, .ref (adC 0)), (1, .int x1), (2, .int x2), (6, .int x6)]) hx hb dX0_misfit_53 hl (by decide) rfl (fun ls hl => ?_)
        refine lv_iinc (v := (x6 + 1)) (lv' := [(6, .int (x6 + 1)), (4, .long y53), (3, .int (x3 + r23)), (0, .ref (adC 0)), (1, .int x1), (2, .int x2)]) hx hb dX0_misfit_55 hl (k := 5) rfl rfl (by decide) rfl (fun ls hl => ?_)
        refine lv_goto (tgt := 8) hx hb dX0_misfit_58 (by decide) ?_
        exact hn8 (x3 + r23) y53 (x6 + 1) h H locs ls hP hD hS (lv_sub hl [3, 4, 5, 2, 1, 0] rfl)
  have L8 : ∀ (x1 : Int32) (x2 : Int32) (n : Nat) (x3 : Int32) (x4 : Int64) (x6 : Int32), kLoopC n (fun q nx8 => fX0_misfit_c8 vC x1 x2 q.1 q.2.1 q.2.2 nx8) (x3, x4, x6) = some res → ∀ (H : Heap) (locs : List Loc) (ls : Array Slot), va_P D vwCl (wC ty adC vC) H → va_D A (wC ty adC vC) → va_S A s.heap H locs → lv_has ls 7 [(0, .ref (adC 0)), (1, .int x1), (2, .int x2), (3, .int x3), (4, .long x4), (6, .int x6)] → W p l e (headSpec wsX0_misfit { frames := 3, cells := 0, slots := 0, locals := 82 }).room s m ([.ref (adC 0), .int p1, .int p2] : List Value).toArray below meth c H locs 0 0 Q (F0 m 8 ls []) := by
    intro x1 x2 n
    induction n with
    | zero => intro x3 x4 x6 h; exact absurd h (by simp [kLoopC])
    | succ n ih => intro x3 x4 x6 h; exact B8 x1 x2 (kLoopC n (fun q nx8 => fX0_misfit_c8 vC x1 x2 q.1 q.2.1 q.2.2 nx8)) ih x3 x4 x6 h
  have hl := lv_entry ([.ref (adC 0), .int p1, .int p2]) (n := 7) (Nat.le_of_ble_eq_true rfl)
  rw [lg_entry_eq]
  generalize (lg_sl ([.ref (adC 0), .int p1, .int p2]) ++ List.replicate (7 - (lg_sl ([.ref (adC 0), .int p1, .int p2])).length) Slot.unset).toArray = ls at hl ⊢
  have hl : lv_has ls 7 [(0, .ref (adC 0)), (1, .int p1), (2, .int p2)] := hl
  unfold fX0_misfit at h
  have E0 : ∀ (H : Heap) (locs : List Loc) (ls : Array Slot), va_P D vwCl (wC ty adC vC) H → va_D A (wC ty adC vC) → va_S A s.heap H locs → lv_has ls 7 [(0, .ref (adC 0)), (1, .int p1), (2, .int p2)] → W p l e (headSpec wsX0_misfit { frames := 3, cells := 0, slots := 0, locals := 82 }).room s m ([.ref (adC 0), .int p1, .int p2] : List Value).toArray below meth c H locs 0 0 Q (F0 m 0 ls []) := by
    intro H locs ls hP hD hS hl
    refine lv_iconst (v := 0) hx hb dX0_misfit_0 (by decide) ?_
    refine lv_istore_n (lv' := [(3, .int (0 : Int32)), (0, .ref (adC 0)), (1, .int p1), (2, .int p2)]) hx hb dX0_misfit_1 rfl hl (by decide) rfl (fun ls hl => ?_)
    refine lv_lconst (v := 0) hx hb dX0_misfit_2 (by decide) ?_
    refine lv_lstore (lv' := [(4, .long (0 : Int64)), (3, .int (0 : Int32)), (0, .ref (adC 0)), (1, .int p1), (2, .int p2)]) hx hb dX0_misfit_3 hl (by decide) rfl (fun ls hl => ?_)
    refine lv_iconst (v := 0) hx hb dX0_misfit_5 (by decide) ?_
    refine lv_istore (lv' := [(6, .int (0 : Int32)), (4, .long (0 : Int64)), (3, .int (0 : Int32)), (0, .ref (adC 0)), (1, .int p1), (2, .int p2)]) hx hb dX0_misfit_6 hl (by decide) rfl (fun ls hl => ?_)
    exact L8 p1 p2  kFu (0 : Int32) (0 : Int64) (0 : Int32) h H locs ls hP hD hS (lv_sub hl [3, 4, 5, 2, 1, 0] rfl)
  exact E0 s.heap [] ls hP hD hS hl
def fX0_sealOfAges_c7 (vC : KC) (x1 : Int32) (x2 : Int32) (x3 : Int32) (nx7 : Int32 × Int32 × Int32 → Option (Int32)) : Option (Int32) := if vC.1 ≤ x3 then some x2.toInt16.toInt32 else ((fX0_yearsOf vC x3 vC.2.2.1 vC.2.2.2.1).bind fun r26 => nx7 ((x1 + r26), (((31 : Int32) * x2) + (x1 + r26)), (x3 + 1)))
def fX0_sealOfAges (vC : KC) : Option (Int32) := kLoopC kFu (fun q nx7 => fX0_sealOfAges_c7 vC q.1 q.2.1 q.2.2 nx7) ((0 : Int32), (7 : Int32), (0 : Int32))
set_option maxHeartbeats 4000000 in
set_option maxRecDepth 100000 in
theorem cX0_sealOfAges_ok (l : Launch) (D : va_G) (ty : kTy) (adC : Nat → Nat) (sz : Nat) (vC : KC)  (res : Int32) (h : fX0_sealOfAges vC = some res) : kMI l yX0_sealOfAges wsX0_sealOfAges { frames := 3, cells := 0, slots := 0, locals := 82 } [.ref (adC 0)] D ty (wC ty adC vC) sz res (wC ty adC vC) := by
  refine Met.ofW (cc := cX0_sealOfAges) (maxL := 4) (ret := (some .int)) (by decide) rfl ?_
  intro p e s m args below meth c s₁ B hml hv
  obtain ⟨rfl, hsz, hP, hK, hD0⟩ := hv
  have hx := B.exec
  have hb := B.bytes
  have hr := B.returns
  have hts := atoms_spec (ws := wsX0_sealOfAges) B.pre
  have hown : s.vm.findClass RX0 = some m.cls := findClass_of_methodNamed B.named
  have hlocks := B.notSynchronized
  subst hsz
  have hD := hD0.self (sz := s.heap.size)
  generalize hAe : va_A (wC ty adC vC) s.heap.size = A at hD ⊢
  have hA : ∀ q : Nat, s.heap.size ≤ q → A q := fun q h => by rw [← hAe]; exact Or.inr h
  have hS : va_S A s.heap s.heap [] := va_S.rf
  refine kGenW (fun Q hQ => ?_)
  have wf0 := hts (.fieldLink RX0 9 "IceCoreDater$Core" "size" "I") (by decide +kernel)
  have hinX0 : ∀ w ∈ wsX00, w ∈ wsX0_sealOfAges := by decide +kernel
  have wf2 := hts (.fieldLink RX0 19 "IceCoreDater$Core" "function" "I") (by decide +kernel)
  have wf3 := hts (.fieldLink RX0 22 "IceCoreDater$Core" "kink" "I") (by decide +kernel)
  have B7 : ∀ (nx7 : Int32 × Int32 × Int32 → Option (Int32)) (hn7 : ∀ (x1 : Int32) (x2 : Int32) (x3 : Int32), nx7 (x1, x2, x3) = some res → ∀ (H : Heap) (locs : List Loc) (ls : Array Slot), va_P D vwCl (wC ty adC vC) H → va_D A (wC ty adC vC) → va_S A s.heap H locs → lv_has ls 4 [(0, .ref (adC 0)), (1, .int x1), (2, .int x2), (3, .int x3)] → W p l e (headSpec wsX0_sealOfAges { frames := 3, cells := 0, slots := 0, locals := 82 }).room s m ([.ref (adC 0)] : List Value).toArray below meth c H locs 0 0 Q (F0 m 7 ls [])) (x1 : Int32) (x2 : Int32) (x3 : Int32), fX0_sealOfAges_c7 vC x1 x2 x3 nx7 = some res → ∀ (H : Heap) (locs : List Loc) (ls : Array Slot), va_P D vwCl (wC ty adC vC) H → va_D A (wC ty adC vC) → va_S A s.heap H locs → lv_has ls 4 [(0, .ref (adC 0)), (1, .int x1), (2, .int x2), (3, .int x3)] → W p l e (headSpec wsX0_sealOfAges { frames := 3, cells := 0, slots := 0, locals := 82 }).room s m ([.ref (adC 0)] : List Value).toArray below meth c H locs 0 0 Q (F0 m 7 ls []) := by
    intro  nx7 hn7 x1 x2 x3 h H locs ls hP hD hS hl
    unfold fX0_sealOfAges_c7 at h
    refine lv_iload_n hx hb dX0_sealOfAges_7 rfl (lv_at hl 3 rfl) ?_
    refine lv_aload_n hx hb dX0_sealOfAges_8 rfl (lv_at hl 0 rfl) ?_
    refine va_get (D := D) (ci := 0) (v := .int vC.1) (C := RX0) (T := TX0) (N := 12) hx hb hts hinX0 hown hK.1 hP 0 rfl rfl 0 (by decide) wf0 (fun _ h9 => h9) rfl dX0_sealOfAges_9 ?_
    refine lv_icmp_ge (tgt := 44) hx hb dX0_sealOfAges_12 (by decide) (fun c12 => ?_) (fun c12 => ?_)
    · have h := kT h c12
      refine lv_iload_n hx hb dX0_sealOfAges_44 rfl (lv_at hl 2 rfl) ?_
      refine lv_i2s hx hb dX0_sealOfAges_45 rfl ?_
      obtain rfl := Option.some.inj h
      subst hQ
      exact W.iret (v := x2.toInt16.toInt32) hx hb hr (fun t ht hW => ⟨⟨x2.toInt16.toInt32, (), rfl, rfl, kEnd ht hP⟩, hS.F ht⟩) hS.2.2 dX0_sealOfAges_46
    · have h := kF h c12
      refine lv_iload_n hx hb dX0_sealOfAges_15 rfl (lv_at hl 1 rfl) ?_
      refine lv_aload_n hx hb dX0_sealOfAges_16 rfl (lv_at hl 0 rfl) ?_
      refine lv_iload_n hx hb dX0_sealOfAges_17 rfl (lv_at hl 3 rfl) ?_
      refine lv_aload_n hx hb dX0_sealOfAges_18 rfl (lv_at hl 0 rfl) ?_
      refine va_get (D := D) (ci := 0) (v := .int vC.2.2.1) (C := RX0) (T := TX0) (N := 12) hx hb hts hinX0 hown hK.1 hP 0 rfl rfl 2 (by decide) wf2 (fun _ h9 => h9) rfl dX0_sealOfAges_19 ?_
      refine lv_aload_n hx hb dX0_sealOfAges_22 rfl (lv_at hl 0 rfl) ?_
      refine va_get (D := D) (ci := 0) (v := .int vC.2.2.2.1) (C := RX0) (T := TX0) (N := 12) hx hb hts hinX0 hown hK.1 hP 0 rfl rfl 3 (by decide) wf3 (fun _ h9 => h9) rfl dX0_sealOfAges_23 ?_
      obtain ⟨r26, e26, h⟩ := kBd h
      refine kCallVI (As := [.int x3, .int vC.2.2.1, .int vC.2.2.2.1]) (rest := [.int x1]) (wc := wC ty adC vC) (w1 := wC ty adC vC) (wn := wC ty adC vC) ⟨hx, hb, hml, hown, hts⟩ (cX0_yearsOf_ok l D ty adC H.size vC x3 vC.2.2.1 vC.2.2.2.1  r26 e26) (cwV 3 hts gX0_sealOfAges_X0_yearsOf rfl rfl rfl (by decide +kernel) ⟨Nat.le_of_ble_eq_true rfl, Nat.le_of_ble_eq_true rfl⟩) hP hK hD hS hA [0, 1, 2, 3, 4, 5, 6, 7] (by decide +kernel) rfl 0 0 rfl rfl rfl rfl hl.1 rfl (Nat.le_of_ble_eq_true rfl) dX0_sealOfAges_26 ⟨Nat.le_of_ble_eq_true rfl, Nat.le_of_ble_eq_true rfl⟩ rfl rfl (fun H locs hP hD hS => ?_)
      refine lv_iadd hx hb dX0_sealOfAges_29 ?_
      refine lv_istore_n (lv' := [(1, .int (x1 + r26)), (0, .ref (adC 0)), (2, .int x2), (3, .int x3)]) hx hb dX0_sealOfAges_30 rfl hl (by decide) rfl (fun ls hl => ?_)
      refine lv_bipush (v := 31) hx hb dX0_sealOfAges_31 (by decide) ?_
      refine lv_iload_n hx hb dX0_sealOfAges_33 rfl (lv_at hl 2 rfl) ?_
      refine lv_imul hx hb dX0_sealOfAges_34 ?_
      refine lv_iload_n hx hb dX0_sealOfAges_35 rfl (lv_at hl 0 rfl) ?_
      refine lv_iadd hx hb dX0_sealOfAges_36 ?_
      refine lv_istore_n (lv' := [(2, .int (((31 : Int32) * x2) + (x1 + r26))), (1, .int (x1 + r26)), (0, .ref (adC 0)), (3, .int x3)]) hx hb dX0_sealOfAges_37 rfl hl (by decide) rfl (fun ls hl => ?_)
      refine lv_iinc (v := (x3 + 1)) (lv' := [(3, .int (x3 + 1)), (2, .int (((31 : Int32) * x2) + (x1 + r26))), (1, .int (x1 + r26)), (0, .ref (adC 0))]) hx hb dX0_sealOfAges_38 hl (k := 3) rfl rfl (by decide) rfl (fun ls hl => ?_)
      refine lv_goto (tgt := 7) hx hb dX0_sealOfAges_41 (by decide) ?_
      exact hn7 (x1 + r26) (((31 : Int32) * x2) + (x1 + r26)) (x3 + 1) h H locs ls hP hD hS (lv_sub hl [3, 2, 1, 0] rfl)
  have L7 : ∀  (n : Nat) (x1 : Int32) (x2 : Int32) (x3 : Int32), kLoopC n (fun q nx7 => fX0_sealOfAges_c7 vC q.1 q.2.1 q.2.2 nx7) (x1, x2, x3) = some res → ∀ (H : Heap) (locs : List Loc) (ls : Array Slot), va_P D vwCl (wC ty adC vC) H → va_D A (wC ty adC vC) → va_S A s.heap H locs → lv_has ls 4 [(0, .ref (adC 0)), (1, .int x1), (2, .int x2), (3, .int x3)] → W p l e (headSpec wsX0_sealOfAges { frames := 3, cells := 0, slots := 0, locals := 82 }).room s m ([.ref (adC 0)] : List Value).toArray below meth c H locs 0 0 Q (F0 m 7 ls []) := by
    intro  n
    induction n with
    | zero => intro x1 x2 x3 h; exact absurd h (by simp [kLoopC])
    | succ n ih => intro x1 x2 x3 h; exact B7  (kLoopC n (fun q nx7 => fX0_sealOfAges_c7 vC q.1 q.2.1 q.2.2 nx7)) ih x1 x2 x3 h
  have hl := lv_entry ([.ref (adC 0)]) (n := 4) (Nat.le_of_ble_eq_true rfl)
  rw [lg_entry_eq]
  generalize (lg_sl ([.ref (adC 0)]) ++ List.replicate (4 - (lg_sl ([.ref (adC 0)])).length) Slot.unset).toArray = ls at hl ⊢
  have hl : lv_has ls 4 [(0, .ref (adC 0))] := hl
  unfold fX0_sealOfAges at h
  have E0 : ∀ (H : Heap) (locs : List Loc) (ls : Array Slot), va_P D vwCl (wC ty adC vC) H → va_D A (wC ty adC vC) → va_S A s.heap H locs → lv_has ls 4 [(0, .ref (adC 0))] → W p l e (headSpec wsX0_sealOfAges { frames := 3, cells := 0, slots := 0, locals := 82 }).room s m ([.ref (adC 0)] : List Value).toArray below meth c H locs 0 0 Q (F0 m 0 ls []) := by
    intro H locs ls hP hD hS hl
    refine lv_iconst (v := 0) hx hb dX0_sealOfAges_0 (by decide) ?_
    refine lv_istore_n (lv' := [(1, .int (0 : Int32)), (0, .ref (adC 0))]) hx hb dX0_sealOfAges_1 rfl hl (by decide) rfl (fun ls hl => ?_)
    refine lv_bipush (v := 7) hx hb dX0_sealOfAges_2 (by decide) ?_
    refine lv_istore_n (lv' := [(2, .int (7 : Int32)), (1, .int (0 : Int32)), (0, .ref (adC 0))]) hx hb dX0_sealOfAges_4 rfl hl (by decide) rfl (fun ls hl => ?_)
    refine lv_iconst (v := 0) hx hb dX0_sealOfAges_5 (by decide) ?_
    refine lv_istore_n (lv' := [(3, .int (0 : Int32)), (2, .int (7 : Int32)), (1, .int (0 : Int32)), (0, .ref (adC 0))]) hx hb dX0_sealOfAges_6 rfl hl (by decide) rfl (fun ls hl => ?_)
    exact L7   kFu (0 : Int32) (7 : Int32) (0 : Int32) h H locs ls hP hD hS (lv_sub hl [3, 2, 1, 0] rfl)
  exact E0 s.heap [] ls hP hD hS hl
def fX0_ageAt_c7 (vC : KC) (x1 : Int32) (x2 : Int32) (x3 : Int32) (x4 : Int32) (nx7 : Int32 × Int32 × Int32 → Option (Int32)) : Option (Int32) := if vC.1 ≤ x4 then some x3 else ((fX0_yearsOf vC x4 vC.2.2.1 vC.2.2.2.1).bind fun r27 => if kIn x4 16 = true then (if (x2 + (vC.2.2.2.2.2.1 x4.toNatClampNeg)) < x1 then (if kIn x4 16 = true then (nx7 ((x2 + (vC.2.2.2.2.2.1 x4.toNatClampNeg)), (x3 + r27.toInt64.toInt32), (x4 + 1))) else none) else (if kIn x4 16 = true then ((fX4_quotient (r27.toInt64 * (x1 - x2).toInt64) ((vC.2.2.2.2.2.1 x4.toNatClampNeg).toInt64)).bind fun r62 => some (x3 + r62.toInt32)) else none)) else none)
def fX0_ageAt (vC : KC) (p1 : Int32) : Option (Int32) := kLoopC kFu (fun q nx7 => fX0_ageAt_c7 vC p1 q.1 q.2.1 q.2.2 nx7) ((0 : Int32), (0 : Int32), (0 : Int32))
set_option maxHeartbeats 4000000 in
set_option maxRecDepth 100000 in
theorem cX0_ageAt_ok (l : Launch) (D : va_G) (ty : kTy) (adC : Nat → Nat) (sz : Nat) (vC : KC) (p1 : Int32)  (res : Int32) (h : fX0_ageAt vC p1 = some res) : kMI l yX0_ageAt wsX0_ageAt { frames := 3, cells := 0, slots := 0, locals := 82 } [.ref (adC 0), .int p1] D ty (wC ty adC vC) sz res (wC ty adC vC) := by
  refine Met.ofW (cc := cX0_ageAt) (maxL := 7) (ret := (some .int)) (by decide) rfl ?_
  intro p e s m args below meth c s₁ B hml hv
  obtain ⟨rfl, hsz, hP, hK, hD0⟩ := hv
  have hx := B.exec
  have hb := B.bytes
  have hr := B.returns
  have hts := atoms_spec (ws := wsX0_ageAt) B.pre
  have hown : s.vm.findClass RX0 = some m.cls := findClass_of_methodNamed B.named
  have hlocks := B.notSynchronized
  subst hsz
  have hD := hD0.self (sz := s.heap.size)
  generalize hAe : va_A (wC ty adC vC) s.heap.size = A at hD ⊢
  have hA : ∀ q : Nat, s.heap.size ≤ q → A q := fun q h => by rw [← hAe]; exact Or.inr h
  have hS : va_S A s.heap s.heap [] := va_S.rf
  refine kGenW (fun Q hQ => ?_)
  have wf0 := hts (.fieldLink RX0 9 "IceCoreDater$Core" "size" "I") (by decide +kernel)
  have hinX0 : ∀ w ∈ wsX00, w ∈ wsX0_ageAt := by decide +kernel
  have wf2 := hts (.fieldLink RX0 19 "IceCoreDater$Core" "function" "I") (by decide +kernel)
  have wf3 := hts (.fieldLink RX0 22 "IceCoreDater$Core" "kink" "I") (by decide +kernel)
  have wf4 := hts (.fieldLink RX0 28 "IceCoreDater$Core" "thickness" "[I") (by decide +kernel)
  have wf5 := hts (.initialized RX4) (by decide +kernel)
  have wf6 := hts (.static yX4_quotient) (by decide +kernel)
  have B7 : ∀ (x1 : Int32) (nx7 : Int32 × Int32 × Int32 → Option (Int32)) (hn7 : ∀ (x2 : Int32) (x3 : Int32) (x4 : Int32), nx7 (x2, x3, x4) = some res → ∀ (H : Heap) (locs : List Loc) (ls : Array Slot), va_P D vwCl (wC ty adC vC) H → va_D A (wC ty adC vC) → va_S A s.heap H locs → lv_has ls 7 [(0, .ref (adC 0)), (1, .int x1), (2, .int x2), (3, .int x3), (4, .int x4)] → W p l e (headSpec wsX0_ageAt { frames := 3, cells := 0, slots := 0, locals := 82 }).room s m ([.ref (adC 0), .int p1] : List Value).toArray below meth c H locs 0 0 Q (F0 m 7 ls [])) (x2 : Int32) (x3 : Int32) (x4 : Int32), fX0_ageAt_c7 vC x1 x2 x3 x4 nx7 = some res → ∀ (H : Heap) (locs : List Loc) (ls : Array Slot), va_P D vwCl (wC ty adC vC) H → va_D A (wC ty adC vC) → va_S A s.heap H locs → lv_has ls 7 [(0, .ref (adC 0)), (1, .int x1), (2, .int x2), (3, .int x3), (4, .int x4)] → W p l e (headSpec wsX0_ageAt { frames := 3, cells := 0, slots := 0, locals := 82 }).room s m ([.ref (adC 0), .int p1] : List Value).toArray below meth c H locs 0 0 Q (F0 m 7 ls []) := by
    intro x1 nx7 hn7 x2 x3 x4 h H locs ls hP hD hS hl
    unfold fX0_ageAt_c7 at h
    refine lv_iload hx hb dX0_ageAt_7 (lv_at hl 4 rfl) ?_
    refine lv_aload_n hx hb dX0_ageAt_9 rfl (lv_at hl 0 rfl) ?_
    refine va_get (D := D) (ci := 0) (v := .int vC.1) (C := RX0) (T := TX0) (N := 12) hx hb hts hinX0 hown hK.1 hP 0 rfl rfl 0 (by decide) wf0 (fun _ h9 => h9) rfl dX0_ageAt_10 ?_
    refine lv_icmp_ge (tgt := 90) hx hb dX0_ageAt_13 (by decide) (fun c13 => ?_) (fun c13 => ?_)
    · have h := kT h c13
      refine lv_iload_n hx hb dX0_ageAt_90 rfl (lv_at hl 3 rfl) ?_
      obtain rfl := Option.some.inj h
      subst hQ
      exact W.iret (v := x3) hx hb hr (fun t ht hW => ⟨⟨x3, (), rfl, rfl, kEnd ht hP⟩, hS.F ht⟩) hS.2.2 dX0_ageAt_91
    · have h := kF h c13
      refine lv_aload_n hx hb dX0_ageAt_16 rfl (lv_at hl 0 rfl) ?_
      refine lv_iload hx hb dX0_ageAt_17 (lv_at hl 4 rfl) ?_
      refine lv_aload_n hx hb dX0_ageAt_19 rfl (lv_at hl 0 rfl) ?_
      refine va_get (D := D) (ci := 0) (v := .int vC.2.2.1) (C := RX0) (T := TX0) (N := 12) hx hb hts hinX0 hown hK.1 hP 0 rfl rfl 2 (by decide) wf2 (fun _ h9 => h9) rfl dX0_ageAt_20 ?_
      refine lv_aload_n hx hb dX0_ageAt_23 rfl (lv_at hl 0 rfl) ?_
      refine va_get (D := D) (ci := 0) (v := .int vC.2.2.2.1) (C := RX0) (T := TX0) (N := 12) hx hb hts hinX0 hown hK.1 hP 0 rfl rfl 3 (by decide) wf3 (fun _ h9 => h9) rfl dX0_ageAt_24 ?_
      obtain ⟨r27, e27, h⟩ := kBd h
      refine kCallVI (As := [.int x4, .int vC.2.2.1, .int vC.2.2.2.1]) (rest := []) (wc := wC ty adC vC) (w1 := wC ty adC vC) (wn := wC ty adC vC) ⟨hx, hb, hml, hown, hts⟩ (cX0_yearsOf_ok l D ty adC H.size vC x4 vC.2.2.1 vC.2.2.2.1  r27 e27) (cwV 3 hts gX0_ageAt_X0_yearsOf rfl rfl rfl (by decide +kernel) ⟨Nat.le_of_ble_eq_true rfl, Nat.le_of_ble_eq_true rfl⟩) hP hK hD hS hA [0, 1, 2, 3, 4, 5, 6, 7] (by decide +kernel) rfl 0 0 rfl rfl rfl rfl hl.1 rfl (Nat.le_of_ble_eq_true rfl) dX0_ageAt_27 ⟨Nat.le_of_ble_eq_true rfl, Nat.le_of_ble_eq_true rfl⟩ rfl rfl (fun H locs hP hD hS => ?_)
      refine lv_i2l hx hb dX0_ageAt_30 rfl ?_
      refine lv_lstore (lv' := [(5, .long r27.toInt64), (0, .ref (adC 0)), (1, .int x1), (2, .int x2), (3, .int x3), (4, .int x4)]) hx hb dX0_ageAt_31 hl (by decide) rfl (fun ls hl => ?_)
      refine lv_iload_n hx hb dX0_ageAt_33 rfl (lv_at hl 2 rfl) ?_
      refine lv_iload_n hx hb dX0_ageAt_34 rfl (lv_at hl 3 rfl) ?_
      refine lv_aload_n hx hb dX0_ageAt_35 rfl (lv_at hl 1 rfl) ?_
      refine va_get (D := D) (ci := 0) (v := .ref (adC 1)) (C := RX0) (T := TX0) (N := 12) hx hb hts hinX0 hown hK.1 hP 0 rfl rfl 5 (by decide) wf4 (fun _ h9 => h9) rfl dX0_ageAt_36 ?_
      refine lv_iload hx hb dX0_ageAt_39 (lv_at hl 5 rfl) ?_
      obtain ⟨b41, h⟩ := kIf h
      refine va_iald (f := vC.2.2.2.2.2.1) (n := 16) hx hb hK.1 hP 1 0 rfl rfl (kIn_ok b41) dX0_ageAt_41 ?_
      refine lv_iadd hx hb dX0_ageAt_42 ?_
      refine lv_icmp_gt (tgt := 68) hx hb dX0_ageAt_43 (by decide) (fun c43 => ?_) (fun c43 => ?_)
      · have h := kT h c43
        refine lv_iload_n hx hb dX0_ageAt_68 rfl (lv_at hl 3 rfl) ?_
        refine lv_aload_n hx hb dX0_ageAt_69 rfl (lv_at hl 1 rfl) ?_
        refine va_get (D := D) (ci := 0) (v := .ref (adC 1)) (C := RX0) (T := TX0) (N := 12) hx hb hts hinX0 hown hK.1 hP 0 rfl rfl 5 (by decide) wf4 (fun _ h9 => h9) rfl dX0_ageAt_70 ?_
        refine lv_iload hx hb dX0_ageAt_73 (lv_at hl 5 rfl) ?_
        obtain ⟨b75, h⟩ := kIf h
        refine va_iald (f := vC.2.2.2.2.2.1) (n := 16) hx hb hK.1 hP 1 0 rfl rfl (kIn_ok b75) dX0_ageAt_75 ?_
        refine lv_iadd hx hb dX0_ageAt_76 ?_
        refine lv_istore_n (lv' := [(2, .int (x2 + (vC.2.2.2.2.2.1 x4.toNatClampNeg))), (5, .long r27.toInt64), (0, .ref (adC 0)), (1, .int x1), (3, .int x3), (4, .int x4)]) hx hb dX0_ageAt_77 rfl hl (by decide) rfl (fun ls hl => ?_)
        refine lv_iload_n hx hb dX0_ageAt_78 rfl (lv_at hl 4 rfl) ?_
        refine lv_lload hx hb dX0_ageAt_79 (lv_at hl 1 rfl) ?_
        refine lv_l2i hx hb dX0_ageAt_81 rfl ?_
        refine lv_iadd hx hb dX0_ageAt_82 ?_
        refine lv_istore_n (lv' := [(3, .int (x3 + r27.toInt64.toInt32)), (2, .int (x2 + (vC.2.2.2.2.2.1 x4.toNatClampNeg))), (5, .long r27.toInt64), (0, .ref (adC 0)), (1, .int x1), (4, .int x4)]) hx hb dX0_ageAt_83 rfl hl (by decide) rfl (fun ls hl => ?_)
        refine lv_iinc (v := (x4 + 1)) (lv' := [(4, .int (x4 + 1)), (3, .int (x3 + r27.toInt64.toInt32)), (2, .int (x2 + (vC.2.2.2.2.2.1 x4.toNatClampNeg))), (5, .long r27.toInt64), (0, .ref (adC 0)), (1, .int x1)]) hx hb dX0_ageAt_84 hl (k := 5) rfl rfl (by decide) rfl (fun ls hl => ?_)
        refine lv_goto (tgt := 7) hx hb dX0_ageAt_87 (by decide) ?_
        exact hn7 (x2 + (vC.2.2.2.2.2.1 x4.toNatClampNeg)) (x3 + r27.toInt64.toInt32) (x4 + 1) h H locs ls hP hD hS (lv_sub hl [4, 5, 2, 1, 0] rfl)
      · have h := kF h c43
        refine lv_iload_n hx hb dX0_ageAt_46 rfl (lv_at hl 4 rfl) ?_
        refine lv_lload hx hb dX0_ageAt_47 (lv_at hl 0 rfl) ?_
        refine lv_iload_n hx hb dX0_ageAt_49 rfl (lv_at hl 2 rfl) ?_
        refine lv_iload_n hx hb dX0_ageAt_50 rfl (lv_at hl 3 rfl) ?_
        refine lv_isub hx hb dX0_ageAt_51 ?_
        refine lv_i2l hx hb dX0_ageAt_52 rfl ?_
        refine lv_lmul hx hb dX0_ageAt_53 ?_
        refine lv_aload_n hx hb dX0_ageAt_54 rfl (lv_at hl 1 rfl) ?_
        refine va_get (D := D) (ci := 0) (v := .ref (adC 1)) (C := RX0) (T := TX0) (N := 12) hx hb hts hinX0 hown hK.1 hP 0 rfl rfl 5 (by decide) wf4 (fun _ h9 => h9) rfl dX0_ageAt_55 ?_
        refine lv_iload hx hb dX0_ageAt_58 (lv_at hl 5 rfl) ?_
        obtain ⟨b60, h⟩ := kIf h
        refine va_iald (f := vC.2.2.2.2.2.1) (n := 16) hx hb hK.1 hP 1 0 rfl rfl (kIn_ok b60) dX0_ageAt_60 ?_
        refine lv_i2l hx hb dX0_ageAt_61 rfl ?_
        obtain ⟨r62, e62, h⟩ := kBd h
        refine kCallNL (As := [.long (r27.toInt64 * (x1 - x2).toInt64), .long (vC.2.2.2.2.2.1 x4.toNatClampNeg).toInt64]) (rest := [.int x3]) ⟨hx, hb, hml, hown, hts⟩ (cX4_quotient_ok l D ty  H.size (r27.toInt64 * (x1 - x2).toInt64) ((vC.2.2.2.2.2.1 x4.toNatClampNeg).toInt64)  r62 e62) ⟨va_cnB 2 hts gX0_ageAt_X4_quotient_n98 rfl rfl rfl hK.2.2.2.2.2.2 wf5 (by decide +kernel) ⟨Nat.le_of_ble_eq_true rfl, Nat.le_of_ble_eq_true rfl⟩, wf6, trivial⟩ hP hK hD hS hA rfl hl.1 rfl (Nat.le_of_ble_eq_true rfl) dX0_ageAt_62 ⟨Nat.le_of_ble_eq_true rfl, Nat.le_of_ble_eq_true rfl⟩ (fun H locs hP hS => ?_)
        refine lv_l2i hx hb dX0_ageAt_65 rfl ?_
        refine lv_iadd hx hb dX0_ageAt_66 ?_
        obtain rfl := Option.some.inj h
        subst hQ
        exact W.iret (v := (x3 + r62.toInt32)) hx hb hr (fun t ht hW => ⟨⟨(x3 + r62.toInt32), (), rfl, rfl, kEnd ht hP⟩, hS.F ht⟩) hS.2.2 dX0_ageAt_67
  have L7 : ∀ (x1 : Int32) (n : Nat) (x2 : Int32) (x3 : Int32) (x4 : Int32), kLoopC n (fun q nx7 => fX0_ageAt_c7 vC x1 q.1 q.2.1 q.2.2 nx7) (x2, x3, x4) = some res → ∀ (H : Heap) (locs : List Loc) (ls : Array Slot), va_P D vwCl (wC ty adC vC) H → va_D A (wC ty adC vC) → va_S A s.heap H locs → lv_has ls 7 [(0, .ref (adC 0)), (1, .int x1), (2, .int x2), (3, .int x3), (4, .int x4)] → W p l e (headSpec wsX0_ageAt { frames := 3, cells := 0, slots := 0, locals := 82 }).room s m ([.ref (adC 0), .int p1] : List Value).toArray below meth c H locs 0 0 Q (F0 m 7 ls []) := by
    intro x1 n
    induction n with
    | zero => intro x2 x3 x4 h; exact absurd h (by simp [kLoopC])
    | succ n ih => intro x2 x3 x4 h; exact B7 x1 (kLoopC n (fun q nx7 => fX0_ageAt_c7 vC x1 q.1 q.2.1 q.2.2 nx7)) ih x2 x3 x4 h
  have hl := lv_entry ([.ref (adC 0), .int p1]) (n := 7) (Nat.le_of_ble_eq_true rfl)
  rw [lg_entry_eq]
  generalize (lg_sl ([.ref (adC 0), .int p1]) ++ List.replicate (7 - (lg_sl ([.ref (adC 0), .int p1])).length) Slot.unset).toArray = ls at hl ⊢
  have hl : lv_has ls 7 [(0, .ref (adC 0)), (1, .int p1)] := hl
  unfold fX0_ageAt at h
  have E0 : ∀ (H : Heap) (locs : List Loc) (ls : Array Slot), va_P D vwCl (wC ty adC vC) H → va_D A (wC ty adC vC) → va_S A s.heap H locs → lv_has ls 7 [(0, .ref (adC 0)), (1, .int p1)] → W p l e (headSpec wsX0_ageAt { frames := 3, cells := 0, slots := 0, locals := 82 }).room s m ([.ref (adC 0), .int p1] : List Value).toArray below meth c H locs 0 0 Q (F0 m 0 ls []) := by
    intro H locs ls hP hD hS hl
    refine lv_iconst (v := 0) hx hb dX0_ageAt_0 (by decide) ?_
    refine lv_istore_n (lv' := [(2, .int (0 : Int32)), (0, .ref (adC 0)), (1, .int p1)]) hx hb dX0_ageAt_1 rfl hl (by decide) rfl (fun ls hl => ?_)
    refine lv_iconst (v := 0) hx hb dX0_ageAt_2 (by decide) ?_
    refine lv_istore_n (lv' := [(3, .int (0 : Int32)), (2, .int (0 : Int32)), (0, .ref (adC 0)), (1, .int p1)]) hx hb dX0_ageAt_3 rfl hl (by decide) rfl (fun ls hl => ?_)
    refine lv_iconst (v := 0) hx hb dX0_ageAt_4 (by decide) ?_
    refine lv_istore (lv' := [(4, .int (0 : Int32)), (3, .int (0 : Int32)), (2, .int (0 : Int32)), (0, .ref (adC 0)), (1, .int p1)]) hx hb dX0_ageAt_5 hl (by decide) rfl (fun ls hl => ?_)
    exact L7 p1  kFu (0 : Int32) (0 : Int32) (0 : Int32) h H locs ls hP hD hS (lv_sub hl [3, 4, 2, 1, 0] rfl)
  exact E0 s.heap [] ls hP hD hS hl
def fX0_gasAgeAt_c4 (vC : KC) (x1 : Int32) (x2 : Int32) (x3 : Int32) (nx4 : Int32 × Int32 → Option (Int32)) : Option (Int32) := if vC.1 ≤ x3 then (some (0 : Int32)) else (if kIn x3 16 = true then (if (x2 + (vC.2.2.2.2.2.1 x3.toNatClampNeg)) < x1 then (nx4 ((x2 + (vC.2.2.2.2.2.1 x3.toNatClampNeg)), (x3 + 1))) else ((fX0_ageAt vC x1).bind fun r29 => (fX0_delayOf vC x3).bind fun r34 => some (if (0 : Int32) < (r29 - r34) then (r29 - r34) else (0 : Int32)))) else none)
def fX0_gasAgeAt (vC : KC) (p1 : Int32) : Option (Int32) := kLoopC kFu (fun q nx4 => fX0_gasAgeAt_c4 vC p1 q.1 q.2 nx4) ((0 : Int32), (0 : Int32))
set_option maxHeartbeats 4000000 in
set_option maxRecDepth 100000 in
theorem cX0_gasAgeAt_ok (l : Launch) (D : va_G) (ty : kTy) (adC : Nat → Nat) (sz : Nat) (vC : KC) (p1 : Int32)  (res : Int32) (h : fX0_gasAgeAt vC p1 = some res) : kMI l yX0_gasAgeAt wsX0_gasAgeAt { frames := 4, cells := 0, slots := 0, locals := 108 } [.ref (adC 0), .int p1] D ty (wC ty adC vC) sz res (wC ty adC vC) := by
  refine Met.ofW (cc := cX0_gasAgeAt) (maxL := 4) (ret := (some .int)) (by decide) rfl ?_
  intro p e s m args below meth c s₁ B hml hv
  obtain ⟨rfl, hsz, hP, hK, hD0⟩ := hv
  have hx := B.exec
  have hb := B.bytes
  have hr := B.returns
  have hts := atoms_spec (ws := wsX0_gasAgeAt) B.pre
  have hown : s.vm.findClass RX0 = some m.cls := findClass_of_methodNamed B.named
  have hlocks := B.notSynchronized
  subst hsz
  have hD := hD0.self (sz := s.heap.size)
  generalize hAe : va_A (wC ty adC vC) s.heap.size = A at hD ⊢
  have hA : ∀ q : Nat, s.heap.size ≤ q → A q := fun q h => by rw [← hAe]; exact Or.inr h
  have hS : va_S A s.heap s.heap [] := va_S.rf
  refine kGenW (fun Q hQ => ?_)
  have wf0 := hts (.fieldLink RX0 9 "IceCoreDater$Core" "size" "I") (by decide +kernel)
  have hinX0 : ∀ w ∈ wsX00, w ∈ wsX0_gasAgeAt := by decide +kernel
  have wf2 := hts (.fieldLink RX0 28 "IceCoreDater$Core" "thickness" "[I") (by decide +kernel)
  have wf3 := hts (.methodLink RX0 131 Lib.Math.max.name) (by decide +kernel)
  have wf4 := hts (.static Lib.Math.max.name) (by decide +kernel)
  have wf5 := hts (.initialized "java/lang/Math") (by decide +kernel)
  have wf6 := hts (.code Lib.Math.max.name Lib.Math.max.code 2 (some .int)) (by decide +kernel)
  have B4 : ∀ (x1 : Int32) (nx4 : Int32 × Int32 → Option (Int32)) (hn4 : ∀ (x2 : Int32) (x3 : Int32), nx4 (x2, x3) = some res → ∀ (H : Heap) (locs : List Loc) (ls : Array Slot), va_P D vwCl (wC ty adC vC) H → va_D A (wC ty adC vC) → va_S A s.heap H locs → lv_has ls 4 [(0, .ref (adC 0)), (1, .int x1), (2, .int x2), (3, .int x3)] → W p l e (headSpec wsX0_gasAgeAt { frames := 4, cells := 0, slots := 0, locals := 108 }).room s m ([.ref (adC 0), .int p1] : List Value).toArray below meth c H locs 0 0 Q (F0 m 4 ls [])) (x2 : Int32) (x3 : Int32), fX0_gasAgeAt_c4 vC x1 x2 x3 nx4 = some res → ∀ (H : Heap) (locs : List Loc) (ls : Array Slot), va_P D vwCl (wC ty adC vC) H → va_D A (wC ty adC vC) → va_S A s.heap H locs → lv_has ls 4 [(0, .ref (adC 0)), (1, .int x1), (2, .int x2), (3, .int x3)] → W p l e (headSpec wsX0_gasAgeAt { frames := 4, cells := 0, slots := 0, locals := 108 }).room s m ([.ref (adC 0), .int p1] : List Value).toArray below meth c H locs 0 0 Q (F0 m 4 ls []) := by
    intro x1 nx4 hn4 x2 x3 h H locs ls hP hD hS hl
    unfold fX0_gasAgeAt_c4 at h
    refine lv_iload_n hx hb dX0_gasAgeAt_4 rfl (lv_at hl 3 rfl) ?_
    refine lv_aload_n hx hb dX0_gasAgeAt_5 rfl (lv_at hl 0 rfl) ?_
    refine va_get (D := D) (ci := 0) (v := .int vC.1) (C := RX0) (T := TX0) (N := 12) hx hb hts hinX0 hown hK.1 hP 0 rfl rfl 0 (by decide) wf0 (fun _ h9 => h9) rfl dX0_gasAgeAt_6 ?_
    refine lv_icmp_ge (tgt := 48) hx hb dX0_gasAgeAt_9 (by decide) (fun c9 => ?_) (fun c9 => ?_)
    · have h := kT h c9
      refine lv_iconst (v := 0) hx hb dX0_gasAgeAt_48 (by decide) ?_
      obtain rfl := Option.some.inj h
      subst hQ
      exact W.iret (v := (0 : Int32)) hx hb hr (fun t ht hW => ⟨⟨(0 : Int32), (), rfl, rfl, kEnd ht hP⟩, hS.F ht⟩) hS.2.2 dX0_gasAgeAt_49
    · have h := kF h c9
      refine lv_iload_n hx hb dX0_gasAgeAt_12 rfl (lv_at hl 2 rfl) ?_
      refine lv_aload_n hx hb dX0_gasAgeAt_13 rfl (lv_at hl 0 rfl) ?_
      refine va_get (D := D) (ci := 0) (v := .ref (adC 1)) (C := RX0) (T := TX0) (N := 12) hx hb hts hinX0 hown hK.1 hP 0 rfl rfl 5 (by decide) wf2 (fun _ h9 => h9) rfl dX0_gasAgeAt_14 ?_
      refine lv_iload_n hx hb dX0_gasAgeAt_17 rfl (lv_at hl 3 rfl) ?_
      obtain ⟨b18, h⟩ := kIf h
      refine va_iald (f := vC.2.2.2.2.2.1) (n := 16) hx hb hK.1 hP 1 0 rfl rfl (kIn_ok b18) dX0_gasAgeAt_18 ?_
      refine lv_iadd hx hb dX0_gasAgeAt_19 ?_
      refine lv_istore_n (lv' := [(2, .int (x2 + (vC.2.2.2.2.2.1 x3.toNatClampNeg))), (0, .ref (adC 0)), (1, .int x1), (3, .int x3)]) hx hb dX0_gasAgeAt_20 rfl hl (by decide) rfl (fun ls hl => ?_)
      refine lv_iload_n hx hb dX0_gasAgeAt_21 rfl (lv_at hl 2 rfl) ?_
      refine lv_iload_n hx hb dX0_gasAgeAt_22 rfl (lv_at hl 0 rfl) ?_
      refine lv_icmp_gt (tgt := 42) hx hb dX0_gasAgeAt_23 (by decide) (fun c23 => ?_) (fun c23 => ?_)
      · have h := kT h c23
        refine lv_iinc (v := (x3 + 1)) (lv' := [(3, .int (x3 + 1)), (2, .int (x2 + (vC.2.2.2.2.2.1 x3.toNatClampNeg))), (0, .ref (adC 0)), (1, .int x1)]) hx hb dX0_gasAgeAt_42 hl (k := 3) rfl rfl (by decide) rfl (fun ls hl => ?_)
        refine lv_goto (tgt := 4) hx hb dX0_gasAgeAt_45 (by decide) ?_
        exact hn4 (x2 + (vC.2.2.2.2.2.1 x3.toNatClampNeg)) (x3 + 1) h H locs ls hP hD hS (lv_sub hl [2, 3, 1, 0] rfl)
      · have h := kF h c23
        refine lv_iconst (v := 0) hx hb dX0_gasAgeAt_26 (by decide) ?_
        refine lv_aload_n hx hb dX0_gasAgeAt_27 rfl (lv_at hl 1 rfl) ?_
        refine lv_iload_n hx hb dX0_gasAgeAt_28 rfl (lv_at hl 2 rfl) ?_
        obtain ⟨r29, e29, h⟩ := kBd h
        refine kCallVI (As := [.int x1]) (rest := [.int (0 : Int32)]) (wc := wC ty adC vC) (w1 := wC ty adC vC) (wn := wC ty adC vC) ⟨hx, hb, hml, hown, hts⟩ (cX0_ageAt_ok l D ty adC H.size vC x1  r29 e29) (cwV 1 hts gX0_gasAgeAt_X0_ageAt rfl rfl rfl (by decide +kernel) ⟨Nat.le_of_ble_eq_true rfl, Nat.le_of_ble_eq_true rfl⟩) hP hK hD hS hA [0, 1, 2, 3, 4, 5, 6, 7] (by decide +kernel) rfl 0 0 rfl rfl rfl rfl hl.1 rfl (Nat.le_of_ble_eq_true rfl) dX0_gasAgeAt_29 ⟨Nat.le_of_ble_eq_true rfl, Nat.le_of_ble_eq_true rfl⟩ rfl rfl (fun H locs hP hD hS => ?_)
        refine lv_aload_n hx hb dX0_gasAgeAt_32 rfl (lv_at hl 1 rfl) ?_
        refine lv_iload_n hx hb dX0_gasAgeAt_33 rfl (lv_at hl 3 rfl) ?_
        obtain ⟨r34, e34, h⟩ := kBd h
        refine kCallVI (As := [.int x3]) (rest := [.int r29, .int (0 : Int32)]) (wc := wC ty adC vC) (w1 := wC ty adC vC) (wn := wC ty adC vC) ⟨hx, hb, hml, hown, hts⟩ (cX0_delayOf_ok l D ty adC H.size vC x3  r34 e34) (cwV 1 hts gX0_gasAgeAt_X0_delayOf rfl rfl rfl (by decide +kernel) ⟨Nat.le_of_ble_eq_true rfl, Nat.le_of_ble_eq_true rfl⟩) hP hK hD hS hA [0, 1, 2, 3, 4, 5, 6, 7] (by decide +kernel) rfl 0 0 rfl rfl rfl rfl hl.1 rfl (Nat.le_of_ble_eq_true rfl) dX0_gasAgeAt_34 ⟨Nat.le_of_ble_eq_true rfl, Nat.le_of_ble_eq_true rfl⟩ rfl rfl (fun H locs hP hD hS => ?_)
        refine lv_isub hx hb dX0_gasAgeAt_37 ?_
        refine va_mmax hx hb (hml.trans hl.1.symm) hown wf3 wf4 wf5 wf6 (Nat.le_of_ble_eq_true rfl) (Nat.le_of_ble_eq_true rfl) (Nat.le_of_ble_eq_true rfl) (Nat.le_of_ble_eq_true rfl) dX0_gasAgeAt_38 ?_
        obtain rfl := Option.some.inj h
        subst hQ
        exact W.iret (v := (if (0 : Int32) < (r29 - r34) then (r29 - r34) else (0 : Int32))) hx hb hr (fun t ht hW => ⟨⟨(if (0 : Int32) < (r29 - r34) then (r29 - r34) else (0 : Int32)), (), rfl, rfl, kEnd ht hP⟩, hS.F ht⟩) hS.2.2 dX0_gasAgeAt_41
  have L4 : ∀ (x1 : Int32) (n : Nat) (x2 : Int32) (x3 : Int32), kLoopC n (fun q nx4 => fX0_gasAgeAt_c4 vC x1 q.1 q.2 nx4) (x2, x3) = some res → ∀ (H : Heap) (locs : List Loc) (ls : Array Slot), va_P D vwCl (wC ty adC vC) H → va_D A (wC ty adC vC) → va_S A s.heap H locs → lv_has ls 4 [(0, .ref (adC 0)), (1, .int x1), (2, .int x2), (3, .int x3)] → W p l e (headSpec wsX0_gasAgeAt { frames := 4, cells := 0, slots := 0, locals := 108 }).room s m ([.ref (adC 0), .int p1] : List Value).toArray below meth c H locs 0 0 Q (F0 m 4 ls []) := by
    intro x1 n
    induction n with
    | zero => intro x2 x3 h; exact absurd h (by simp [kLoopC])
    | succ n ih => intro x2 x3 h; exact B4 x1 (kLoopC n (fun q nx4 => fX0_gasAgeAt_c4 vC x1 q.1 q.2 nx4)) ih x2 x3 h
  have hl := lv_entry ([.ref (adC 0), .int p1]) (n := 4) (Nat.le_of_ble_eq_true rfl)
  rw [lg_entry_eq]
  generalize (lg_sl ([.ref (adC 0), .int p1]) ++ List.replicate (4 - (lg_sl ([.ref (adC 0), .int p1])).length) Slot.unset).toArray = ls at hl ⊢
  have hl : lv_has ls 4 [(0, .ref (adC 0)), (1, .int p1)] := hl
  unfold fX0_gasAgeAt at h
  have E0 : ∀ (H : Heap) (locs : List Loc) (ls : Array Slot), va_P D vwCl (wC ty adC vC) H → va_D A (wC ty adC vC) → va_S A s.heap H locs → lv_has ls 4 [(0, .ref (adC 0)), (1, .int p1)] → W p l e (headSpec wsX0_gasAgeAt { frames := 4, cells := 0, slots := 0, locals := 108 }).room s m ([.ref (adC 0), .int p1] : List Value).toArray below meth c H locs 0 0 Q (F0 m 0 ls []) := by
    intro H locs ls hP hD hS hl
    refine lv_iconst (v := 0) hx hb dX0_gasAgeAt_0 (by decide) ?_
    refine lv_istore_n (lv' := [(2, .int (0 : Int32)), (0, .ref (adC 0)), (1, .int p1)]) hx hb dX0_gasAgeAt_1 rfl hl (by decide) rfl (fun ls hl => ?_)
    refine lv_iconst (v := 0) hx hb dX0_gasAgeAt_2 (by decide) ?_
    refine lv_istore_n (lv' := [(3, .int (0 : Int32)), (2, .int (0 : Int32)), (0, .ref (adC 0)), (1, .int p1)]) hx hb dX0_gasAgeAt_3 rfl hl (by decide) rfl (fun ls hl => ?_)
    exact L4 p1  kFu (0 : Int32) (0 : Int32) h H locs ls hP hD hS (lv_sub hl [2, 3, 1, 0] rfl)
  exact E0 s.heap [] ls hP hD hS hl
def fX0_stepsFor (p0 : Int64) (p2 : Int32) (p3 : Int32) : Option (Int32) := if (0 : Int64) < p0 then ((fX4_quotient (((p0 * p3.toInt64) + p2.toInt64) - (1 : Int64)) p2.toInt64).bind fun r19 => some r19.toInt32) else (some (0 : Int32))
set_option maxHeartbeats 4000000 in
set_option maxRecDepth 100000 in
theorem cX0_stepsFor_ok (l : Launch) (D : va_G) (ty : kTy)  (sz : Nat) (p0 : Int64) (p2 : Int32) (p3 : Int32)  (res : Int32) (h : fX0_stepsFor p0 p2 p3 = some res) : kMI l yX0_stepsFor wsX0_stepsFor { frames := 1, cells := 0, slots := 0, locals := 23 } [.long p0, .int p2, .int p3] D ty (([] : va_W)) sz res (([] : va_W)) := by
  refine Met.ofW (cc := cX0_stepsFor) (maxL := 4) (ret := (some .int)) (by decide) rfl ?_
  intro p e s m args below meth c s₁ B hml hv
  obtain ⟨rfl, hsz, hP, hK, hD0⟩ := hv
  have hx := B.exec
  have hb := B.bytes
  have hr := B.returns
  have hts := atoms_spec (ws := wsX0_stepsFor) B.pre
  have hown : s.vm.findClass RX0 = some m.cls := findClass_of_methodNamed B.named
  have hlocks := B.notSynchronized
  subst hsz
  have hD := hD0.self (sz := s.heap.size)
  generalize hAe : va_A (([] : va_W)) s.heap.size = A at hD ⊢
  have hA : ∀ q : Nat, s.heap.size ≤ q → A q := fun q h => by rw [← hAe]; exact Or.inr h
  have hS : va_S A s.heap s.heap [] := va_S.rf
  refine kGenW (fun Q hQ => ?_)
  have wf0 := hts (.initialized RX4) (by decide +kernel)
  have wf1 := hts (.static yX4_quotient) (by decide +kernel)
  have hl := lv_entry ([.long p0, .int p2, .int p3]) (n := 4) (Nat.le_of_ble_eq_true rfl)
  rw [lg_entry_eq]
  generalize (lg_sl ([.long p0, .int p2, .int p3]) ++ List.replicate (4 - (lg_sl ([.long p0, .int p2, .int p3])).length) Slot.unset).toArray = ls at hl ⊢
  have hl : lv_has ls 4 [(0, .long p0), (2, .int p2), (3, .int p3)] := hl
  unfold fX0_stepsFor at h
  have E0 : ∀ (H : Heap) (locs : List Loc) (ls : Array Slot), va_P D vwCl (([] : va_W)) H → va_D A (([] : va_W)) → va_S A s.heap H locs → lv_has ls 4 [(0, .long p0), (2, .int p2), (3, .int p3)] → W p l e (headSpec wsX0_stepsFor { frames := 1, cells := 0, slots := 0, locals := 23 }).room s m ([.long p0, .int p2, .int p3] : List Value).toArray below meth c H locs 0 0 Q (F0 m 0 ls []) := by
    intro H locs ls hP hD hS hl
    refine lv_lload_n hx hb dX0_stepsFor_0 rfl (lv_at hl 0 rfl) ?_
    refine lv_lconst (v := 0) hx hb dX0_stepsFor_1 (by decide) ?_
    refine W.lcmp hx hb dX0_stepsFor_2 ?_
    refine lv_if_gt (tgt := 8) hx hb dX0_stepsFor_3 (by decide) (fun c3 => ?_) (fun c3 => ?_)
    · have h := kT h ((lg_cmp_gt _ _).mp c3)
      refine lv_lload_n hx hb dX0_stepsFor_8 rfl (lv_at hl 0 rfl) ?_
      refine lv_iload_n hx hb dX0_stepsFor_9 rfl (lv_at hl 2 rfl) ?_
      refine lv_i2l hx hb dX0_stepsFor_10 rfl ?_
      refine lv_lmul hx hb dX0_stepsFor_11 ?_
      refine lv_iload_n hx hb dX0_stepsFor_12 rfl (lv_at hl 1 rfl) ?_
      refine lv_i2l hx hb dX0_stepsFor_13 rfl ?_
      refine lv_ladd hx hb dX0_stepsFor_14 ?_
      refine lv_lconst (v := 1) hx hb dX0_stepsFor_15 (by decide) ?_
      refine lv_lsub hx hb dX0_stepsFor_16 ?_
      refine lv_iload_n hx hb dX0_stepsFor_17 rfl (lv_at hl 1 rfl) ?_
      refine lv_i2l hx hb dX0_stepsFor_18 rfl ?_
      obtain ⟨r19, e19, h⟩ := kBd h
      refine kCallNL (As := [.long (((p0 * p3.toInt64) + p2.toInt64) - (1 : Int64)), .long p2.toInt64]) (rest := []) ⟨hx, hb, hml, hown, hts⟩ (cX4_quotient_ok l D ty  H.size (((p0 * p3.toInt64) + p2.toInt64) - (1 : Int64)) p2.toInt64  r19 e19) ⟨va_cnB 2 hts gX0_stepsFor_X4_quotient_n98 rfl rfl rfl hK.2.2.2.2.2.2 wf0 (by decide +kernel) ⟨Nat.le_of_ble_eq_true rfl, Nat.le_of_ble_eq_true rfl⟩, wf1, trivial⟩ hP hK hD hS hA rfl hl.1 rfl (Nat.le_of_ble_eq_true rfl) dX0_stepsFor_19 ⟨Nat.le_of_ble_eq_true rfl, Nat.le_of_ble_eq_true rfl⟩ (fun H locs hP hS => ?_)
      refine lv_l2i hx hb dX0_stepsFor_22 rfl ?_
      obtain rfl := Option.some.inj h
      subst hQ
      exact W.iret (v := r19.toInt32) hx hb hr (fun t ht hW => ⟨⟨r19.toInt32, (), rfl, rfl, kEnd ht hP⟩, hS.F ht⟩) hS.2.2 dX0_stepsFor_23
    · have h := kF h (fun z => c3 ((lg_cmp_gt _ _).mpr z))
      refine lv_iconst (v := 0) hx hb dX0_stepsFor_6 (by decide) ?_
      obtain rfl := Option.some.inj h
      subst hQ
      exact W.iret (v := (0 : Int32)) hx hb hr (fun t ht hW => ⟨⟨(0 : Int32), (), rfl, rfl, kEnd ht hP⟩, hS.F ht⟩) hS.2.2 dX0_stepsFor_7
  exact E0 s.heap [] ls hP hD hS hl
def fX0_leastDepthOf_c7 (vC : KC) (x1 : Int32) (x2 : Int32) (x3 : Int64) (x5 : Int32) (nx7 : Int32 × Int64 × Int32 → Option (Int32)) : Option (Int32) := if vC.1 ≤ x5 then (some (-1000000005 : Int32)) else ((fX0_yearsOf vC x5 vC.2.2.1 vC.2.2.2.1).bind fun r27 => if (x3 + r27.toInt64) < x1.toInt64 then (if kIn x5 16 = true then (nx7 ((x2 + (vC.2.2.2.2.2.1 x5.toNatClampNeg)), (x3 + r27.toInt64), (x5 + 1))) else none) else (if kIn x5 16 = true then ((fX0_stepsFor (x1.toInt64 - x3) r27 (vC.2.2.2.2.2.1 x5.toNatClampNeg)).bind fun r57 => some (x2 + r57)) else none))
def fX0_leastDepthOf (vC : KC) (p1 : Int32) : Option (Int32) := kLoopC kFu (fun q nx7 => fX0_leastDepthOf_c7 vC p1 q.1 q.2.1 q.2.2 nx7) ((0 : Int32), (0 : Int64), (0 : Int32))
set_option maxHeartbeats 4000000 in
set_option maxRecDepth 100000 in
theorem cX0_leastDepthOf_ok (l : Launch) (D : va_G) (ty : kTy) (adC : Nat → Nat) (sz : Nat) (vC : KC) (p1 : Int32)  (res : Int32) (h : fX0_leastDepthOf vC p1 = some res) : kMI l yX0_leastDepthOf wsX0_leastDepthOf { frames := 3, cells := 0, slots := 0, locals := 82 } [.ref (adC 0), .int p1] D ty (wC ty adC vC) sz res (wC ty adC vC) := by
  refine Met.ofW (cc := cX0_leastDepthOf) (maxL := 7) (ret := (some .int)) (by decide) rfl ?_
  intro p e s m args below meth c s₁ B hml hv
  obtain ⟨rfl, hsz, hP, hK, hD0⟩ := hv
  have hx := B.exec
  have hb := B.bytes
  have hr := B.returns
  have hts := atoms_spec (ws := wsX0_leastDepthOf) B.pre
  have hown : s.vm.findClass RX0 = some m.cls := findClass_of_methodNamed B.named
  have hlocks := B.notSynchronized
  subst hsz
  have hD := hD0.self (sz := s.heap.size)
  generalize hAe : va_A (wC ty adC vC) s.heap.size = A at hD ⊢
  have hA : ∀ q : Nat, s.heap.size ≤ q → A q := fun q h => by rw [← hAe]; exact Or.inr h
  have hS : va_S A s.heap s.heap [] := va_S.rf
  refine kGenW (fun Q hQ => ?_)
  have wf0 := hts (.fieldLink RX0 9 "IceCoreDater$Core" "size" "I") (by decide +kernel)
  have hinX0 : ∀ w ∈ wsX00, w ∈ wsX0_leastDepthOf := by decide +kernel
  have wf2 := hts (.constant RX0 138 (-1000000005)) (by decide +kernel)
  have wf3 := hts (.fieldLink RX0 19 "IceCoreDater$Core" "function" "I") (by decide +kernel)
  have wf4 := hts (.fieldLink RX0 22 "IceCoreDater$Core" "kink" "I") (by decide +kernel)
  have wf5 := hts (.fieldLink RX0 28 "IceCoreDater$Core" "thickness" "[I") (by decide +kernel)
  have B7 : ∀ (x1 : Int32) (nx7 : Int32 × Int64 × Int32 → Option (Int32)) (hn7 : ∀ (x2 : Int32) (x3 : Int64) (x5 : Int32), nx7 (x2, x3, x5) = some res → ∀ (H : Heap) (locs : List Loc) (ls : Array Slot), va_P D vwCl (wC ty adC vC) H → va_D A (wC ty adC vC) → va_S A s.heap H locs → lv_has ls 7 [(0, .ref (adC 0)), (1, .int x1), (2, .int x2), (3, .long x3), (5, .int x5)] → W p l e (headSpec wsX0_leastDepthOf { frames := 3, cells := 0, slots := 0, locals := 82 }).room s m ([.ref (adC 0), .int p1] : List Value).toArray below meth c H locs 0 0 Q (F0 m 7 ls [])) (x2 : Int32) (x3 : Int64) (x5 : Int32), fX0_leastDepthOf_c7 vC x1 x2 x3 x5 nx7 = some res → ∀ (H : Heap) (locs : List Loc) (ls : Array Slot), va_P D vwCl (wC ty adC vC) H → va_D A (wC ty adC vC) → va_S A s.heap H locs → lv_has ls 7 [(0, .ref (adC 0)), (1, .int x1), (2, .int x2), (3, .long x3), (5, .int x5)] → W p l e (headSpec wsX0_leastDepthOf { frames := 3, cells := 0, slots := 0, locals := 82 }).room s m ([.ref (adC 0), .int p1] : List Value).toArray below meth c H locs 0 0 Q (F0 m 7 ls []) := by
    intro x1 nx7 hn7 x2 x3 x5 h H locs ls hP hD hS hl
    unfold fX0_leastDepthOf_c7 at h
    refine lv_iload hx hb dX0_leastDepthOf_7 (lv_at hl 4 rfl) ?_
    refine lv_aload_n hx hb dX0_leastDepthOf_9 rfl (lv_at hl 0 rfl) ?_
    refine va_get (D := D) (ci := 0) (v := .int vC.1) (C := RX0) (T := TX0) (N := 12) hx hb hts hinX0 hown hK.1 hP 0 rfl rfl 0 (by decide) wf0 (fun _ h9 => h9) rfl dX0_leastDepthOf_10 ?_
    refine lv_icmp_ge (tgt := 84) hx hb dX0_leastDepthOf_13 (by decide) (fun c13 => ?_) (fun c13 => ?_)
    · have h := kT h c13
      refine lv_ldc hx hb hown wf2 dX0_leastDepthOf_84 ?_
      obtain rfl := Option.some.inj h
      subst hQ
      exact W.iret (v := (-1000000005 : Int32)) hx hb hr (fun t ht hW => ⟨⟨(-1000000005 : Int32), (), rfl, rfl, kEnd ht hP⟩, hS.F ht⟩) hS.2.2 dX0_leastDepthOf_86
    · have h := kF h c13
      refine lv_aload_n hx hb dX0_leastDepthOf_16 rfl (lv_at hl 0 rfl) ?_
      refine lv_iload hx hb dX0_leastDepthOf_17 (lv_at hl 4 rfl) ?_
      refine lv_aload_n hx hb dX0_leastDepthOf_19 rfl (lv_at hl 0 rfl) ?_
      refine va_get (D := D) (ci := 0) (v := .int vC.2.2.1) (C := RX0) (T := TX0) (N := 12) hx hb hts hinX0 hown hK.1 hP 0 rfl rfl 2 (by decide) wf3 (fun _ h9 => h9) rfl dX0_leastDepthOf_20 ?_
      refine lv_aload_n hx hb dX0_leastDepthOf_23 rfl (lv_at hl 0 rfl) ?_
      refine va_get (D := D) (ci := 0) (v := .int vC.2.2.2.1) (C := RX0) (T := TX0) (N := 12) hx hb hts hinX0 hown hK.1 hP 0 rfl rfl 3 (by decide) wf4 (fun _ h9 => h9) rfl dX0_leastDepthOf_24 ?_
      obtain ⟨r27, e27, h⟩ := kBd h
      refine kCallVI (As := [.int x5, .int vC.2.2.1, .int vC.2.2.2.1]) (rest := []) (wc := wC ty adC vC) (w1 := wC ty adC vC) (wn := wC ty adC vC) ⟨hx, hb, hml, hown, hts⟩ (cX0_yearsOf_ok l D ty adC H.size vC x5 vC.2.2.1 vC.2.2.2.1  r27 e27) (cwV 3 hts gX0_leastDepthOf_X0_yearsOf rfl rfl rfl (by decide +kernel) ⟨Nat.le_of_ble_eq_true rfl, Nat.le_of_ble_eq_true rfl⟩) hP hK hD hS hA [0, 1, 2, 3, 4, 5, 6, 7] (by decide +kernel) rfl 0 0 rfl rfl rfl rfl hl.1 rfl (Nat.le_of_ble_eq_true rfl) dX0_leastDepthOf_27 ⟨Nat.le_of_ble_eq_true rfl, Nat.le_of_ble_eq_true rfl⟩ rfl rfl (fun H locs hP hD hS => ?_)
      refine lv_istore (lv' := [(6, .int r27), (0, .ref (adC 0)), (1, .int x1), (2, .int x2), (3, .long x3), (5, .int x5)]) hx hb dX0_leastDepthOf_30 hl (by decide) rfl (fun ls hl => ?_)
      refine lv_lload_n hx hb dX0_leastDepthOf_32 rfl (lv_at hl 4 rfl) ?_
      refine lv_iload hx hb dX0_leastDepthOf_33 (lv_at hl 0 rfl) ?_
      refine lv_i2l hx hb dX0_leastDepthOf_35 rfl ?_
      refine lv_ladd hx hb dX0_leastDepthOf_36 ?_
      refine lv_iload_n hx hb dX0_leastDepthOf_37 rfl (lv_at hl 2 rfl) ?_
      refine lv_i2l hx hb dX0_leastDepthOf_38 rfl ?_
      refine W.lcmp hx hb dX0_leastDepthOf_39 ?_
      refine lv_if_lt (tgt := 62) hx hb dX0_leastDepthOf_40 (by decide) (fun c40 => ?_) (fun c40 => ?_)
      · have h := kT h ((lg_cmp_lt _ _).mp c40)
        refine lv_iload_n hx hb dX0_leastDepthOf_62 rfl (lv_at hl 3 rfl) ?_
        refine lv_aload_n hx hb dX0_leastDepthOf_63 rfl (lv_at hl 1 rfl) ?_
        refine va_get (D := D) (ci := 0) (v := .ref (adC 1)) (C := RX0) (T := TX0) (N := 12) hx hb hts hinX0 hown hK.1 hP 0 rfl rfl 5 (by decide) wf5 (fun _ h9 => h9) rfl dX0_leastDepthOf_64 ?_
        refine lv_iload hx hb dX0_leastDepthOf_67 (lv_at hl 5 rfl) ?_
        obtain ⟨b69, h⟩ := kIf h
        refine va_iald (f := vC.2.2.2.2.2.1) (n := 16) hx hb hK.1 hP 1 0 rfl rfl (kIn_ok b69) dX0_leastDepthOf_69 ?_
        refine lv_iadd hx hb dX0_leastDepthOf_70 ?_
        refine lv_istore_n (lv' := [(2, .int (x2 + (vC.2.2.2.2.2.1 x5.toNatClampNeg))), (6, .int r27), (0, .ref (adC 0)), (1, .int x1), (3, .long x3), (5, .int x5)]) hx hb dX0_leastDepthOf_71 rfl hl (by decide) rfl (fun ls hl => ?_)
        refine lv_lload_n hx hb dX0_leastDepthOf_72 rfl (lv_at hl 4 rfl) ?_
        refine lv_iload hx hb dX0_leastDepthOf_73 (lv_at hl 1 rfl) ?_
        refine lv_i2l hx hb dX0_leastDepthOf_75 rfl ?_
        refine lv_ladd hx hb dX0_leastDepthOf_76 ?_
        refine lv_lstore_n (lv' := [(3, .long (x3 + r27.toInt64)), (2, .int (x2 + (vC.2.2.2.2.2.1 x5.toNatClampNeg))), (6, .int r27), (0, .ref (adC 0)), (1, .int x1), (5, .int x5)]) hx hb dX0_leastDepthOf_77 rfl hl (by decide) rfl (fun ls hl => ?_)
        refine lv_iinc (v := (x5 + 1)) (lv' := [(5, .int (x5 + 1)), (3, .long (x3 + r27.toInt64)), (2, .int (x2 + (vC.2.2.2.2.2.1 x5.toNatClampNeg))), (6, .int r27), (0, .ref (adC 0)), (1, .int x1)]) hx hb dX0_leastDepthOf_78 hl (k := 5) rfl rfl (by decide) rfl (fun ls hl => ?_)
        refine lv_goto (tgt := 7) hx hb dX0_leastDepthOf_81 (by decide) ?_
        exact hn7 (x2 + (vC.2.2.2.2.2.1 x5.toNatClampNeg)) (x3 + r27.toInt64) (x5 + 1) h H locs ls hP hD hS (lv_sub hl [4, 5, 2, 1, 0] rfl)
      · have h := kF h (fun z => c40 ((lg_cmp_lt _ _).mpr z))
        refine lv_iload_n hx hb dX0_leastDepthOf_43 rfl (lv_at hl 3 rfl) ?_
        refine lv_iload_n hx hb dX0_leastDepthOf_44 rfl (lv_at hl 2 rfl) ?_
        refine lv_i2l hx hb dX0_leastDepthOf_45 rfl ?_
        refine lv_lload_n hx hb dX0_leastDepthOf_46 rfl (lv_at hl 4 rfl) ?_
        refine lv_lsub hx hb dX0_leastDepthOf_47 ?_
        refine lv_iload hx hb dX0_leastDepthOf_48 (lv_at hl 0 rfl) ?_
        refine lv_aload_n hx hb dX0_leastDepthOf_50 rfl (lv_at hl 1 rfl) ?_
        refine va_get (D := D) (ci := 0) (v := .ref (adC 1)) (C := RX0) (T := TX0) (N := 12) hx hb hts hinX0 hown hK.1 hP 0 rfl rfl 5 (by decide) wf5 (fun _ h9 => h9) rfl dX0_leastDepthOf_51 ?_
        refine lv_iload hx hb dX0_leastDepthOf_54 (lv_at hl 5 rfl) ?_
        obtain ⟨b56, h⟩ := kIf h
        refine va_iald (f := vC.2.2.2.2.2.1) (n := 16) hx hb hK.1 hP 1 0 rfl rfl (kIn_ok b56) dX0_leastDepthOf_56 ?_
        obtain ⟨r57, e57, h⟩ := kBd h
        refine kCallSI (As := [.long (x1.toInt64 - x3), .int r27, .int (vC.2.2.2.2.2.1 x5.toNatClampNeg)]) (rest := [.int x2]) ⟨hx, hb, hml, hown, hts⟩ (cX0_stepsFor_ok l D ty  H.size (x1.toInt64 - x3) r27 (vC.2.2.2.2.2.1 x5.toNatClampNeg)  r57 e57) (va_cwS 3 hts gX0_leastDepthOf_X0_stepsFor rfl rfl rfl (by decide +kernel) ⟨Nat.le_of_ble_eq_true rfl, Nat.le_of_ble_eq_true rfl⟩) hP hK hD hS hA rfl hl.1 rfl (Nat.le_of_ble_eq_true rfl) dX0_leastDepthOf_57 ⟨Nat.le_of_ble_eq_true rfl, Nat.le_of_ble_eq_true rfl⟩ (fun H locs hP hS => ?_)
        refine lv_iadd hx hb dX0_leastDepthOf_60 ?_
        obtain rfl := Option.some.inj h
        subst hQ
        exact W.iret (v := (x2 + r57)) hx hb hr (fun t ht hW => ⟨⟨(x2 + r57), (), rfl, rfl, kEnd ht hP⟩, hS.F ht⟩) hS.2.2 dX0_leastDepthOf_61
  have L7 : ∀ (x1 : Int32) (n : Nat) (x2 : Int32) (x3 : Int64) (x5 : Int32), kLoopC n (fun q nx7 => fX0_leastDepthOf_c7 vC x1 q.1 q.2.1 q.2.2 nx7) (x2, x3, x5) = some res → ∀ (H : Heap) (locs : List Loc) (ls : Array Slot), va_P D vwCl (wC ty adC vC) H → va_D A (wC ty adC vC) → va_S A s.heap H locs → lv_has ls 7 [(0, .ref (adC 0)), (1, .int x1), (2, .int x2), (3, .long x3), (5, .int x5)] → W p l e (headSpec wsX0_leastDepthOf { frames := 3, cells := 0, slots := 0, locals := 82 }).room s m ([.ref (adC 0), .int p1] : List Value).toArray below meth c H locs 0 0 Q (F0 m 7 ls []) := by
    intro x1 n
    induction n with
    | zero => intro x2 x3 x5 h; exact absurd h (by simp [kLoopC])
    | succ n ih => intro x2 x3 x5 h; exact B7 x1 (kLoopC n (fun q nx7 => fX0_leastDepthOf_c7 vC x1 q.1 q.2.1 q.2.2 nx7)) ih x2 x3 x5 h
  have hl := lv_entry ([.ref (adC 0), .int p1]) (n := 7) (Nat.le_of_ble_eq_true rfl)
  rw [lg_entry_eq]
  generalize (lg_sl ([.ref (adC 0), .int p1]) ++ List.replicate (7 - (lg_sl ([.ref (adC 0), .int p1])).length) Slot.unset).toArray = ls at hl ⊢
  have hl : lv_has ls 7 [(0, .ref (adC 0)), (1, .int p1)] := hl
  unfold fX0_leastDepthOf at h
  have E0 : ∀ (H : Heap) (locs : List Loc) (ls : Array Slot), va_P D vwCl (wC ty adC vC) H → va_D A (wC ty adC vC) → va_S A s.heap H locs → lv_has ls 7 [(0, .ref (adC 0)), (1, .int p1)] → W p l e (headSpec wsX0_leastDepthOf { frames := 3, cells := 0, slots := 0, locals := 82 }).room s m ([.ref (adC 0), .int p1] : List Value).toArray below meth c H locs 0 0 Q (F0 m 0 ls []) := by
    intro H locs ls hP hD hS hl
    refine lv_iconst (v := 0) hx hb dX0_leastDepthOf_0 (by decide) ?_
    refine lv_istore_n (lv' := [(2, .int (0 : Int32)), (0, .ref (adC 0)), (1, .int p1)]) hx hb dX0_leastDepthOf_1 rfl hl (by decide) rfl (fun ls hl => ?_)
    refine lv_lconst (v := 0) hx hb dX0_leastDepthOf_2 (by decide) ?_
    refine lv_lstore_n (lv' := [(3, .long (0 : Int64)), (2, .int (0 : Int32)), (0, .ref (adC 0)), (1, .int p1)]) hx hb dX0_leastDepthOf_3 rfl hl (by decide) rfl (fun ls hl => ?_)
    refine lv_iconst (v := 0) hx hb dX0_leastDepthOf_4 (by decide) ?_
    refine lv_istore (lv' := [(5, .int (0 : Int32)), (3, .long (0 : Int64)), (2, .int (0 : Int32)), (0, .ref (adC 0)), (1, .int p1)]) hx hb dX0_leastDepthOf_5 hl (by decide) rfl (fun ls hl => ?_)
    exact L7 p1  kFu (0 : Int32) (0 : Int64) (0 : Int32) h H locs ls hP hD hS (lv_sub hl [3, 4, 2, 1, 0] rfl)
  exact E0 s.heap [] ls hP hD hS hl
def fX0_leastGasDepthOf_c25 (vC : KC) (x1 : Int32) (x2 : Int32) (x3 : Int64) (x5 : Int32) (nx25 : Int32 × Int64 × Int32 → Option (Int32)) : Option (Int32) := if vC.1 ≤ x5 then (some (-1000000005 : Int32)) else ((fX0_yearsOf vC x5 vC.2.2.1 vC.2.2.2.1).bind fun r45 => (fX0_delayOf vC x5).bind fun r55 => if r45.toInt64 < ((x1.toInt64 + r55.toInt64) - x3) then (if kIn x5 16 = true then (nx25 ((x2 + (vC.2.2.2.2.2.1 x5.toNatClampNeg)), (x3 + r45.toInt64), (x5 + 1))) else none) else (if kIn x5 16 = true then ((fX0_stepsFor ((x1.toInt64 + r55.toInt64) - x3) r45 (vC.2.2.2.2.2.1 x5.toNatClampNeg)).bind fun r86 => some (x2 + (if (1 : Int32) < r86 then r86 else (1 : Int32)))) else none))
def fX0_leastGasDepthOf (vC : KC) (p1 : Int32) : Option (Int32) := if ¬ p1 = (0 : Int32) then (kLoopC kFu (fun q nx25 => fX0_leastGasDepthOf_c25 vC p1 q.1 q.2.1 q.2.2 nx25) ((0 : Int32), (0 : Int64), (0 : Int32))) else (if ¬ vC.1 = (0 : Int32) then (some (0 : Int32)) else (some (-1000000005 : Int32)))
set_option maxHeartbeats 4000000 in
set_option maxRecDepth 100000 in
theorem cX0_leastGasDepthOf_ok (l : Launch) (D : va_G) (ty : kTy) (adC : Nat → Nat) (sz : Nat) (vC : KC) (p1 : Int32)  (res : Int32) (h : fX0_leastGasDepthOf vC p1 = some res) : kMI l yX0_leastGasDepthOf wsX0_leastGasDepthOf { frames := 3, cells := 0, slots := 0, locals := 82 } [.ref (adC 0), .int p1] D ty (wC ty adC vC) sz res (wC ty adC vC) := by
  refine Met.ofW (cc := cX0_leastGasDepthOf) (maxL := 9) (ret := (some .int)) (by decide) rfl ?_
  intro p e s m args below meth c s₁ B hml hv
  obtain ⟨rfl, hsz, hP, hK, hD0⟩ := hv
  have hx := B.exec
  have hb := B.bytes
  have hr := B.returns
  have hts := atoms_spec (ws := wsX0_leastGasDepthOf) B.pre
  have hown : s.vm.findClass RX0 = some m.cls := findClass_of_methodNamed B.named
  have hlocks := B.notSynchronized
  subst hsz
  have hD := hD0.self (sz := s.heap.size)
  generalize hAe : va_A (wC ty adC vC) s.heap.size = A at hD ⊢
  have hA : ∀ q : Nat, s.heap.size ≤ q → A q := fun q h => by rw [← hAe]; exact Or.inr h
  have hS : va_S A s.heap s.heap [] := va_S.rf
  refine kGenW (fun Q hQ => ?_)
  have wf0 := hts (.fieldLink RX0 9 "IceCoreDater$Core" "size" "I") (by decide +kernel)
  have hinX0 : ∀ w ∈ wsX00, w ∈ wsX0_leastGasDepthOf := by decide +kernel
  have wf2 := hts (.constant RX0 138 (-1000000005)) (by decide +kernel)
  have wf3 := hts (.fieldLink RX0 19 "IceCoreDater$Core" "function" "I") (by decide +kernel)
  have wf4 := hts (.fieldLink RX0 22 "IceCoreDater$Core" "kink" "I") (by decide +kernel)
  have wf5 := hts (.fieldLink RX0 28 "IceCoreDater$Core" "thickness" "[I") (by decide +kernel)
  have wf6 := hts (.methodLink RX0 131 Lib.Math.max.name) (by decide +kernel)
  have wf7 := hts (.static Lib.Math.max.name) (by decide +kernel)
  have wf8 := hts (.initialized "java/lang/Math") (by decide +kernel)
  have wf9 := hts (.code Lib.Math.max.name Lib.Math.max.code 2 (some .int)) (by decide +kernel)
  have B25 : ∀ (x1 : Int32) (nx25 : Int32 × Int64 × Int32 → Option (Int32)) (hn25 : ∀ (x2 : Int32) (x3 : Int64) (x5 : Int32), nx25 (x2, x3, x5) = some res → ∀ (H : Heap) (locs : List Loc) (ls : Array Slot), va_P D vwCl (wC ty adC vC) H → va_D A (wC ty adC vC) → va_S A s.heap H locs → lv_has ls 9 [(0, .ref (adC 0)), (1, .int x1), (2, .int x2), (3, .long x3), (5, .int x5)] → W p l e (headSpec wsX0_leastGasDepthOf { frames := 3, cells := 0, slots := 0, locals := 82 }).room s m ([.ref (adC 0), .int p1] : List Value).toArray below meth c H locs 0 0 Q (F0 m 25 ls [])) (x2 : Int32) (x3 : Int64) (x5 : Int32), fX0_leastGasDepthOf_c25 vC x1 x2 x3 x5 nx25 = some res → ∀ (H : Heap) (locs : List Loc) (ls : Array Slot), va_P D vwCl (wC ty adC vC) H → va_D A (wC ty adC vC) → va_S A s.heap H locs → lv_has ls 9 [(0, .ref (adC 0)), (1, .int x1), (2, .int x2), (3, .long x3), (5, .int x5)] → W p l e (headSpec wsX0_leastGasDepthOf { frames := 3, cells := 0, slots := 0, locals := 82 }).room s m ([.ref (adC 0), .int p1] : List Value).toArray below meth c H locs 0 0 Q (F0 m 25 ls []) := by
    intro x1 nx25 hn25 x2 x3 x5 h H locs ls hP hD hS hl
    unfold fX0_leastGasDepthOf_c25 at h
    refine lv_iload hx hb dX0_leastGasDepthOf_25 (lv_at hl 4 rfl) ?_
    refine lv_aload_n hx hb dX0_leastGasDepthOf_27 rfl (lv_at hl 0 rfl) ?_
    refine va_get (D := D) (ci := 0) (v := .int vC.1) (C := RX0) (T := TX0) (N := 12) hx hb hts hinX0 hown hK.1 hP 0 rfl rfl 0 (by decide) wf0 (fun _ h9 => h9) rfl dX0_leastGasDepthOf_28 ?_
    refine lv_icmp_ge (tgt := 116) hx hb dX0_leastGasDepthOf_31 (by decide) (fun c31 => ?_) (fun c31 => ?_)
    · have h := kT h c31
      refine lv_ldc hx hb hown wf2 dX0_leastGasDepthOf_116 ?_
      obtain rfl := Option.some.inj h
      subst hQ
      exact W.iret (v := (-1000000005 : Int32)) hx hb hr (fun t ht hW => ⟨⟨(-1000000005 : Int32), (), rfl, rfl, kEnd ht hP⟩, hS.F ht⟩) hS.2.2 dX0_leastGasDepthOf_118
    · have h := kF h c31
      refine lv_aload_n hx hb dX0_leastGasDepthOf_34 rfl (lv_at hl 0 rfl) ?_
      refine lv_iload hx hb dX0_leastGasDepthOf_35 (lv_at hl 4 rfl) ?_
      refine lv_aload_n hx hb dX0_leastGasDepthOf_37 rfl (lv_at hl 0 rfl) ?_
      refine va_get (D := D) (ci := 0) (v := .int vC.2.2.1) (C := RX0) (T := TX0) (N := 12) hx hb hts hinX0 hown hK.1 hP 0 rfl rfl 2 (by decide) wf3 (fun _ h9 => h9) rfl dX0_leastGasDepthOf_38 ?_
      refine lv_aload_n hx hb dX0_leastGasDepthOf_41 rfl (lv_at hl 0 rfl) ?_
      refine va_get (D := D) (ci := 0) (v := .int vC.2.2.2.1) (C := RX0) (T := TX0) (N := 12) hx hb hts hinX0 hown hK.1 hP 0 rfl rfl 3 (by decide) wf4 (fun _ h9 => h9) rfl dX0_leastGasDepthOf_42 ?_
      obtain ⟨r45, e45, h⟩ := kBd h
      refine kCallVI (As := [.int x5, .int vC.2.2.1, .int vC.2.2.2.1]) (rest := []) (wc := wC ty adC vC) (w1 := wC ty adC vC) (wn := wC ty adC vC) ⟨hx, hb, hml, hown, hts⟩ (cX0_yearsOf_ok l D ty adC H.size vC x5 vC.2.2.1 vC.2.2.2.1  r45 e45) (cwV 3 hts gX0_leastGasDepthOf_X0_yearsOf rfl rfl rfl (by decide +kernel) ⟨Nat.le_of_ble_eq_true rfl, Nat.le_of_ble_eq_true rfl⟩) hP hK hD hS hA [0, 1, 2, 3, 4, 5, 6, 7] (by decide +kernel) rfl 0 0 rfl rfl rfl rfl hl.1 rfl (Nat.le_of_ble_eq_true rfl) dX0_leastGasDepthOf_45 ⟨Nat.le_of_ble_eq_true rfl, Nat.le_of_ble_eq_true rfl⟩ rfl rfl (fun H locs hP hD hS => ?_)
      refine lv_istore (lv' := [(6, .int r45), (0, .ref (adC 0)), (1, .int x1), (2, .int x2), (3, .long x3), (5, .int x5)]) hx hb dX0_leastGasDepthOf_48 hl (by decide) rfl (fun ls hl => ?_)
      refine lv_iload_n hx hb dX0_leastGasDepthOf_50 rfl (lv_at hl 2 rfl) ?_
      refine lv_i2l hx hb dX0_leastGasDepthOf_51 rfl ?_
      refine lv_aload_n hx hb dX0_leastGasDepthOf_52 rfl (lv_at hl 1 rfl) ?_
      refine lv_iload hx hb dX0_leastGasDepthOf_53 (lv_at hl 5 rfl) ?_
      obtain ⟨r55, e55, h⟩ := kBd h
      refine kCallVI (As := [.int x5]) (rest := [.long x1.toInt64]) (wc := wC ty adC vC) (w1 := wC ty adC vC) (wn := wC ty adC vC) ⟨hx, hb, hml, hown, hts⟩ (cX0_delayOf_ok l D ty adC H.size vC x5  r55 e55) (cwV 1 hts gX0_leastGasDepthOf_X0_delayOf rfl rfl rfl (by decide +kernel) ⟨Nat.le_of_ble_eq_true rfl, Nat.le_of_ble_eq_true rfl⟩) hP hK hD hS hA [0, 1, 2, 3, 4, 5, 6, 7] (by decide +kernel) rfl 0 0 rfl rfl rfl rfl hl.1 rfl (Nat.le_of_ble_eq_true rfl) dX0_leastGasDepthOf_55 ⟨Nat.le_of_ble_eq_true rfl, Nat.le_of_ble_eq_true rfl⟩ rfl rfl (fun H locs hP hD hS => ?_)
      refine lv_i2l hx hb dX0_leastGasDepthOf_58 rfl ?_
      refine lv_ladd hx hb dX0_leastGasDepthOf_59 ?_
      refine lv_lload_n hx hb dX0_leastGasDepthOf_60 rfl (lv_at hl 4 rfl) ?_
      refine lv_lsub hx hb dX0_leastGasDepthOf_61 ?_
      refine lv_lstore (lv' := [(7, .long ((x1.toInt64 + r55.toInt64) - x3)), (6, .int r45), (0, .ref (adC 0)), (1, .int x1), (2, .int x2), (3, .long x3), (5, .int x5)]) hx hb dX0_leastGasDepthOf_62 hl (by decide) rfl (fun ls hl => ?_)
      refine lv_iload hx hb dX0_leastGasDepthOf_64 (lv_at hl 1 rfl) ?_
      refine lv_i2l hx hb dX0_leastGasDepthOf_66 rfl ?_
      refine lv_lload hx hb dX0_leastGasDepthOf_67 (lv_at hl 0 rfl) ?_
      refine W.lcmp hx hb dX0_leastGasDepthOf_69 ?_
      refine lv_if_lt (tgt := 94) hx hb dX0_leastGasDepthOf_70 (by decide) (fun c70 => ?_) (fun c70 => ?_)
      · have h := kT h ((lg_cmp_lt _ _).mp c70)
        refine lv_iload_n hx hb dX0_leastGasDepthOf_94 rfl (lv_at hl 4 rfl) ?_
        refine lv_aload_n hx hb dX0_leastGasDepthOf_95 rfl (lv_at hl 2 rfl) ?_
        refine va_get (D := D) (ci := 0) (v := .ref (adC 1)) (C := RX0) (T := TX0) (N := 12) hx hb hts hinX0 hown hK.1 hP 0 rfl rfl 5 (by decide) wf5 (fun _ h9 => h9) rfl dX0_leastGasDepthOf_96 ?_
        refine lv_iload hx hb dX0_leastGasDepthOf_99 (lv_at hl 6 rfl) ?_
        obtain ⟨b101, h⟩ := kIf h
        refine va_iald (f := vC.2.2.2.2.2.1) (n := 16) hx hb hK.1 hP 1 0 rfl rfl (kIn_ok b101) dX0_leastGasDepthOf_101 ?_
        refine lv_iadd hx hb dX0_leastGasDepthOf_102 ?_
        refine lv_istore_n (lv' := [(2, .int (x2 + (vC.2.2.2.2.2.1 x5.toNatClampNeg))), (7, .long ((x1.toInt64 + r55.toInt64) - x3)), (6, .int r45), (0, .ref (adC 0)), (1, .int x1), (3, .long x3), (5, .int x5)]) hx hb dX0_leastGasDepthOf_103 rfl hl (by decide) rfl (fun ls hl => ?_)
        refine lv_lload_n hx hb dX0_leastGasDepthOf_104 rfl (lv_at hl 5 rfl) ?_
        refine lv_iload hx hb dX0_leastGasDepthOf_105 (lv_at hl 2 rfl) ?_
        refine lv_i2l hx hb dX0_leastGasDepthOf_107 rfl ?_
        refine lv_ladd hx hb dX0_leastGasDepthOf_108 ?_
        refine lv_lstore_n (lv' := [(3, .long (x3 + r45.toInt64)), (2, .int (x2 + (vC.2.2.2.2.2.1 x5.toNatClampNeg))), (7, .long ((x1.toInt64 + r55.toInt64) - x3)), (6, .int r45), (0, .ref (adC 0)), (1, .int x1), (5, .int x5)]) hx hb dX0_leastGasDepthOf_109 rfl hl (by decide) rfl (fun ls hl => ?_)
        refine lv_iinc (v := (x5 + 1)) (lv' := [(5, .int (x5 + 1)), (3, .long (x3 + r45.toInt64)), (2, .int (x2 + (vC.2.2.2.2.2.1 x5.toNatClampNeg))), (7, .long ((x1.toInt64 + r55.toInt64) - x3)), (6, .int r45), (0, .ref (adC 0)), (1, .int x1)]) hx hb dX0_leastGasDepthOf_110 hl (k := 6) rfl rfl (by decide) rfl (fun ls hl => ?_)
        refine lv_goto (tgt := 25) hx hb dX0_leastGasDepthOf_113 (by decide) ?_
        exact hn25 (x2 + (vC.2.2.2.2.2.1 x5.toNatClampNeg)) (x3 + r45.toInt64) (x5 + 1) h H locs ls hP hD hS (lv_sub hl [5, 6, 2, 1, 0] rfl)
      · have h := kF h (fun z => c70 ((lg_cmp_lt _ _).mpr z))
        refine lv_iload_n hx hb dX0_leastGasDepthOf_73 rfl (lv_at hl 4 rfl) ?_
        refine lv_iconst (v := 1) hx hb dX0_leastGasDepthOf_74 (by decide) ?_
        refine lv_lload hx hb dX0_leastGasDepthOf_75 (lv_at hl 0 rfl) ?_
        refine lv_iload hx hb dX0_leastGasDepthOf_77 (lv_at hl 1 rfl) ?_
        refine lv_aload_n hx hb dX0_leastGasDepthOf_79 rfl (lv_at hl 2 rfl) ?_
        refine va_get (D := D) (ci := 0) (v := .ref (adC 1)) (C := RX0) (T := TX0) (N := 12) hx hb hts hinX0 hown hK.1 hP 0 rfl rfl 5 (by decide) wf5 (fun _ h9 => h9) rfl dX0_leastGasDepthOf_80 ?_
        refine lv_iload hx hb dX0_leastGasDepthOf_83 (lv_at hl 6 rfl) ?_
        obtain ⟨b85, h⟩ := kIf h
        refine va_iald (f := vC.2.2.2.2.2.1) (n := 16) hx hb hK.1 hP 1 0 rfl rfl (kIn_ok b85) dX0_leastGasDepthOf_85 ?_
        obtain ⟨r86, e86, h⟩ := kBd h
        refine kCallSI (As := [.long ((x1.toInt64 + r55.toInt64) - x3), .int r45, .int (vC.2.2.2.2.2.1 x5.toNatClampNeg)]) (rest := [.int (1 : Int32), .int x2]) ⟨hx, hb, hml, hown, hts⟩ (cX0_stepsFor_ok l D ty  H.size ((x1.toInt64 + r55.toInt64) - x3) r45 (vC.2.2.2.2.2.1 x5.toNatClampNeg)  r86 e86) (va_cwS 3 hts gX0_leastGasDepthOf_X0_stepsFor rfl rfl rfl (by decide +kernel) ⟨Nat.le_of_ble_eq_true rfl, Nat.le_of_ble_eq_true rfl⟩) hP hK hD hS hA rfl hl.1 rfl (Nat.le_of_ble_eq_true rfl) dX0_leastGasDepthOf_86 ⟨Nat.le_of_ble_eq_true rfl, Nat.le_of_ble_eq_true rfl⟩ (fun H locs hP hS => ?_)
        refine va_mmax hx hb (hml.trans hl.1.symm) hown wf6 wf7 wf8 wf9 (Nat.le_of_ble_eq_true rfl) (Nat.le_of_ble_eq_true rfl) (Nat.le_of_ble_eq_true rfl) (Nat.le_of_ble_eq_true rfl) dX0_leastGasDepthOf_89 ?_
        refine lv_iadd hx hb dX0_leastGasDepthOf_92 ?_
        obtain rfl := Option.some.inj h
        subst hQ
        exact W.iret (v := (x2 + (if (1 : Int32) < r86 then r86 else (1 : Int32)))) hx hb hr (fun t ht hW => ⟨⟨(x2 + (if (1 : Int32) < r86 then r86 else (1 : Int32))), (), rfl, rfl, kEnd ht hP⟩, hS.F ht⟩) hS.2.2 dX0_leastGasDepthOf_93
  have L25 : ∀ (x1 : Int32) (n : Nat) (x2 : Int32) (x3 : Int64) (x5 : Int32), kLoopC n (fun q nx25 => fX0_leastGasDepthOf_c25 vC x1 q.1 q.2.1 q.2.2 nx25) (x2, x3, x5) = some res → ∀ (H : Heap) (locs : List Loc) (ls : Array Slot), va_P D vwCl (wC ty adC vC) H → va_D A (wC ty adC vC) → va_S A s.heap H locs → lv_has ls 9 [(0, .ref (adC 0)), (1, .int x1), (2, .int x2), (3, .long x3), (5, .int x5)] → W p l e (headSpec wsX0_leastGasDepthOf { frames := 3, cells := 0, slots := 0, locals := 82 }).room s m ([.ref (adC 0), .int p1] : List Value).toArray below meth c H locs 0 0 Q (F0 m 25 ls []) := by
    intro x1 n
    induction n with
    | zero => intro x2 x3 x5 h; exact absurd h (by simp [kLoopC])
    | succ n ih => intro x2 x3 x5 h; exact B25 x1 (kLoopC n (fun q nx25 => fX0_leastGasDepthOf_c25 vC x1 q.1 q.2.1 q.2.2 nx25)) ih x2 x3 x5 h
  have hl := lv_entry ([.ref (adC 0), .int p1]) (n := 9) (Nat.le_of_ble_eq_true rfl)
  rw [lg_entry_eq]
  generalize (lg_sl ([.ref (adC 0), .int p1]) ++ List.replicate (9 - (lg_sl ([.ref (adC 0), .int p1])).length) Slot.unset).toArray = ls at hl ⊢
  have hl : lv_has ls 9 [(0, .ref (adC 0)), (1, .int p1)] := hl
  unfold fX0_leastGasDepthOf at h
  have E0 : ∀ (H : Heap) (locs : List Loc) (ls : Array Slot), va_P D vwCl (wC ty adC vC) H → va_D A (wC ty adC vC) → va_S A s.heap H locs → lv_has ls 9 [(0, .ref (adC 0)), (1, .int p1)] → W p l e (headSpec wsX0_leastGasDepthOf { frames := 3, cells := 0, slots := 0, locals := 82 }).room s m ([.ref (adC 0), .int p1] : List Value).toArray below meth c H locs 0 0 Q (F0 m 0 ls []) := by
    intro H locs ls hP hD hS hl
    refine lv_iload_n hx hb dX0_leastGasDepthOf_0 rfl (lv_at hl 1 rfl) ?_
    refine lv_if_ne (tgt := 18) hx hb dX0_leastGasDepthOf_1 (by decide) (fun c1 => ?_) (fun c1 => ?_)
    · have h := kT h c1
      refine lv_iconst (v := 0) hx hb dX0_leastGasDepthOf_18 (by decide) ?_
      refine lv_istore_n (lv' := [(2, .int (0 : Int32)), (0, .ref (adC 0)), (1, .int p1)]) hx hb dX0_leastGasDepthOf_19 rfl hl (by decide) rfl (fun ls hl => ?_)
      refine lv_lconst (v := 0) hx hb dX0_leastGasDepthOf_20 (by decide) ?_
      refine lv_lstore_n (lv' := [(3, .long (0 : Int64)), (2, .int (0 : Int32)), (0, .ref (adC 0)), (1, .int p1)]) hx hb dX0_leastGasDepthOf_21 rfl hl (by decide) rfl (fun ls hl => ?_)
      refine lv_iconst (v := 0) hx hb dX0_leastGasDepthOf_22 (by decide) ?_
      refine lv_istore (lv' := [(5, .int (0 : Int32)), (3, .long (0 : Int64)), (2, .int (0 : Int32)), (0, .ref (adC 0)), (1, .int p1)]) hx hb dX0_leastGasDepthOf_23 hl (by decide) rfl (fun ls hl => ?_)
      exact L25 p1  kFu (0 : Int32) (0 : Int64) (0 : Int32) h H locs ls hP hD hS (lv_sub hl [3, 4, 2, 1, 0] rfl)
    · have h := kF h (fun z => z c1)
      refine lv_aload_n hx hb dX0_leastGasDepthOf_4 rfl (lv_at hl 0 rfl) ?_
      refine va_get (D := D) (ci := 0) (v := .int vC.1) (C := RX0) (T := TX0) (N := 12) hx hb hts hinX0 hown hK.1 hP 0 rfl rfl 0 (by decide) wf0 (fun _ h9 => h9) rfl dX0_leastGasDepthOf_5 ?_
      refine lv_if_ne (tgt := 16) hx hb dX0_leastGasDepthOf_8 (by decide) (fun c8 => ?_) (fun c8 => ?_)
      · have h := kT h c8
        refine lv_iconst (v := 0) hx hb dX0_leastGasDepthOf_16 (by decide) ?_
        obtain rfl := Option.some.inj h
        subst hQ
        exact W.iret (v := (0 : Int32)) hx hb hr (fun t ht hW => ⟨⟨(0 : Int32), (), rfl, rfl, kEnd ht hP⟩, hS.F ht⟩) hS.2.2 dX0_leastGasDepthOf_17
      · have h := kF h (fun z => z c8)
        refine lv_ldc hx hb hown wf2 dX0_leastGasDepthOf_11 ?_
        refine lv_goto (tgt := 17) hx hb dX0_leastGasDepthOf_13 (by decide) ?_
        obtain rfl := Option.some.inj h
        subst hQ
        exact W.iret (v := (-1000000005 : Int32)) hx hb hr (fun t ht hW => ⟨⟨(-1000000005 : Int32), (), rfl, rfl, kEnd ht hP⟩, hS.F ht⟩) hS.2.2 dX0_leastGasDepthOf_17
  exact E0 s.heap [] ls hP hD hS hl
def fX0_canBeTuned_c4 (vC : KC) (x1 : Int32) (x2 : Int32) (nx4 : Int32 × Int32 → Option (Int32)) : Option (Int32) := if vC.1 ≤ x2 then ((fX0_ashBeds vC).bind fun r46 => if r46 ≤ (0 : Int32) then (some (0 : Int32)) else (some (1 : Int32))) else ((fX0_hasAsh vC x2).bind fun r14 => if r14 = (0 : Int32) then (nx4 (x1, (x2 + 1))) else (if kIn x2 16 = true then (if x1 ≤ (vC.2.2.2.2.2.2.2.2.2.1 x2.toNatClampNeg) then (if kIn x2 16 = true then ((some (vC.2.2.2.2.2.2.2.2.2.1 x2.toNatClampNeg)).bind fun y38 => nx4 (y38, (x2 + 1))) else none) else (some (0 : Int32))) else none))
def fX0_canBeTuned (vC : KC) : Option (Int32) := kLoopC kFu (fun q nx4 => fX0_canBeTuned_c4 vC q.1 q.2 nx4) ((0 : Int32), (0 : Int32))
set_option maxHeartbeats 4000000 in
set_option maxRecDepth 100000 in
theorem cX0_canBeTuned_ok (l : Launch) (D : va_G) (ty : kTy) (adC : Nat → Nat) (sz : Nat) (vC : KC)  (res : Int32) (h : fX0_canBeTuned vC = some res) : kMI l yX0_canBeTuned wsX0_canBeTuned { frames := 3, cells := 0, slots := 0, locals := 64 } [.ref (adC 0)] D ty (wC ty adC vC) sz res (wC ty adC vC) := by
  refine Met.ofW (cc := cX0_canBeTuned) (maxL := 3) (ret := (some .boolean)) (by decide) rfl ?_
  intro p e s m args below meth c s₁ B hml hv
  obtain ⟨rfl, hsz, hP, hK, hD0⟩ := hv
  have hx := B.exec
  have hb := B.bytes
  have hr := B.returns
  have hts := atoms_spec (ws := wsX0_canBeTuned) B.pre
  have hown : s.vm.findClass RX0 = some m.cls := findClass_of_methodNamed B.named
  have hlocks := B.notSynchronized
  subst hsz
  have hD := hD0.self (sz := s.heap.size)
  generalize hAe : va_A (wC ty adC vC) s.heap.size = A at hD ⊢
  have hA : ∀ q : Nat, s.heap.size ≤ q → A q := fun q h => by rw [← hAe]; exact Or.inr h
  have hS : va_S A s.heap s.heap [] := va_S.rf
  refine kGenW (fun Q hQ => ?_)
  have wf0 := hts (.fieldLink RX0 9 "IceCoreDater$Core" "size" "I") (by decide +kernel)
  have hinX0 : ∀ w ∈ wsX00, w ∈ wsX0_canBeTuned := by decide +kernel
  have wf2 := hts (.fieldLink RX0 41 "IceCoreDater$Core" "ashAge" "[I") (by decide +kernel)
  have B4 : ∀ (nx4 : Int32 × Int32 → Option (Int32)) (hn4 : ∀ (x1 : Int32) (x2 : Int32), nx4 (x1, x2) = some res → ∀ (H : Heap) (locs : List Loc) (ls : Array Slot), va_P D vwCl (wC ty adC vC) H → va_D A (wC ty adC vC) → va_S A s.heap H locs → lv_has ls 3 [(0, .ref (adC 0)), (1, .int x1), (2, .int x2)] → W p l e (headSpec wsX0_canBeTuned { frames := 3, cells := 0, slots := 0, locals := 64 }).room s m ([.ref (adC 0)] : List Value).toArray below meth c H locs 0 0 Q (F0 m 4 ls [])) (x1 : Int32) (x2 : Int32), fX0_canBeTuned_c4 vC x1 x2 nx4 = some res → ∀ (H : Heap) (locs : List Loc) (ls : Array Slot), va_P D vwCl (wC ty adC vC) H → va_D A (wC ty adC vC) → va_S A s.heap H locs → lv_has ls 3 [(0, .ref (adC 0)), (1, .int x1), (2, .int x2)] → W p l e (headSpec wsX0_canBeTuned { frames := 3, cells := 0, slots := 0, locals := 64 }).room s m ([.ref (adC 0)] : List Value).toArray below meth c H locs 0 0 Q (F0 m 4 ls []) := by
    intro  nx4 hn4 x1 x2 h H locs ls hP hD hS hl
    unfold fX0_canBeTuned_c4 at h
    refine lv_iload_n hx hb dX0_canBeTuned_4 rfl (lv_at hl 2 rfl) ?_
    refine lv_aload_n hx hb dX0_canBeTuned_5 rfl (lv_at hl 0 rfl) ?_
    refine va_get (D := D) (ci := 0) (v := .int vC.1) (C := RX0) (T := TX0) (N := 12) hx hb hts hinX0 hown hK.1 hP 0 rfl rfl 0 (by decide) wf0 (fun _ h9 => h9) rfl dX0_canBeTuned_6 ?_
    refine lv_icmp_ge (tgt := 45) hx hb dX0_canBeTuned_9 (by decide) (fun c9 => ?_) (fun c9 => ?_)
    · have h := kT h c9
      refine lv_aload_n hx hb dX0_canBeTuned_45 rfl (lv_at hl 0 rfl) ?_
      obtain ⟨r46, e46, h⟩ := kBd h
      refine kCallVI (As := []) (rest := []) (wc := wC ty adC vC) (w1 := wC ty adC vC) (wn := wC ty adC vC) ⟨hx, hb, hml, hown, hts⟩ (cX0_ashBeds_ok l D ty adC H.size vC  r46 e46) (cwV 0 hts gX0_canBeTuned_X0_ashBeds rfl rfl rfl (by decide +kernel) ⟨Nat.le_of_ble_eq_true rfl, Nat.le_of_ble_eq_true rfl⟩) hP hK hD hS hA [0, 1, 2, 3, 4, 5, 6, 7] (by decide +kernel) rfl 0 0 rfl rfl rfl rfl hl.1 rfl (Nat.le_of_ble_eq_true rfl) dX0_canBeTuned_46 ⟨Nat.le_of_ble_eq_true rfl, Nat.le_of_ble_eq_true rfl⟩ rfl rfl (fun H locs hP hD hS => ?_)
      refine lv_if_le (tgt := 56) hx hb dX0_canBeTuned_49 (by decide) (fun c49 => ?_) (fun c49 => ?_)
      · have h := kT h c49
        refine lv_iconst (v := 0) hx hb dX0_canBeTuned_56 (by decide) ?_
        obtain rfl := Option.some.inj h
        subst hQ
        exact W.zret (ty := .boolean) (v := (0 : Int32)) hx hb hr rfl (fun t ht hW => ⟨⟨(0 : Int32), (), rfl, rfl, kEnd ht hP⟩, hS.F ht⟩) hS.2.2 dX0_canBeTuned_57
      · have h := kF h c49
        refine lv_iconst (v := 1) hx hb dX0_canBeTuned_52 (by decide) ?_
        refine lv_goto (tgt := 57) hx hb dX0_canBeTuned_53 (by decide) ?_
        obtain rfl := Option.some.inj h
        subst hQ
        exact W.zret (ty := .boolean) (v := (1 : Int32)) hx hb hr rfl (fun t ht hW => ⟨⟨(1 : Int32), (), rfl, rfl, kEnd ht hP⟩, hS.F ht⟩) hS.2.2 dX0_canBeTuned_57
    · have h := kF h c9
      refine lv_aload_n hx hb dX0_canBeTuned_12 rfl (lv_at hl 0 rfl) ?_
      refine lv_iload_n hx hb dX0_canBeTuned_13 rfl (lv_at hl 2 rfl) ?_
      obtain ⟨r14, e14, h⟩ := kBd h
      refine kCallVI (As := [.int x2]) (rest := []) (wc := wC ty adC vC) (w1 := wC ty adC vC) (wn := wC ty adC vC) ⟨hx, hb, hml, hown, hts⟩ (cX0_hasAsh_ok l D ty adC H.size vC x2  r14 e14) (cwV 1 hts gX0_canBeTuned_X0_hasAsh rfl rfl rfl (by decide +kernel) ⟨Nat.le_of_ble_eq_true rfl, Nat.le_of_ble_eq_true rfl⟩) hP hK hD hS hA [0, 1, 2, 3, 4, 5, 6, 7] (by decide +kernel) rfl 0 0 rfl rfl rfl rfl hl.1 rfl (Nat.le_of_ble_eq_true rfl) dX0_canBeTuned_14 ⟨Nat.le_of_ble_eq_true rfl, Nat.le_of_ble_eq_true rfl⟩ rfl rfl (fun H locs hP hD hS => ?_)
      refine lv_if_eq (tgt := 39) hx hb dX0_canBeTuned_17 (by decide) (fun c17 => ?_) (fun c17 => ?_)
      · have h := kT h c17
        refine lv_iinc (v := (x2 + 1)) (lv' := [(2, .int (x2 + 1)), (0, .ref (adC 0)), (1, .int x1)]) hx hb dX0_canBeTuned_39 hl (k := 2) rfl rfl (by decide) rfl (fun ls hl => ?_)
        refine lv_goto (tgt := 4) hx hb dX0_canBeTuned_42 (by decide) ?_
        exact hn4 x1 (x2 + 1) h H locs ls hP hD hS (lv_sub hl [1, 2, 0] rfl)
      · have h := kF h c17
        refine lv_aload_n hx hb dX0_canBeTuned_20 rfl (lv_at hl 0 rfl) ?_
        refine va_get (D := D) (ci := 0) (v := .ref (adC 5)) (C := RX0) (T := TX0) (N := 12) hx hb hts hinX0 hown hK.1 hP 0 rfl rfl 9 (by decide) wf2 (fun _ h9 => h9) rfl dX0_canBeTuned_21 ?_
        refine lv_iload_n hx hb dX0_canBeTuned_24 rfl (lv_at hl 2 rfl) ?_
        obtain ⟨b25, h⟩ := kIf h
        refine va_iald (f := vC.2.2.2.2.2.2.2.2.2.1) (n := 16) hx hb hK.1 hP 5 0 rfl rfl (kIn_ok b25) dX0_canBeTuned_25 ?_
        refine lv_iload_n hx hb dX0_canBeTuned_26 rfl (lv_at hl 1 rfl) ?_
        refine lv_icmp_ge (tgt := 32) hx hb dX0_canBeTuned_27 (by decide) (fun c27 => ?_) (fun c27 => ?_)
        · have h := kT h c27
          refine lv_aload_n hx hb dX0_canBeTuned_32 rfl (lv_at hl 0 rfl) ?_
          refine va_get (D := D) (ci := 0) (v := .ref (adC 5)) (C := RX0) (T := TX0) (N := 12) hx hb hts hinX0 hown hK.1 hP 0 rfl rfl 9 (by decide) wf2 (fun _ h9 => h9) rfl dX0_canBeTuned_33 ?_
          refine lv_iload_n hx hb dX0_canBeTuned_36 rfl (lv_at hl 2 rfl) ?_
          obtain ⟨b37, h⟩ := kIf h
          refine va_iald (f := vC.2.2.2.2.2.2.2.2.2.1) (n := 16) hx hb hK.1 hP 5 0 rfl rfl (kIn_ok b37) dX0_canBeTuned_37 ?_
          refine lv_topi (fun y38 ey38 => ?_)
          have h := kBs h ey38
          refine lv_istore_n (lv' := [(1, .int y38), (0, .ref (adC 0)), (2, .int x2)]) hx hb dX0_canBeTuned_38 rfl hl (by decide) rfl (fun ls hl => ?_)
          refine lv_iinc (v := (x2 + 1)) (lv' := [(2, .int (x2 + 1)), (1, .int y38), (0, .ref (adC 0))]) hx hb dX0_canBeTuned_39 hl (k := 2) rfl rfl (by decide) rfl (fun ls hl => ?_)
          refine lv_goto (tgt := 4) hx hb dX0_canBeTuned_42 (by decide) ?_
          exact hn4 y38 (x2 + 1) h H locs ls hP hD hS (lv_sub hl [2, 1, 0] rfl)
        · have h := kF h c27
          refine lv_iconst (v := 0) hx hb dX0_canBeTuned_30 (by decide) ?_
          obtain rfl := Option.some.inj h
          subst hQ
          exact W.zret (ty := .boolean) (v := (0 : Int32)) hx hb hr rfl (fun t ht hW => ⟨⟨(0 : Int32), (), rfl, rfl, kEnd ht hP⟩, hS.F ht⟩) hS.2.2 dX0_canBeTuned_31
  have L4 : ∀  (n : Nat) (x1 : Int32) (x2 : Int32), kLoopC n (fun q nx4 => fX0_canBeTuned_c4 vC q.1 q.2 nx4) (x1, x2) = some res → ∀ (H : Heap) (locs : List Loc) (ls : Array Slot), va_P D vwCl (wC ty adC vC) H → va_D A (wC ty adC vC) → va_S A s.heap H locs → lv_has ls 3 [(0, .ref (adC 0)), (1, .int x1), (2, .int x2)] → W p l e (headSpec wsX0_canBeTuned { frames := 3, cells := 0, slots := 0, locals := 64 }).room s m ([.ref (adC 0)] : List Value).toArray below meth c H locs 0 0 Q (F0 m 4 ls []) := by
    intro  n
    induction n with
    | zero => intro x1 x2 h; exact absurd h (by simp [kLoopC])
    | succ n ih => intro x1 x2 h; exact B4  (kLoopC n (fun q nx4 => fX0_canBeTuned_c4 vC q.1 q.2 nx4)) ih x1 x2 h
  have hl := lv_entry ([.ref (adC 0)]) (n := 3) (Nat.le_of_ble_eq_true rfl)
  rw [lg_entry_eq]
  generalize (lg_sl ([.ref (adC 0)]) ++ List.replicate (3 - (lg_sl ([.ref (adC 0)])).length) Slot.unset).toArray = ls at hl ⊢
  have hl : lv_has ls 3 [(0, .ref (adC 0))] := hl
  unfold fX0_canBeTuned at h
  have E0 : ∀ (H : Heap) (locs : List Loc) (ls : Array Slot), va_P D vwCl (wC ty adC vC) H → va_D A (wC ty adC vC) → va_S A s.heap H locs → lv_has ls 3 [(0, .ref (adC 0))] → W p l e (headSpec wsX0_canBeTuned { frames := 3, cells := 0, slots := 0, locals := 64 }).room s m ([.ref (adC 0)] : List Value).toArray below meth c H locs 0 0 Q (F0 m 0 ls []) := by
    intro H locs ls hP hD hS hl
    refine lv_iconst (v := 0) hx hb dX0_canBeTuned_0 (by decide) ?_
    refine lv_istore_n (lv' := [(1, .int (0 : Int32)), (0, .ref (adC 0))]) hx hb dX0_canBeTuned_1 rfl hl (by decide) rfl (fun ls hl => ?_)
    refine lv_iconst (v := 0) hx hb dX0_canBeTuned_2 (by decide) ?_
    refine lv_istore_n (lv' := [(2, .int (0 : Int32)), (1, .int (0 : Int32)), (0, .ref (adC 0))]) hx hb dX0_canBeTuned_3 rfl hl (by decide) rfl (fun ls hl => ?_)
    exact L4   kFu (0 : Int32) (0 : Int32) h H locs ls hP hD hS (lv_sub hl [2, 1, 0] rfl)
  exact E0 s.heap [] ls hP hD hS hl
def fX0_fitSegment_c82 (uC : KC) (uF : KF) (x2 : Int32) (x5 : Int32) (x6 : Int32) (nx82 : KC × Int32 → Option (KC × KF)) : Option (KC × KF) := if x2 < x6 then (some (uC, uF)) else (if uC.1 ≤ x6 then (some (uC, uF)) else (if kIn x6 16 = true then (nx82 ((uC.1, uC.2.1, uC.2.2.1, uC.2.2.2.1, uC.2.2.2.2.1, uC.2.2.2.2.2.1, uC.2.2.2.2.2.2.1, (upd uC.2.2.2.2.2.2.2.1 x6.toNatClampNeg x5), uC.2.2.2.2.2.2.2.2), (x6 + 1))) else none))
def fX0_fitSegment_c8 (uC : KC) (uF : KF) (x1 : Int32) (x2 : Int32) (x3 : Int32) (x5 : Int32) (nx8 : KF × Int32 → Option (KC × KF)) : Option (KC × KF) := if x2 < x5 then ((fX1_nearest uF (200 : Int32) (5000 : Int32) x3.toInt64).bind fun r74 => kLoopC kFu (fun q nx82 => fX0_fitSegment_c82 q.1 uF x2 r74 q.2 nx82) (uC, x1)) else (if uC.1 ≤ x5 then ((fX1_nearest uF (200 : Int32) (5000 : Int32) x3.toInt64).bind fun r74 => kLoopC kFu (fun q nx82 => fX0_fitSegment_c82 q.1 uF x2 r74 q.2 nx82) (uC, x1)) else ((fX0_yearsDividend uC x5).bind fun r28 => if kIn x5 16 = true then ((fX0_thinningOf uC x5 uC.2.2.1 uC.2.2.2.1).bind fun r50 => (fX1_add uF r28 ((uC.2.2.2.2.2.2.1 x5.toNatClampNeg).toInt64 * r50.toInt64)).bind fun r55 => nx8 (r55, (x5 + 1))) else none))
def fX0_fitSegment (vC : KC) (vF : KF) (p1 : Int32) (p2 : Int32) (p3 : Int32) : Option (KC × KF) := (fX1_clear vF).bind fun r2 => kLoopC kFu (fun q nx8 => fX0_fitSegment_c8 vC q.1 p1 p2 p3 q.2 nx8) (r2, p1)
set_option maxHeartbeats 4000000 in
set_option maxRecDepth 100000 in
theorem cX0_fitSegment_ok (l : Launch) (D : va_G) (ty : kTy) (adC adF : Nat → Nat) (sz : Nat) (vC : KC) (vF : KF) (p1 : Int32) (p2 : Int32) (p3 : Int32)  (res : KC × KF) (h : fX0_fitSegment vC vF p1 p2 p3 = some res) : kMV l yX0_fitSegment wsX0_fitSegment { frames := 3, cells := 0, slots := 0, locals := 79 } [.ref (adC 0), .int p1, .int p2, .int p3, .ref (adF 0)] D ty (wC ty adC vC ++ wF ty adF vF) sz (wC ty adC res.1 ++ wF ty adF res.2) := by
  refine Met.ofW (cc := cX0_fitSegment) (maxL := 7) (ret := none) (by decide) rfl ?_
  intro p e s m args below meth c s₁ B hml hv
  obtain ⟨rfl, hsz, hP, hK, hD0⟩ := hv
  have hx := B.exec
  have hb := B.bytes
  have hr := B.returns
  have hts := atoms_spec (ws := wsX0_fitSegment) B.pre
  have hown : s.vm.findClass RX0 = some m.cls := findClass_of_methodNamed B.named
  have hlocks := B.notSynchronized
  subst hsz
  have hD := hD0.self (sz := s.heap.size)
  generalize hAe : va_A (wC ty adC vC ++ wF ty adF vF) s.heap.size = A at hD ⊢
  have hA : ∀ q : Nat, s.heap.size ≤ q → A q := fun q h => by rw [← hAe]; exact Or.inr h
  have hS : va_S A s.heap s.heap [] := va_S.rf
  refine kGenW (fun Q hQ => ?_)
  have wf0 := hts (.fieldLink RX0 9 "IceCoreDater$Core" "size" "I") (by decide +kernel)
  have hinX0 : ∀ w ∈ wsX00, w ∈ wsX0_fitSegment := by decide +kernel
  have wf2 := hts (.fieldLink RX0 35 "IceCoreDater$Core" "correction" "[I") (by decide +kernel)
  have wf3 := hts (.fieldLink RX0 32 "IceCoreDater$Core" "accumulation" "[I") (by decide +kernel)
  have wf4 := hts (.fieldLink RX0 19 "IceCoreDater$Core" "function" "I") (by decide +kernel)
  have wf5 := hts (.fieldLink RX0 22 "IceCoreDater$Core" "kink" "I") (by decide +kernel)
  have B82 : ∀ (uF : KF) (x2 : Int32) (x5 : Int32) (nx82 : KC × Int32 → Option (KC × KF)) (hn82 : ∀ (uC : KC) (x6 : Int32), nx82 (uC, x6) = some res → ∀ (H : Heap) (locs : List Loc) (ls : Array Slot), va_P D vwCl (wC ty adC uC ++ wF ty adF uF) H → va_D A (wC ty adC uC ++ wF ty adF uF) → va_S A s.heap H locs → lv_has ls 7 [(0, .ref (adC 0)), (2, .int x2), (5, .int x5), (6, .int x6)] → W p l e (headSpec wsX0_fitSegment { frames := 3, cells := 0, slots := 0, locals := 79 }).room s m ([.ref (adC 0), .int p1, .int p2, .int p3, .ref (adF 0)] : List Value).toArray below meth c H locs 0 0 Q (F0 m 82 ls [])) (uC : KC) (x6 : Int32), fX0_fitSegment_c82 uC uF x2 x5 x6 nx82 = some res → ∀ (H : Heap) (locs : List Loc) (ls : Array Slot), va_P D vwCl (wC ty adC uC ++ wF ty adF uF) H → va_D A (wC ty adC uC ++ wF ty adF uF) → va_S A s.heap H locs → lv_has ls 7 [(0, .ref (adC 0)), (2, .int x2), (5, .int x5), (6, .int x6)] → W p l e (headSpec wsX0_fitSegment { frames := 3, cells := 0, slots := 0, locals := 79 }).room s m ([.ref (adC 0), .int p1, .int p2, .int p3, .ref (adF 0)] : List Value).toArray below meth c H locs 0 0 Q (F0 m 82 ls []) := by
    intro uF x2 x5 nx82 hn82 uC x6 h H locs ls hP hD hS hl
    unfold fX0_fitSegment_c82 at h
    refine lv_iload hx hb dX0_fitSegment_82 (lv_at hl 3 rfl) ?_
    refine lv_iload_n hx hb dX0_fitSegment_84 rfl (lv_at hl 1 rfl) ?_
    refine lv_icmp_gt (tgt := 112) hx hb dX0_fitSegment_85 (by decide) (fun c85 => ?_) (fun c85 => ?_)
    · have h := kT h c85
      obtain rfl := Option.some.inj h
      subst hQ
      exact W.vret hx hb hr (fun t ht hW => ⟨⟨(), rfl, trivial, kEnd ht hP⟩, hS.F ht⟩) hS.2.2 dX0_fitSegment_112
    · have h := kF h c85
      refine lv_iload hx hb dX0_fitSegment_88 (lv_at hl 3 rfl) ?_
      refine lv_aload_n hx hb dX0_fitSegment_90 rfl (lv_at hl 0 rfl) ?_
      refine va_get (D := D) (ci := 0) (v := .int uC.1) (C := RX0) (T := TX0) (N := 12) hx hb hts hinX0 hown hK.1 hP 0 rfl rfl 0 (by decide) wf0 (fun _ h9 => h9) rfl dX0_fitSegment_91 ?_
      refine lv_icmp_ge (tgt := 112) hx hb dX0_fitSegment_94 (by decide) (fun c94 => ?_) (fun c94 => ?_)
      · have h := kT h c94
        obtain rfl := Option.some.inj h
        subst hQ
        exact W.vret hx hb hr (fun t ht hW => ⟨⟨(), rfl, trivial, kEnd ht hP⟩, hS.F ht⟩) hS.2.2 dX0_fitSegment_112
      · have h := kF h c94
        refine lv_aload_n hx hb dX0_fitSegment_97 rfl (lv_at hl 0 rfl) ?_
        refine va_get (D := D) (ci := 0) (v := .ref (adC 3)) (C := RX0) (T := TX0) (N := 12) hx hb hts hinX0 hown hK.1 hP 0 rfl rfl 7 (by decide) wf2 (fun _ h9 => h9) rfl dX0_fitSegment_98 ?_
        refine lv_iload hx hb dX0_fitSegment_101 (lv_at hl 3 rfl) ?_
        refine lv_iload hx hb dX0_fitSegment_103 (lv_at hl 2 rfl) ?_
        obtain ⟨b105, h⟩ := kIf h
        refine va_iast (f := uC.2.2.2.2.2.2.2.1) (n := 16) hx hb hK.1 hP hD hS 3 0 rfl rfl (kIn_ok b105) dX0_fitSegment_105 (fun H locs hP hD hS => ?_)
        have hP : va_P D vwCl (wC ty adC (uC.1, uC.2.1, uC.2.2.1, uC.2.2.2.1, uC.2.2.2.2.1, uC.2.2.2.2.2.1, uC.2.2.2.2.2.2.1, (upd uC.2.2.2.2.2.2.2.1 x6.toNatClampNeg x5), uC.2.2.2.2.2.2.2.2) ++ wF ty adF uF) H := hP
        have hD : va_D A (wC ty adC (uC.1, uC.2.1, uC.2.2.1, uC.2.2.2.1, uC.2.2.2.2.1, uC.2.2.2.2.2.1, uC.2.2.2.2.2.2.1, (upd uC.2.2.2.2.2.2.2.1 x6.toNatClampNeg x5), uC.2.2.2.2.2.2.2.2) ++ wF ty adF uF) := hD
        refine lv_iinc (v := (x6 + 1)) (lv' := [(6, .int (x6 + 1)), (0, .ref (adC 0)), (2, .int x2), (5, .int x5)]) hx hb dX0_fitSegment_106 hl (k := 3) rfl rfl (by decide) rfl (fun ls hl => ?_)
        refine lv_goto (tgt := 82) hx hb dX0_fitSegment_109 (by decide) ?_
        exact hn82 (uC.1, uC.2.1, uC.2.2.1, uC.2.2.2.1, uC.2.2.2.2.1, uC.2.2.2.2.2.1, uC.2.2.2.2.2.2.1, (upd uC.2.2.2.2.2.2.2.1 x6.toNatClampNeg x5), uC.2.2.2.2.2.2.2.2) (x6 + 1) h H locs ls hP hD hS (lv_sub hl [1, 2, 3, 0] rfl)
  have L82 : ∀ (uF : KF) (x2 : Int32) (x5 : Int32) (n : Nat) (uC : KC) (x6 : Int32), kLoopC n (fun q nx82 => fX0_fitSegment_c82 q.1 uF x2 x5 q.2 nx82) (uC, x6) = some res → ∀ (H : Heap) (locs : List Loc) (ls : Array Slot), va_P D vwCl (wC ty adC uC ++ wF ty adF uF) H → va_D A (wC ty adC uC ++ wF ty adF uF) → va_S A s.heap H locs → lv_has ls 7 [(0, .ref (adC 0)), (2, .int x2), (5, .int x5), (6, .int x6)] → W p l e (headSpec wsX0_fitSegment { frames := 3, cells := 0, slots := 0, locals := 79 }).room s m ([.ref (adC 0), .int p1, .int p2, .int p3, .ref (adF 0)] : List Value).toArray below meth c H locs 0 0 Q (F0 m 82 ls []) := by
    intro uF x2 x5 n
    induction n with
    | zero => intro uC x6 h; exact absurd h (by simp [kLoopC])
    | succ n ih => intro uC x6 h; exact B82 uF x2 x5 (kLoopC n (fun q nx82 => fX0_fitSegment_c82 q.1 uF x2 x5 q.2 nx82)) ih uC x6 h
  have B8 : ∀ (uC : KC) (x1 : Int32) (x2 : Int32) (x3 : Int32) (nx8 : KF × Int32 → Option (KC × KF)) (hn8 : ∀ (uF : KF) (x5 : Int32), nx8 (uF, x5) = some res → ∀ (H : Heap) (locs : List Loc) (ls : Array Slot), va_P D vwCl (wC ty adC uC ++ wF ty adF uF) H → va_D A (wC ty adC uC ++ wF ty adF uF) → va_S A s.heap H locs → lv_has ls 7 [(0, .ref (adC 0)), (1, .int x1), (2, .int x2), (3, .int x3), (4, .ref (adF 0)), (5, .int x5)] → W p l e (headSpec wsX0_fitSegment { frames := 3, cells := 0, slots := 0, locals := 79 }).room s m ([.ref (adC 0), .int p1, .int p2, .int p3, .ref (adF 0)] : List Value).toArray below meth c H locs 0 0 Q (F0 m 8 ls [])) (uF : KF) (x5 : Int32), fX0_fitSegment_c8 uC uF x1 x2 x3 x5 nx8 = some res → ∀ (H : Heap) (locs : List Loc) (ls : Array Slot), va_P D vwCl (wC ty adC uC ++ wF ty adF uF) H → va_D A (wC ty adC uC ++ wF ty adF uF) → va_S A s.heap H locs → lv_has ls 7 [(0, .ref (adC 0)), (1, .int x1), (2, .int x2), (3, .int x3), (4, .ref (adF 0)), (5, .int x5)] → W p l e (headSpec wsX0_fitSegment { frames := 3, cells := 0, slots := 0, locals := 79 }).room s m ([.ref (adC 0), .int p1, .int p2, .int p3, .ref (adF 0)] : List Value).toArray below meth c H locs 0 0 Q (F0 m 8 ls []) := by
    intro uC x1 x2 x3 nx8 hn8 uF x5 h H locs ls hP hD hS hl
    unfold fX0_fitSegment_c8 at h
    refine lv_iload hx hb dX0_fitSegment_8 (lv_at hl 5 rfl) ?_
    refine lv_iload_n hx hb dX0_fitSegment_10 rfl (lv_at hl 2 rfl) ?_
    refine lv_icmp_gt (tgt := 64) hx hb dX0_fitSegment_11 (by decide) (fun c11 => ?_) (fun c11 => ?_)
    · have h := kT h c11
      refine lv_aload hx hb dX0_fitSegment_64 (lv_at hl 4 rfl) ?_
      refine lv_sipush (v := 200) hx hb dX0_fitSegment_66 (by decide) ?_
      refine lv_sipush (v := 5000) hx hb dX0_fitSegment_69 (by decide) ?_
      refine lv_iload_n hx hb dX0_fitSegment_72 rfl (lv_at hl 3 rfl) ?_
      refine lv_i2l hx hb dX0_fitSegment_73 rfl ?_
      obtain ⟨r74, e74, h⟩ := kBd h
      refine kCallVI (As := [.int (200 : Int32), .int (5000 : Int32), .long x3.toInt64]) (rest := []) (wc := wF ty adF uF) (w1 := wF ty adF uF) (wn := wC ty adC uC ++ wF ty adF uF) ⟨hx, hb, hml, hown, hts⟩ (cX1_nearest_ok l D ty adF H.size uF (200 : Int32) (5000 : Int32) x3.toInt64  r74 e74) (cwV 3 hts gX0_fitSegment_X1_nearest rfl rfl rfl (by decide +kernel) ⟨Nat.le_of_ble_eq_true rfl, Nat.le_of_ble_eq_true rfl⟩) hP hK hD hS hA [8, 9, 10] (by decide +kernel) rfl 1 8 rfl rfl rfl rfl hl.1 rfl (Nat.le_of_ble_eq_true rfl) dX0_fitSegment_74 ⟨Nat.le_of_ble_eq_true rfl, Nat.le_of_ble_eq_true rfl⟩ rfl rfl (fun H locs hP hD hS => ?_)
      refine lv_istore (lv' := [(5, .int r74), (0, .ref (adC 0)), (1, .int x1), (2, .int x2), (3, .int x3), (4, .ref (adF 0))]) hx hb dX0_fitSegment_77 hl (by decide) rfl (fun ls hl => ?_)
      refine lv_iload_n hx hb dX0_fitSegment_79 rfl (lv_at hl 2 rfl) ?_
      refine lv_istore (lv' := [(6, .int x1), (5, .int r74), (0, .ref (adC 0)), (1, .int x1), (2, .int x2), (3, .int x3), (4, .ref (adF 0))]) hx hb dX0_fitSegment_80 hl (by decide) rfl (fun ls hl => ?_)
      exact L82 uF x2 r74  kFu uC x1 h H locs ls hP hD hS (lv_sub hl [2, 4, 1, 0] rfl)
    · have h := kF h c11
      refine lv_iload hx hb dX0_fitSegment_14 (lv_at hl 5 rfl) ?_
      refine lv_aload_n hx hb dX0_fitSegment_16 rfl (lv_at hl 0 rfl) ?_
      refine va_get (D := D) (ci := 0) (v := .int uC.1) (C := RX0) (T := TX0) (N := 12) hx hb hts hinX0 hown hK.1 hP 0 rfl rfl 0 (by decide) wf0 (fun _ h9 => h9) rfl dX0_fitSegment_17 ?_
      refine lv_icmp_ge (tgt := 64) hx hb dX0_fitSegment_20 (by decide) (fun c20 => ?_) (fun c20 => ?_)
      · have h := kT h c20
        refine lv_aload hx hb dX0_fitSegment_64 (lv_at hl 4 rfl) ?_
        refine lv_sipush (v := 200) hx hb dX0_fitSegment_66 (by decide) ?_
        refine lv_sipush (v := 5000) hx hb dX0_fitSegment_69 (by decide) ?_
        refine lv_iload_n hx hb dX0_fitSegment_72 rfl (lv_at hl 3 rfl) ?_
        refine lv_i2l hx hb dX0_fitSegment_73 rfl ?_
        obtain ⟨r74, e74, h⟩ := kBd h
        refine kCallVI (As := [.int (200 : Int32), .int (5000 : Int32), .long x3.toInt64]) (rest := []) (wc := wF ty adF uF) (w1 := wF ty adF uF) (wn := wC ty adC uC ++ wF ty adF uF) ⟨hx, hb, hml, hown, hts⟩ (cX1_nearest_ok l D ty adF H.size uF (200 : Int32) (5000 : Int32) x3.toInt64  r74 e74) (cwV 3 hts gX0_fitSegment_X1_nearest rfl rfl rfl (by decide +kernel) ⟨Nat.le_of_ble_eq_true rfl, Nat.le_of_ble_eq_true rfl⟩) hP hK hD hS hA [8, 9, 10] (by decide +kernel) rfl 1 8 rfl rfl rfl rfl hl.1 rfl (Nat.le_of_ble_eq_true rfl) dX0_fitSegment_74 ⟨Nat.le_of_ble_eq_true rfl, Nat.le_of_ble_eq_true rfl⟩ rfl rfl (fun H locs hP hD hS => ?_)
        refine lv_istore (lv' := [(5, .int r74), (0, .ref (adC 0)), (1, .int x1), (2, .int x2), (3, .int x3), (4, .ref (adF 0))]) hx hb dX0_fitSegment_77 hl (by decide) rfl (fun ls hl => ?_)
        refine lv_iload_n hx hb dX0_fitSegment_79 rfl (lv_at hl 2 rfl) ?_
        refine lv_istore (lv' := [(6, .int x1), (5, .int r74), (0, .ref (adC 0)), (1, .int x1), (2, .int x2), (3, .int x3), (4, .ref (adF 0))]) hx hb dX0_fitSegment_80 hl (by decide) rfl (fun ls hl => ?_)
        exact L82 uF x2 r74  kFu uC x1 h H locs ls hP hD hS (lv_sub hl [2, 4, 1, 0] rfl)
      · have h := kF h c20
        refine lv_aload hx hb dX0_fitSegment_23 (lv_at hl 4 rfl) ?_
        refine lv_aload_n hx hb dX0_fitSegment_25 rfl (lv_at hl 0 rfl) ?_
        refine lv_iload hx hb dX0_fitSegment_26 (lv_at hl 5 rfl) ?_
        obtain ⟨r28, e28, h⟩ := kBd h
        refine kCallVL (As := [.int x5]) (rest := [.ref (adF 0)]) (wc := wC ty adC uC) (w1 := wC ty adC uC) (wn := wC ty adC uC ++ wF ty adF uF) ⟨hx, hb, hml, hown, hts⟩ (cX0_yearsDividend_ok l D ty adC H.size uC x5  r28 e28) (cwV 1 hts gX0_fitSegment_X0_yearsDividend rfl rfl rfl (by decide +kernel) ⟨Nat.le_of_ble_eq_true rfl, Nat.le_of_ble_eq_true rfl⟩) hP hK hD hS hA [0, 1, 2, 3, 4, 5, 6, 7] (by decide +kernel) rfl 0 0 rfl rfl rfl rfl hl.1 rfl (Nat.le_of_ble_eq_true rfl) dX0_fitSegment_28 ⟨Nat.le_of_ble_eq_true rfl, Nat.le_of_ble_eq_true rfl⟩ rfl rfl (fun H locs hP hD hS => ?_)
        refine lv_aload_n hx hb dX0_fitSegment_31 rfl (lv_at hl 0 rfl) ?_
        refine va_get (D := D) (ci := 0) (v := .ref (adC 2)) (C := RX0) (T := TX0) (N := 12) hx hb hts hinX0 hown hK.1 hP 0 rfl rfl 6 (by decide) wf3 (fun _ h9 => h9) rfl dX0_fitSegment_32 ?_
        refine lv_iload hx hb dX0_fitSegment_35 (lv_at hl 5 rfl) ?_
        obtain ⟨b37, h⟩ := kIf h
        refine va_iald (f := uC.2.2.2.2.2.2.1) (n := 16) hx hb hK.1 hP 2 0 rfl rfl (kIn_ok b37) dX0_fitSegment_37 ?_
        refine lv_i2l hx hb dX0_fitSegment_38 rfl ?_
        refine lv_aload_n hx hb dX0_fitSegment_39 rfl (lv_at hl 0 rfl) ?_
        refine lv_iload hx hb dX0_fitSegment_40 (lv_at hl 5 rfl) ?_
        refine lv_aload_n hx hb dX0_fitSegment_42 rfl (lv_at hl 0 rfl) ?_
        refine va_get (D := D) (ci := 0) (v := .int uC.2.2.1) (C := RX0) (T := TX0) (N := 12) hx hb hts hinX0 hown hK.1 hP 0 rfl rfl 2 (by decide) wf4 (fun _ h9 => h9) rfl dX0_fitSegment_43 ?_
        refine lv_aload_n hx hb dX0_fitSegment_46 rfl (lv_at hl 0 rfl) ?_
        refine va_get (D := D) (ci := 0) (v := .int uC.2.2.2.1) (C := RX0) (T := TX0) (N := 12) hx hb hts hinX0 hown hK.1 hP 0 rfl rfl 3 (by decide) wf5 (fun _ h9 => h9) rfl dX0_fitSegment_47 ?_
        obtain ⟨r50, e50, h⟩ := kBd h
        refine kCallVI (As := [.int x5, .int uC.2.2.1, .int uC.2.2.2.1]) (rest := [.long (uC.2.2.2.2.2.2.1 x5.toNatClampNeg).toInt64, .long r28, .ref (adF 0)]) (wc := wC ty adC uC) (w1 := wC ty adC uC) (wn := wC ty adC uC ++ wF ty adF uF) ⟨hx, hb, hml, hown, hts⟩ (cX0_thinningOf_ok l D ty adC H.size uC x5 uC.2.2.1 uC.2.2.2.1  r50 e50) (cwV 3 hts gX0_fitSegment_X0_thinningOf rfl rfl rfl (by decide +kernel) ⟨Nat.le_of_ble_eq_true rfl, Nat.le_of_ble_eq_true rfl⟩) hP hK hD hS hA [0, 1, 2, 3, 4, 5, 6, 7] (by decide +kernel) rfl 0 0 rfl rfl rfl rfl hl.1 rfl (Nat.le_of_ble_eq_true rfl) dX0_fitSegment_50 ⟨Nat.le_of_ble_eq_true rfl, Nat.le_of_ble_eq_true rfl⟩ rfl rfl (fun H locs hP hD hS => ?_)
        refine lv_i2l hx hb dX0_fitSegment_53 rfl ?_
        refine lv_lmul hx hb dX0_fitSegment_54 ?_
        obtain ⟨r55, e55, h⟩ := kBd h
        refine kCallVV (As := [.long r28, .long ((uC.2.2.2.2.2.2.1 x5.toNatClampNeg).toInt64 * r50.toInt64)]) (rest := []) (wc := wF ty adF uF) (w1 := wF ty adF r55) (wn := wC ty adC uC ++ wF ty adF r55) ⟨hx, hb, hml, hown, hts⟩ (cX1_add_ok l D ty adF H.size uF r28 ((uC.2.2.2.2.2.2.1 x5.toNatClampNeg).toInt64 * r50.toInt64)  r55 e55) (cwV 2 hts gX0_fitSegment_X1_add rfl rfl rfl (by decide +kernel) ⟨Nat.le_of_ble_eq_true rfl, Nat.le_of_ble_eq_true rfl⟩) hP hK hD hS hA [8, 9, 10] (by decide +kernel) rfl 1 8 rfl rfl rfl rfl hl.1 rfl (Nat.le_of_ble_eq_true rfl) dX0_fitSegment_55 ⟨Nat.le_of_ble_eq_true rfl, Nat.le_of_ble_eq_true rfl⟩ rfl rfl (fun H locs hP hD hS => ?_)
        refine lv_iinc (v := (x5 + 1)) (lv' := [(5, .int (x5 + 1)), (0, .ref (adC 0)), (1, .int x1), (2, .int x2), (3, .int x3), (4, .ref (adF 0))]) hx hb dX0_fitSegment_58 hl (k := 5) rfl rfl (by decide) rfl (fun ls hl => ?_)
        refine lv_goto (tgt := 8) hx hb dX0_fitSegment_61 (by decide) ?_
        exact hn8 r55 (x5 + 1) h H locs ls hP hD hS (lv_sub hl [1, 2, 3, 4, 5, 0] rfl)
  have L8 : ∀ (uC : KC) (x1 : Int32) (x2 : Int32) (x3 : Int32) (n : Nat) (uF : KF) (x5 : Int32), kLoopC n (fun q nx8 => fX0_fitSegment_c8 uC q.1 x1 x2 x3 q.2 nx8) (uF, x5) = some res → ∀ (H : Heap) (locs : List Loc) (ls : Array Slot), va_P D vwCl (wC ty adC uC ++ wF ty adF uF) H → va_D A (wC ty adC uC ++ wF ty adF uF) → va_S A s.heap H locs → lv_has ls 7 [(0, .ref (adC 0)), (1, .int x1), (2, .int x2), (3, .int x3), (4, .ref (adF 0)), (5, .int x5)] → W p l e (headSpec wsX0_fitSegment { frames := 3, cells := 0, slots := 0, locals := 79 }).room s m ([.ref (adC 0), .int p1, .int p2, .int p3, .ref (adF 0)] : List Value).toArray below meth c H locs 0 0 Q (F0 m 8 ls []) := by
    intro uC x1 x2 x3 n
    induction n with
    | zero => intro uF x5 h; exact absurd h (by simp [kLoopC])
    | succ n ih => intro uF x5 h; exact B8 uC x1 x2 x3 (kLoopC n (fun q nx8 => fX0_fitSegment_c8 uC q.1 x1 x2 x3 q.2 nx8)) ih uF x5 h
  have hl := lv_entry ([.ref (adC 0), .int p1, .int p2, .int p3, .ref (adF 0)]) (n := 7) (Nat.le_of_ble_eq_true rfl)
  rw [lg_entry_eq]
  generalize (lg_sl ([.ref (adC 0), .int p1, .int p2, .int p3, .ref (adF 0)]) ++ List.replicate (7 - (lg_sl ([.ref (adC 0), .int p1, .int p2, .int p3, .ref (adF 0)])).length) Slot.unset).toArray = ls at hl ⊢
  have hl : lv_has ls 7 [(0, .ref (adC 0)), (1, .int p1), (2, .int p2), (3, .int p3), (4, .ref (adF 0))] := hl
  unfold fX0_fitSegment at h
  have E0 : ∀ (H : Heap) (locs : List Loc) (ls : Array Slot), va_P D vwCl (wC ty adC vC ++ wF ty adF vF) H → va_D A (wC ty adC vC ++ wF ty adF vF) → va_S A s.heap H locs → lv_has ls 7 [(0, .ref (adC 0)), (1, .int p1), (2, .int p2), (3, .int p3), (4, .ref (adF 0))] → W p l e (headSpec wsX0_fitSegment { frames := 3, cells := 0, slots := 0, locals := 79 }).room s m ([.ref (adC 0), .int p1, .int p2, .int p3, .ref (adF 0)] : List Value).toArray below meth c H locs 0 0 Q (F0 m 0 ls []) := by
    intro H locs ls hP hD hS hl
    refine lv_aload hx hb dX0_fitSegment_0 (lv_at hl 4 rfl) ?_
    obtain ⟨r2, e2, h⟩ := kBd h
    refine kCallVV (As := []) (rest := []) (wc := wF ty adF vF) (w1 := wF ty adF r2) (wn := wC ty adC vC ++ wF ty adF r2) ⟨hx, hb, hml, hown, hts⟩ (cX1_clear_ok l D ty adF H.size vF  r2 e2) (cwV 0 hts gX0_fitSegment_X1_clear rfl rfl rfl (by decide +kernel) ⟨Nat.le_of_ble_eq_true rfl, Nat.le_of_ble_eq_true rfl⟩) hP hK hD hS hA [8, 9, 10] (by decide +kernel) rfl 1 8 rfl rfl rfl rfl hl.1 rfl (Nat.le_of_ble_eq_true rfl) dX0_fitSegment_2 ⟨Nat.le_of_ble_eq_true rfl, Nat.le_of_ble_eq_true rfl⟩ rfl rfl (fun H locs hP hD hS => ?_)
    refine lv_iload_n hx hb dX0_fitSegment_5 rfl (lv_at hl 1 rfl) ?_
    refine lv_istore (lv' := [(5, .int p1), (0, .ref (adC 0)), (1, .int p1), (2, .int p2), (3, .int p3), (4, .ref (adF 0))]) hx hb dX0_fitSegment_6 hl (by decide) rfl (fun ls hl => ?_)
    exact L8 vC p1 p2 p3  kFu r2 p1 h H locs ls hP hD hS (lv_sub hl [1, 2, 3, 4, 5, 0] rfl)
  exact E0 s.heap [] ls hP hD hS hl
def fX0_fitCorrections_c17 (uC : KC) (uF : KF) (x2 : Int32) (x3 : Int32) (x4 : Int32) (nx17 : KC × KF × Int32 × Int32 × Int32 → Option (Int32 × KC × KF)) : Option (Int32 × KC × KF) := if uC.1 ≤ x4 then ((fX0_fittingBeds uC).bind fun r72 => some (r72, uC, uF)) else ((fX0_hasAsh uC x4).bind fun r29 => if r29 = (0 : Int32) then (nx17 (uC, uF, x2, x3, (x4 + 1))) else (if kIn x4 16 = true then ((fX0_fitSegment uC uF x2 x4 ((uC.2.2.2.2.2.2.2.2.2.1 x4.toNatClampNeg) - x3)).bind fun r49 => if kIn x4 16 = true then ((some (r49.1.2.2.2.2.2.2.2.2.2.1 x4.toNatClampNeg)).bind fun y64 => nx17 (r49.1, r49.2, (x4 + (1 : Int32)), y64, (x4 + 1))) else none) else none))
def fX0_fitCorrections (vC : KC) (vF : KF) : Option (Int32 × KC × KF) := (fX0_canBeTuned vC).bind fun r1 => if ¬ r1 = (0 : Int32) then (kLoopC kFu (fun q nx17 => fX0_fitCorrections_c17 q.1 q.2.1 q.2.2.1 q.2.2.2.1 q.2.2.2.2 nx17) (vC, vF, (0 : Int32), (0 : Int32), (0 : Int32))) else (some ((-1000000003 : Int32), vC, vF))
set_option maxHeartbeats 4000000 in
set_option maxRecDepth 100000 in
theorem cX0_fitCorrections_ok (l : Launch) (D : va_G) (ty : kTy) (adC adF : Nat → Nat) (sz : Nat) (vC : KC) (vF : KF)  (res : Int32 × KC × KF) (h : fX0_fitCorrections vC vF = some res) : kMI l yX0_fitCorrections wsX0_fitCorrections { frames := 4, cells := 0, slots := 0, locals := 105 } [.ref (adC 0), .ref (adF 0)] D ty (wC ty adC vC ++ wF ty adF vF) sz res.1 (wC ty adC res.2.1 ++ wF ty adF res.2.2) := by
  refine Met.ofW (cc := cX0_fitCorrections) (maxL := 5) (ret := (some .int)) (by decide) rfl ?_
  intro p e s m args below meth c s₁ B hml hv
  obtain ⟨rfl, hsz, hP, hK, hD0⟩ := hv
  have hx := B.exec
  have hb := B.bytes
  have hr := B.returns
  have hts := atoms_spec (ws := wsX0_fitCorrections) B.pre
  have hown : s.vm.findClass RX0 = some m.cls := findClass_of_methodNamed B.named
  have hlocks := B.notSynchronized
  subst hsz
  have hD := hD0.self (sz := s.heap.size)
  generalize hAe : va_A (wC ty adC vC ++ wF ty adF vF) s.heap.size = A at hD ⊢
  have hA : ∀ q : Nat, s.heap.size ≤ q → A q := fun q h => by rw [← hAe]; exact Or.inr h
  have hS : va_S A s.heap s.heap [] := va_S.rf
  refine kGenW (fun Q hQ => ?_)
  have wf0 := hts (.fieldLink RX0 9 "IceCoreDater$Core" "size" "I") (by decide +kernel)
  have hinX0 : ∀ w ∈ wsX00, w ∈ wsX0_fitCorrections := by decide +kernel
  have wf2 := hts (.fieldLink RX0 41 "IceCoreDater$Core" "ashAge" "[I") (by decide +kernel)
  have wf3 := hts (.constant RX0 76 (-1000000003)) (by decide +kernel)
  have B17 : ∀ (nx17 : KC × KF × Int32 × Int32 × Int32 → Option (Int32 × KC × KF)) (hn17 : ∀ (uC : KC) (uF : KF) (x2 : Int32) (x3 : Int32) (x4 : Int32), nx17 (uC, uF, x2, x3, x4) = some res → ∀ (H : Heap) (locs : List Loc) (ls : Array Slot), va_P D vwCl (wC ty adC uC ++ wF ty adF uF) H → va_D A (wC ty adC uC ++ wF ty adF uF) → va_S A s.heap H locs → lv_has ls 5 [(0, .ref (adC 0)), (1, .ref (adF 0)), (2, .int x2), (3, .int x3), (4, .int x4)] → W p l e (headSpec wsX0_fitCorrections { frames := 4, cells := 0, slots := 0, locals := 105 }).room s m ([.ref (adC 0), .ref (adF 0)] : List Value).toArray below meth c H locs 0 0 Q (F0 m 17 ls [])) (uC : KC) (uF : KF) (x2 : Int32) (x3 : Int32) (x4 : Int32), fX0_fitCorrections_c17 uC uF x2 x3 x4 nx17 = some res → ∀ (H : Heap) (locs : List Loc) (ls : Array Slot), va_P D vwCl (wC ty adC uC ++ wF ty adF uF) H → va_D A (wC ty adC uC ++ wF ty adF uF) → va_S A s.heap H locs → lv_has ls 5 [(0, .ref (adC 0)), (1, .ref (adF 0)), (2, .int x2), (3, .int x3), (4, .int x4)] → W p l e (headSpec wsX0_fitCorrections { frames := 4, cells := 0, slots := 0, locals := 105 }).room s m ([.ref (adC 0), .ref (adF 0)] : List Value).toArray below meth c H locs 0 0 Q (F0 m 17 ls []) := by
    intro  nx17 hn17 uC uF x2 x3 x4 h H locs ls hP hD hS hl
    unfold fX0_fitCorrections_c17 at h
    refine lv_iload hx hb dX0_fitCorrections_17 (lv_at hl 4 rfl) ?_
    refine lv_aload_n hx hb dX0_fitCorrections_19 rfl (lv_at hl 0 rfl) ?_
    refine va_get (D := D) (ci := 0) (v := .int uC.1) (C := RX0) (T := TX0) (N := 12) hx hb hts hinX0 hown hK.1 hP 0 rfl rfl 0 (by decide) wf0 (fun _ h9 => h9) rfl dX0_fitCorrections_20 ?_
    refine lv_icmp_ge (tgt := 71) hx hb dX0_fitCorrections_23 (by decide) (fun c23 => ?_) (fun c23 => ?_)
    · have h := kT h c23
      refine lv_aload_n hx hb dX0_fitCorrections_71 rfl (lv_at hl 0 rfl) ?_
      obtain ⟨r72, e72, h⟩ := kBd h
      refine kCallVI (As := []) (rest := []) (wc := wC ty adC uC) (w1 := wC ty adC uC) (wn := wC ty adC uC ++ wF ty adF uF) ⟨hx, hb, hml, hown, hts⟩ (cX0_fittingBeds_ok l D ty adC H.size uC  r72 e72) (cwV 0 hts gX0_fitCorrections_X0_fittingBeds rfl rfl rfl (by decide +kernel) ⟨Nat.le_of_ble_eq_true rfl, Nat.le_of_ble_eq_true rfl⟩) hP hK hD hS hA [0, 1, 2, 3, 4, 5, 6, 7] (by decide +kernel) rfl 0 0 rfl rfl rfl rfl hl.1 rfl (Nat.le_of_ble_eq_true rfl) dX0_fitCorrections_72 ⟨Nat.le_of_ble_eq_true rfl, Nat.le_of_ble_eq_true rfl⟩ rfl rfl (fun H locs hP hD hS => ?_)
      obtain rfl := Option.some.inj h
      subst hQ
      exact W.iret (v := r72) hx hb hr (fun t ht hW => ⟨⟨r72, (), rfl, rfl, kEnd ht hP⟩, hS.F ht⟩) hS.2.2 dX0_fitCorrections_75
    · have h := kF h c23
      refine lv_aload_n hx hb dX0_fitCorrections_26 rfl (lv_at hl 0 rfl) ?_
      refine lv_iload hx hb dX0_fitCorrections_27 (lv_at hl 4 rfl) ?_
      obtain ⟨r29, e29, h⟩ := kBd h
      refine kCallVI (As := [.int x4]) (rest := []) (wc := wC ty adC uC) (w1 := wC ty adC uC) (wn := wC ty adC uC ++ wF ty adF uF) ⟨hx, hb, hml, hown, hts⟩ (cX0_hasAsh_ok l D ty adC H.size uC x4  r29 e29) (cwV 1 hts gX0_fitCorrections_X0_hasAsh rfl rfl rfl (by decide +kernel) ⟨Nat.le_of_ble_eq_true rfl, Nat.le_of_ble_eq_true rfl⟩) hP hK hD hS hA [0, 1, 2, 3, 4, 5, 6, 7] (by decide +kernel) rfl 0 0 rfl rfl rfl rfl hl.1 rfl (Nat.le_of_ble_eq_true rfl) dX0_fitCorrections_29 ⟨Nat.le_of_ble_eq_true rfl, Nat.le_of_ble_eq_true rfl⟩ rfl rfl (fun H locs hP hD hS => ?_)
      refine lv_if_eq (tgt := 65) hx hb dX0_fitCorrections_32 (by decide) (fun c32 => ?_) (fun c32 => ?_)
      · have h := kT h c32
        refine lv_iinc (v := (x4 + 1)) (lv' := [(4, .int (x4 + 1)), (0, .ref (adC 0)), (1, .ref (adF 0)), (2, .int x2), (3, .int x3)]) hx hb dX0_fitCorrections_65 hl (k := 4) rfl rfl (by decide) rfl (fun ls hl => ?_)
        refine lv_goto (tgt := 17) hx hb dX0_fitCorrections_68 (by decide) ?_
        exact hn17 uC uF x2 x3 (x4 + 1) h H locs ls hP hD hS (lv_sub hl [1, 2, 3, 4, 0] rfl)
      · have h := kF h c32
        refine lv_aload_n hx hb dX0_fitCorrections_35 rfl (lv_at hl 0 rfl) ?_
        refine lv_iload_n hx hb dX0_fitCorrections_36 rfl (lv_at hl 2 rfl) ?_
        refine lv_iload hx hb dX0_fitCorrections_37 (lv_at hl 4 rfl) ?_
        refine lv_aload_n hx hb dX0_fitCorrections_39 rfl (lv_at hl 0 rfl) ?_
        refine va_get (D := D) (ci := 0) (v := .ref (adC 5)) (C := RX0) (T := TX0) (N := 12) hx hb hts hinX0 hown hK.1 hP 0 rfl rfl 9 (by decide) wf2 (fun _ h9 => h9) rfl dX0_fitCorrections_40 ?_
        refine lv_iload hx hb dX0_fitCorrections_43 (lv_at hl 4 rfl) ?_
        obtain ⟨b45, h⟩ := kIf h
        refine va_iald (f := uC.2.2.2.2.2.2.2.2.2.1) (n := 16) hx hb hK.1 hP 5 0 rfl rfl (kIn_ok b45) dX0_fitCorrections_45 ?_
        refine lv_iload_n hx hb dX0_fitCorrections_46 rfl (lv_at hl 3 rfl) ?_
        refine lv_isub hx hb dX0_fitCorrections_47 ?_
        refine lv_aload_n hx hb dX0_fitCorrections_48 rfl (lv_at hl 1 rfl) ?_
        obtain ⟨r49, e49, h⟩ := kBd h
        refine kCallVV (As := [.int x2, .int x4, .int ((uC.2.2.2.2.2.2.2.2.2.1 x4.toNatClampNeg) - x3), .ref (adF 0)]) (rest := []) (wc := wC ty adC uC ++ wF ty adF uF) (w1 := wC ty adC r49.1 ++ wF ty adF r49.2) (wn := wC ty adC r49.1 ++ wF ty adF r49.2) ⟨hx, hb, hml, hown, hts⟩ (cX0_fitSegment_ok l D ty adC adF H.size uC uF x2 x4 ((uC.2.2.2.2.2.2.2.2.2.1 x4.toNatClampNeg) - x3)  r49 e49) (cwV 4 hts gX0_fitCorrections_X0_fitSegment rfl rfl rfl (by decide +kernel) ⟨Nat.le_of_ble_eq_true rfl, Nat.le_of_ble_eq_true rfl⟩) hP hK hD hS hA [0, 1, 2, 3, 4, 5, 6, 7, 8, 9, 10] (by decide +kernel) rfl 0 0 rfl rfl rfl rfl hl.1 rfl (Nat.le_of_ble_eq_true rfl) dX0_fitCorrections_49 ⟨Nat.le_of_ble_eq_true rfl, Nat.le_of_ble_eq_true rfl⟩ rfl rfl (fun H locs hP hD hS => ?_)
        refine lv_iload hx hb dX0_fitCorrections_52 (lv_at hl 4 rfl) ?_
        refine lv_iconst (v := 1) hx hb dX0_fitCorrections_54 (by decide) ?_
        refine lv_iadd hx hb dX0_fitCorrections_55 ?_
        refine lv_istore_n (lv' := [(2, .int (x4 + (1 : Int32))), (0, .ref (adC 0)), (1, .ref (adF 0)), (3, .int x3), (4, .int x4)]) hx hb dX0_fitCorrections_56 rfl hl (by decide) rfl (fun ls hl => ?_)
        refine lv_aload_n hx hb dX0_fitCorrections_57 rfl (lv_at hl 1 rfl) ?_
        refine va_get (D := D) (ci := 0) (v := .ref (adC 5)) (C := RX0) (T := TX0) (N := 12) hx hb hts hinX0 hown hK.1 hP 0 rfl rfl 9 (by decide) wf2 (fun _ h9 => h9) rfl dX0_fitCorrections_58 ?_
        refine lv_iload hx hb dX0_fitCorrections_61 (lv_at hl 4 rfl) ?_
        obtain ⟨b63, h⟩ := kIf h
        refine va_iald (f := r49.1.2.2.2.2.2.2.2.2.2.1) (n := 16) hx hb hK.1 hP 5 0 rfl rfl (kIn_ok b63) dX0_fitCorrections_63 ?_
        refine lv_topi (fun y64 ey64 => ?_)
        have h := kBs h ey64
        refine lv_istore_n (lv' := [(3, .int y64), (2, .int (x4 + (1 : Int32))), (0, .ref (adC 0)), (1, .ref (adF 0)), (4, .int x4)]) hx hb dX0_fitCorrections_64 rfl hl (by decide) rfl (fun ls hl => ?_)
        refine lv_iinc (v := (x4 + 1)) (lv' := [(4, .int (x4 + 1)), (3, .int y64), (2, .int (x4 + (1 : Int32))), (0, .ref (adC 0)), (1, .ref (adF 0))]) hx hb dX0_fitCorrections_65 hl (k := 4) rfl rfl (by decide) rfl (fun ls hl => ?_)
        refine lv_goto (tgt := 17) hx hb dX0_fitCorrections_68 (by decide) ?_
        exact hn17 r49.1 r49.2 (x4 + (1 : Int32)) y64 (x4 + 1) h H locs ls hP hD hS (lv_sub hl [3, 4, 2, 1, 0] rfl)
  have L17 : ∀  (n : Nat) (uC : KC) (uF : KF) (x2 : Int32) (x3 : Int32) (x4 : Int32), kLoopC n (fun q nx17 => fX0_fitCorrections_c17 q.1 q.2.1 q.2.2.1 q.2.2.2.1 q.2.2.2.2 nx17) (uC, uF, x2, x3, x4) = some res → ∀ (H : Heap) (locs : List Loc) (ls : Array Slot), va_P D vwCl (wC ty adC uC ++ wF ty adF uF) H → va_D A (wC ty adC uC ++ wF ty adF uF) → va_S A s.heap H locs → lv_has ls 5 [(0, .ref (adC 0)), (1, .ref (adF 0)), (2, .int x2), (3, .int x3), (4, .int x4)] → W p l e (headSpec wsX0_fitCorrections { frames := 4, cells := 0, slots := 0, locals := 105 }).room s m ([.ref (adC 0), .ref (adF 0)] : List Value).toArray below meth c H locs 0 0 Q (F0 m 17 ls []) := by
    intro  n
    induction n with
    | zero => intro uC uF x2 x3 x4 h; exact absurd h (by simp [kLoopC])
    | succ n ih => intro uC uF x2 x3 x4 h; exact B17  (kLoopC n (fun q nx17 => fX0_fitCorrections_c17 q.1 q.2.1 q.2.2.1 q.2.2.2.1 q.2.2.2.2 nx17)) ih uC uF x2 x3 x4 h
  have hl := lv_entry ([.ref (adC 0), .ref (adF 0)]) (n := 5) (Nat.le_of_ble_eq_true rfl)
  rw [lg_entry_eq]
  generalize (lg_sl ([.ref (adC 0), .ref (adF 0)]) ++ List.replicate (5 - (lg_sl ([.ref (adC 0), .ref (adF 0)])).length) Slot.unset).toArray = ls at hl ⊢
  have hl : lv_has ls 5 [(0, .ref (adC 0)), (1, .ref (adF 0))] := hl
  unfold fX0_fitCorrections at h
  have E0 : ∀ (H : Heap) (locs : List Loc) (ls : Array Slot), va_P D vwCl (wC ty adC vC ++ wF ty adF vF) H → va_D A (wC ty adC vC ++ wF ty adF vF) → va_S A s.heap H locs → lv_has ls 5 [(0, .ref (adC 0)), (1, .ref (adF 0))] → W p l e (headSpec wsX0_fitCorrections { frames := 4, cells := 0, slots := 0, locals := 105 }).room s m ([.ref (adC 0), .ref (adF 0)] : List Value).toArray below meth c H locs 0 0 Q (F0 m 0 ls []) := by
    intro H locs ls hP hD hS hl
    refine lv_aload_n hx hb dX0_fitCorrections_0 rfl (lv_at hl 0 rfl) ?_
    obtain ⟨r1, e1, h⟩ := kBd h
    refine kCallVI (As := []) (rest := []) (wc := wC ty adC vC) (w1 := wC ty adC vC) (wn := wC ty adC vC ++ wF ty adF vF) ⟨hx, hb, hml, hown, hts⟩ (cX0_canBeTuned_ok l D ty adC H.size vC  r1 e1) (cwV 0 hts gX0_fitCorrections_X0_canBeTuned rfl rfl rfl (by decide +kernel) ⟨Nat.le_of_ble_eq_true rfl, Nat.le_of_ble_eq_true rfl⟩) hP hK hD hS hA [0, 1, 2, 3, 4, 5, 6, 7] (by decide +kernel) rfl 0 0 rfl rfl rfl rfl hl.1 rfl (Nat.le_of_ble_eq_true rfl) dX0_fitCorrections_1 ⟨Nat.le_of_ble_eq_true rfl, Nat.le_of_ble_eq_true rfl⟩ rfl rfl (fun H locs hP hD hS => ?_)
    refine lv_if_ne (tgt := 10) hx hb dX0_fitCorrections_4 (by decide) (fun c4 => ?_) (fun c4 => ?_)
    · have h := kT h c4
      refine lv_iconst (v := 0) hx hb dX0_fitCorrections_10 (by decide) ?_
      refine lv_istore_n (lv' := [(2, .int (0 : Int32)), (0, .ref (adC 0)), (1, .ref (adF 0))]) hx hb dX0_fitCorrections_11 rfl hl (by decide) rfl (fun ls hl => ?_)
      refine lv_iconst (v := 0) hx hb dX0_fitCorrections_12 (by decide) ?_
      refine lv_istore_n (lv' := [(3, .int (0 : Int32)), (2, .int (0 : Int32)), (0, .ref (adC 0)), (1, .ref (adF 0))]) hx hb dX0_fitCorrections_13 rfl hl (by decide) rfl (fun ls hl => ?_)
      refine lv_iconst (v := 0) hx hb dX0_fitCorrections_14 (by decide) ?_
      refine lv_istore (lv' := [(4, .int (0 : Int32)), (3, .int (0 : Int32)), (2, .int (0 : Int32)), (0, .ref (adC 0)), (1, .ref (adF 0))]) hx hb dX0_fitCorrections_15 hl (by decide) rfl (fun ls hl => ?_)
      exact L17   kFu vC vF (0 : Int32) (0 : Int32) (0 : Int32) h H locs ls hP hD hS (lv_sub hl [3, 4, 2, 1, 0] rfl)
    · have h := kF h (fun z => z c4)
      refine lv_ldc hx hb hown wf3 dX0_fitCorrections_7 ?_
      obtain rfl := Option.some.inj h
      subst hQ
      exact W.iret (v := (-1000000003 : Int32)) hx hb hr (fun t ht hW => ⟨⟨(-1000000003 : Int32), (), rfl, rfl, kEnd ht hP⟩, hS.F ht⟩) hS.2.2 dX0_fitCorrections_9
  exact E0 s.heap [] ls hP hD hS hl
def fX2_prepare (vC : KC) (vH : KH) (vS : KS) : Option (KS) := if kIn ((vH.1 + vH.2) - (vH.1 + vH.2) / (9 : Int32) * (9 : Int32)) 9 = true then ((fX0_copyFrom (vS (((vH.1 + vH.2) - (vH.1 + vH.2) / (9 : Int32) * (9 : Int32)).toNatClampNeg)) vC).bind fun r24 => some (va_up vS (((vH.1 + vH.2) - (vH.1 + vH.2) / (9 : Int32) * (9 : Int32)).toNatClampNeg) r24)) else none
set_option maxHeartbeats 4000000 in
set_option maxRecDepth 100000 in
theorem cX2_prepare_ok (l : Launch) (D : va_G) (ty : kTy) (adC adH : Nat → Nat) (adS : Nat → Nat → Nat) (sz : Nat) (vC : KC) (vH : KH) (vS : KS)  (res : KS) (h : fX2_prepare vC vH vS = some res) : kMV l yX2_prepare wsX2_prepare { frames := 2, cells := 0, slots := 0, locals := 61 } [.ref (adH 0), .ref (adC 0)] D ty (wC ty adC vC ++ (wH ty adH adS vH ++ wS ty adS vS)) sz (wC ty adC vC ++ (wH ty adH adS vH ++ wS ty adS res)) := by
  refine Met.ofW (cc := cX2_prepare) (maxL := 3) (ret := none) (by decide) rfl ?_
  intro p e s m args below meth c s₁ B hml hv
  obtain ⟨rfl, hsz, hP, hK, hD0⟩ := hv
  have hx := B.exec
  have hb := B.bytes
  have hr := B.returns
  have hts := atoms_spec (ws := wsX2_prepare) B.pre
  have hown : s.vm.findClass RX2 = some m.cls := findClass_of_methodNamed B.named
  have hlocks := B.notSynchronized
  subst hsz
  have hD := hD0.self (sz := s.heap.size)
  generalize hAe : va_A (wC ty adC vC ++ (wH ty adH adS vH ++ wS ty adS vS)) s.heap.size = A at hD ⊢
  have hA : ∀ q : Nat, s.heap.size ≤ q → A q := fun q h => by rw [← hAe]; exact Or.inr h
  have hS : va_S A s.heap s.heap [] := va_S.rf
  refine kGenW (fun Q hQ => ?_)
  have wf0 := hts (.fieldLink RX2 13 "IceCoreDater$Log" "slots" "[LIceCoreDater$Core;") (by decide +kernel)
  have hinX2 : ∀ w ∈ wsX20, w ∈ wsX2_prepare := by decide +kernel
  have wf2 := hts (.fieldLink RX2 17 "IceCoreDater$Log" "oldest" "I") (by decide +kernel)
  have wf3 := hts (.fieldLink RX2 21 "IceCoreDater$Log" "size" "I") (by decide +kernel)
  have hl := lv_entry ([.ref (adH 0), .ref (adC 0)]) (n := 3) (Nat.le_of_ble_eq_true rfl)
  rw [lg_entry_eq]
  generalize (lg_sl ([.ref (adH 0), .ref (adC 0)]) ++ List.replicate (3 - (lg_sl ([.ref (adH 0), .ref (adC 0)])).length) Slot.unset).toArray = ls at hl ⊢
  have hl : lv_has ls 3 [(0, .ref (adH 0)), (1, .ref (adC 0))] := hl
  unfold fX2_prepare at h
  have E0 : ∀ (H : Heap) (locs : List Loc) (ls : Array Slot), va_P D vwCl (wC ty adC vC ++ (wH ty adH adS vH ++ wS ty adS vS)) H → va_D A (wC ty adC vC ++ (wH ty adH adS vH ++ wS ty adS vS)) → va_S A s.heap H locs → lv_has ls 3 [(0, .ref (adH 0)), (1, .ref (adC 0))] → W p l e (headSpec wsX2_prepare { frames := 2, cells := 0, slots := 0, locals := 61 }).room s m ([.ref (adH 0), .ref (adC 0)] : List Value).toArray below meth c H locs 0 0 Q (F0 m 0 ls []) := by
    intro H locs ls hP hD hS hl
    refine lv_aload_n hx hb dX2_prepare_0 rfl (lv_at hl 0 rfl) ?_
    refine va_get (D := D) (ci := 2) (v := .ref (adH 1)) (C := RX2) (T := TX2) (N := 3) hx hb hts hinX2 hown hK.1 hP 8 rfl rfl 0 (by decide) wf0 (fun _ h9 => h9) rfl dX2_prepare_1 ?_
    refine lv_aload_n hx hb dX2_prepare_4 rfl (lv_at hl 0 rfl) ?_
    refine va_get (D := D) (ci := 2) (v := .int vH.1) (C := RX2) (T := TX2) (N := 3) hx hb hts hinX2 hown hK.1 hP 8 rfl rfl 1 (by decide) wf2 (fun _ h9 => h9) rfl dX2_prepare_5 ?_
    refine lv_aload_n hx hb dX2_prepare_8 rfl (lv_at hl 0 rfl) ?_
    refine va_get (D := D) (ci := 2) (v := .int vH.2) (C := RX2) (T := TX2) (N := 3) hx hb hts hinX2 hown hK.1 hP 8 rfl rfl 2 (by decide) wf3 (fun _ h9 => h9) rfl dX2_prepare_9 ?_
    refine lv_iadd hx hb dX2_prepare_12 ?_
    refine lv_bipush (v := 9) hx hb dX2_prepare_13 (by decide) ?_
    refine lv_irem hx hb dX2_prepare_15 (by decide) ?_
    obtain ⟨b16, h⟩ := kIf h
    have k9 := kIn_lt b16
    refine va_aldq (f := fun i => some (adS i 0)) (n := 9) hx hb hK.1 hP 9 3 rfl rfl (kIn_ok b16) dX2_prepare_16 ?_
    generalize (((vH.1 + vH.2) - (vH.1 + vH.2) / (9 : Int32) * (9 : Int32)).toNatClampNeg) = k at h k9 ⊢
    rcases (show k = 0 ∨ k = 1 ∨ k = 2 ∨ k = 3 ∨ k = 4 ∨ k = 5 ∨ k = 6 ∨ k = 7 ∨ k = 8 by omega) with rfl | rfl | rfl | rfl | rfl | rfl | rfl | rfl | rfl
    · show W p l e (headSpec wsX2_prepare { frames := 2, cells := 0, slots := 0, locals := 61 }).room s m ([.ref (adH 0), .ref (adC 0)] : List Value).toArray below meth c H _ 0 0 Q (F0 m 17 ls [.ref (adS 0 0)])
      refine lv_astore_n (lv' := [(2, .ref (adS 0 0)), (0, .ref (adH 0)), (1, .ref (adC 0))]) hx hb dX2_prepare_17 rfl hl (by decide) rfl (fun ls hl => ?_)
      refine lv_aload_n hx hb dX2_prepare_18 rfl (lv_at hl 0 rfl) ?_
      refine lv_ifnull hx hb dX2_prepare_19 ?_
      refine lv_aload_n hx hb dX2_prepare_22 rfl (lv_at hl 0 rfl) ?_
      refine lv_aload_n hx hb dX2_prepare_23 rfl (lv_at hl 2 rfl) ?_
      obtain ⟨r24, e24, h⟩ := kBd h
      refine kCallVV (As := [.ref (adC 0)]) (rest := []) (wc := wC ty (adS 0) (vS 0) ++ wC ty adC vC) (w1 := wC ty (adS 0) r24 ++ wC ty adC vC) (wn := wC ty adC vC ++ (wH ty adH adS vH ++ wS ty adS (va_up vS 0 r24))) ⟨hx, hb, hml, hown, hts⟩ (cX0_copyFrom_ok l D ty (adS 0) adC H.size (vS 0) vC r24 e24) (cwV 1 hts gX2_prepare_X0_copyFrom rfl rfl rfl (by decide +kernel) ⟨Nat.le_of_ble_eq_true rfl, Nat.le_of_ble_eq_true rfl⟩) hP hK hD hS hA [10, 11, 12, 13, 14, 15, 16, 17, 0, 1, 2, 3, 4, 5, 6, 7] (by decide +kernel) rfl 0 10 rfl rfl rfl rfl hl.1 rfl (Nat.le_of_ble_eq_true rfl) dX2_prepare_24 ⟨Nat.le_of_ble_eq_true rfl, Nat.le_of_ble_eq_true rfl⟩ rfl rfl (fun H locs hP hD hS => ?_)
      obtain rfl := Option.some.inj h
      subst hQ
      exact W.vret hx hb hr (fun t ht hW => ⟨⟨(), rfl, trivial, kEnd ht hP⟩, hS.F ht⟩) hS.2.2 dX2_prepare_27
    · show W p l e (headSpec wsX2_prepare { frames := 2, cells := 0, slots := 0, locals := 61 }).room s m ([.ref (adH 0), .ref (adC 0)] : List Value).toArray below meth c H _ 0 0 Q (F0 m 17 ls [.ref (adS 1 0)])
      refine lv_astore_n (lv' := [(2, .ref (adS 1 0)), (0, .ref (adH 0)), (1, .ref (adC 0))]) hx hb dX2_prepare_17 rfl hl (by decide) rfl (fun ls hl => ?_)
      refine lv_aload_n hx hb dX2_prepare_18 rfl (lv_at hl 0 rfl) ?_
      refine lv_ifnull hx hb dX2_prepare_19 ?_
      refine lv_aload_n hx hb dX2_prepare_22 rfl (lv_at hl 0 rfl) ?_
      refine lv_aload_n hx hb dX2_prepare_23 rfl (lv_at hl 2 rfl) ?_
      obtain ⟨r24, e24, h⟩ := kBd h
      refine kCallVV (As := [.ref (adC 0)]) (rest := []) (wc := wC ty (adS 1) (vS 1) ++ wC ty adC vC) (w1 := wC ty (adS 1) r24 ++ wC ty adC vC) (wn := wC ty adC vC ++ (wH ty adH adS vH ++ wS ty adS (va_up vS 1 r24))) ⟨hx, hb, hml, hown, hts⟩ (cX0_copyFrom_ok l D ty (adS 1) adC H.size (vS 1) vC r24 e24) (cwV 1 hts gX2_prepare_X0_copyFrom rfl rfl rfl (by decide +kernel) ⟨Nat.le_of_ble_eq_true rfl, Nat.le_of_ble_eq_true rfl⟩) hP hK hD hS hA [18, 19, 20, 21, 22, 23, 24, 25, 0, 1, 2, 3, 4, 5, 6, 7] (by decide +kernel) rfl 0 18 rfl rfl rfl rfl hl.1 rfl (Nat.le_of_ble_eq_true rfl) dX2_prepare_24 ⟨Nat.le_of_ble_eq_true rfl, Nat.le_of_ble_eq_true rfl⟩ rfl rfl (fun H locs hP hD hS => ?_)
      obtain rfl := Option.some.inj h
      subst hQ
      exact W.vret hx hb hr (fun t ht hW => ⟨⟨(), rfl, trivial, kEnd ht hP⟩, hS.F ht⟩) hS.2.2 dX2_prepare_27
    · show W p l e (headSpec wsX2_prepare { frames := 2, cells := 0, slots := 0, locals := 61 }).room s m ([.ref (adH 0), .ref (adC 0)] : List Value).toArray below meth c H _ 0 0 Q (F0 m 17 ls [.ref (adS 2 0)])
      refine lv_astore_n (lv' := [(2, .ref (adS 2 0)), (0, .ref (adH 0)), (1, .ref (adC 0))]) hx hb dX2_prepare_17 rfl hl (by decide) rfl (fun ls hl => ?_)
      refine lv_aload_n hx hb dX2_prepare_18 rfl (lv_at hl 0 rfl) ?_
      refine lv_ifnull hx hb dX2_prepare_19 ?_
      refine lv_aload_n hx hb dX2_prepare_22 rfl (lv_at hl 0 rfl) ?_
      refine lv_aload_n hx hb dX2_prepare_23 rfl (lv_at hl 2 rfl) ?_
      obtain ⟨r24, e24, h⟩ := kBd h
      refine kCallVV (As := [.ref (adC 0)]) (rest := []) (wc := wC ty (adS 2) (vS 2) ++ wC ty adC vC) (w1 := wC ty (adS 2) r24 ++ wC ty adC vC) (wn := wC ty adC vC ++ (wH ty adH adS vH ++ wS ty adS (va_up vS 2 r24))) ⟨hx, hb, hml, hown, hts⟩ (cX0_copyFrom_ok l D ty (adS 2) adC H.size (vS 2) vC r24 e24) (cwV 1 hts gX2_prepare_X0_copyFrom rfl rfl rfl (by decide +kernel) ⟨Nat.le_of_ble_eq_true rfl, Nat.le_of_ble_eq_true rfl⟩) hP hK hD hS hA [26, 27, 28, 29, 30, 31, 32, 33, 0, 1, 2, 3, 4, 5, 6, 7] (by decide +kernel) rfl 0 26 rfl rfl rfl rfl hl.1 rfl (Nat.le_of_ble_eq_true rfl) dX2_prepare_24 ⟨Nat.le_of_ble_eq_true rfl, Nat.le_of_ble_eq_true rfl⟩ rfl rfl (fun H locs hP hD hS => ?_)
      obtain rfl := Option.some.inj h
      subst hQ
      exact W.vret hx hb hr (fun t ht hW => ⟨⟨(), rfl, trivial, kEnd ht hP⟩, hS.F ht⟩) hS.2.2 dX2_prepare_27
    · show W p l e (headSpec wsX2_prepare { frames := 2, cells := 0, slots := 0, locals := 61 }).room s m ([.ref (adH 0), .ref (adC 0)] : List Value).toArray below meth c H _ 0 0 Q (F0 m 17 ls [.ref (adS 3 0)])
      refine lv_astore_n (lv' := [(2, .ref (adS 3 0)), (0, .ref (adH 0)), (1, .ref (adC 0))]) hx hb dX2_prepare_17 rfl hl (by decide) rfl (fun ls hl => ?_)
      refine lv_aload_n hx hb dX2_prepare_18 rfl (lv_at hl 0 rfl) ?_
      refine lv_ifnull hx hb dX2_prepare_19 ?_
      refine lv_aload_n hx hb dX2_prepare_22 rfl (lv_at hl 0 rfl) ?_
      refine lv_aload_n hx hb dX2_prepare_23 rfl (lv_at hl 2 rfl) ?_
      obtain ⟨r24, e24, h⟩ := kBd h
      refine kCallVV (As := [.ref (adC 0)]) (rest := []) (wc := wC ty (adS 3) (vS 3) ++ wC ty adC vC) (w1 := wC ty (adS 3) r24 ++ wC ty adC vC) (wn := wC ty adC vC ++ (wH ty adH adS vH ++ wS ty adS (va_up vS 3 r24))) ⟨hx, hb, hml, hown, hts⟩ (cX0_copyFrom_ok l D ty (adS 3) adC H.size (vS 3) vC r24 e24) (cwV 1 hts gX2_prepare_X0_copyFrom rfl rfl rfl (by decide +kernel) ⟨Nat.le_of_ble_eq_true rfl, Nat.le_of_ble_eq_true rfl⟩) hP hK hD hS hA [34, 35, 36, 37, 38, 39, 40, 41, 0, 1, 2, 3, 4, 5, 6, 7] (by decide +kernel) rfl 0 34 rfl rfl rfl rfl hl.1 rfl (Nat.le_of_ble_eq_true rfl) dX2_prepare_24 ⟨Nat.le_of_ble_eq_true rfl, Nat.le_of_ble_eq_true rfl⟩ rfl rfl (fun H locs hP hD hS => ?_)
      obtain rfl := Option.some.inj h
      subst hQ
      exact W.vret hx hb hr (fun t ht hW => ⟨⟨(), rfl, trivial, kEnd ht hP⟩, hS.F ht⟩) hS.2.2 dX2_prepare_27
    · show W p l e (headSpec wsX2_prepare { frames := 2, cells := 0, slots := 0, locals := 61 }).room s m ([.ref (adH 0), .ref (adC 0)] : List Value).toArray below meth c H _ 0 0 Q (F0 m 17 ls [.ref (adS 4 0)])
      refine lv_astore_n (lv' := [(2, .ref (adS 4 0)), (0, .ref (adH 0)), (1, .ref (adC 0))]) hx hb dX2_prepare_17 rfl hl (by decide) rfl (fun ls hl => ?_)
      refine lv_aload_n hx hb dX2_prepare_18 rfl (lv_at hl 0 rfl) ?_
      refine lv_ifnull hx hb dX2_prepare_19 ?_
      refine lv_aload_n hx hb dX2_prepare_22 rfl (lv_at hl 0 rfl) ?_
      refine lv_aload_n hx hb dX2_prepare_23 rfl (lv_at hl 2 rfl) ?_
      obtain ⟨r24, e24, h⟩ := kBd h
      refine kCallVV (As := [.ref (adC 0)]) (rest := []) (wc := wC ty (adS 4) (vS 4) ++ wC ty adC vC) (w1 := wC ty (adS 4) r24 ++ wC ty adC vC) (wn := wC ty adC vC ++ (wH ty adH adS vH ++ wS ty adS (va_up vS 4 r24))) ⟨hx, hb, hml, hown, hts⟩ (cX0_copyFrom_ok l D ty (adS 4) adC H.size (vS 4) vC r24 e24) (cwV 1 hts gX2_prepare_X0_copyFrom rfl rfl rfl (by decide +kernel) ⟨Nat.le_of_ble_eq_true rfl, Nat.le_of_ble_eq_true rfl⟩) hP hK hD hS hA [42, 43, 44, 45, 46, 47, 48, 49, 0, 1, 2, 3, 4, 5, 6, 7] (by decide +kernel) rfl 0 42 rfl rfl rfl rfl hl.1 rfl (Nat.le_of_ble_eq_true rfl) dX2_prepare_24 ⟨Nat.le_of_ble_eq_true rfl, Nat.le_of_ble_eq_true rfl⟩ rfl rfl (fun H locs hP hD hS => ?_)
      obtain rfl := Option.some.inj h
      subst hQ
      exact W.vret hx hb hr (fun t ht hW => ⟨⟨(), rfl, trivial, kEnd ht hP⟩, hS.F ht⟩) hS.2.2 dX2_prepare_27
    · show W p l e (headSpec wsX2_prepare { frames := 2, cells := 0, slots := 0, locals := 61 }).room s m ([.ref (adH 0), .ref (adC 0)] : List Value).toArray below meth c H _ 0 0 Q (F0 m 17 ls [.ref (adS 5 0)])
      refine lv_astore_n (lv' := [(2, .ref (adS 5 0)), (0, .ref (adH 0)), (1, .ref (adC 0))]) hx hb dX2_prepare_17 rfl hl (by decide) rfl (fun ls hl => ?_)
      refine lv_aload_n hx hb dX2_prepare_18 rfl (lv_at hl 0 rfl) ?_
      refine lv_ifnull hx hb dX2_prepare_19 ?_
      refine lv_aload_n hx hb dX2_prepare_22 rfl (lv_at hl 0 rfl) ?_
      refine lv_aload_n hx hb dX2_prepare_23 rfl (lv_at hl 2 rfl) ?_
      obtain ⟨r24, e24, h⟩ := kBd h
      refine kCallVV (As := [.ref (adC 0)]) (rest := []) (wc := wC ty (adS 5) (vS 5) ++ wC ty adC vC) (w1 := wC ty (adS 5) r24 ++ wC ty adC vC) (wn := wC ty adC vC ++ (wH ty adH adS vH ++ wS ty adS (va_up vS 5 r24))) ⟨hx, hb, hml, hown, hts⟩ (cX0_copyFrom_ok l D ty (adS 5) adC H.size (vS 5) vC r24 e24) (cwV 1 hts gX2_prepare_X0_copyFrom rfl rfl rfl (by decide +kernel) ⟨Nat.le_of_ble_eq_true rfl, Nat.le_of_ble_eq_true rfl⟩) hP hK hD hS hA [50, 51, 52, 53, 54, 55, 56, 57, 0, 1, 2, 3, 4, 5, 6, 7] (by decide +kernel) rfl 0 50 rfl rfl rfl rfl hl.1 rfl (Nat.le_of_ble_eq_true rfl) dX2_prepare_24 ⟨Nat.le_of_ble_eq_true rfl, Nat.le_of_ble_eq_true rfl⟩ rfl rfl (fun H locs hP hD hS => ?_)
      obtain rfl := Option.some.inj h
      subst hQ
      exact W.vret hx hb hr (fun t ht hW => ⟨⟨(), rfl, trivial, kEnd ht hP⟩, hS.F ht⟩) hS.2.2 dX2_prepare_27
    · show W p l e (headSpec wsX2_prepare { frames := 2, cells := 0, slots := 0, locals := 61 }).room s m ([.ref (adH 0), .ref (adC 0)] : List Value).toArray below meth c H _ 0 0 Q (F0 m 17 ls [.ref (adS 6 0)])
      refine lv_astore_n (lv' := [(2, .ref (adS 6 0)), (0, .ref (adH 0)), (1, .ref (adC 0))]) hx hb dX2_prepare_17 rfl hl (by decide) rfl (fun ls hl => ?_)
      refine lv_aload_n hx hb dX2_prepare_18 rfl (lv_at hl 0 rfl) ?_
      refine lv_ifnull hx hb dX2_prepare_19 ?_
      refine lv_aload_n hx hb dX2_prepare_22 rfl (lv_at hl 0 rfl) ?_
      refine lv_aload_n hx hb dX2_prepare_23 rfl (lv_at hl 2 rfl) ?_
      obtain ⟨r24, e24, h⟩ := kBd h
      refine kCallVV (As := [.ref (adC 0)]) (rest := []) (wc := wC ty (adS 6) (vS 6) ++ wC ty adC vC) (w1 := wC ty (adS 6) r24 ++ wC ty adC vC) (wn := wC ty adC vC ++ (wH ty adH adS vH ++ wS ty adS (va_up vS 6 r24))) ⟨hx, hb, hml, hown, hts⟩ (cX0_copyFrom_ok l D ty (adS 6) adC H.size (vS 6) vC r24 e24) (cwV 1 hts gX2_prepare_X0_copyFrom rfl rfl rfl (by decide +kernel) ⟨Nat.le_of_ble_eq_true rfl, Nat.le_of_ble_eq_true rfl⟩) hP hK hD hS hA [58, 59, 60, 61, 62, 63, 64, 65, 0, 1, 2, 3, 4, 5, 6, 7] (by decide +kernel) rfl 0 58 rfl rfl rfl rfl hl.1 rfl (Nat.le_of_ble_eq_true rfl) dX2_prepare_24 ⟨Nat.le_of_ble_eq_true rfl, Nat.le_of_ble_eq_true rfl⟩ rfl rfl (fun H locs hP hD hS => ?_)
      obtain rfl := Option.some.inj h
      subst hQ
      exact W.vret hx hb hr (fun t ht hW => ⟨⟨(), rfl, trivial, kEnd ht hP⟩, hS.F ht⟩) hS.2.2 dX2_prepare_27
    · show W p l e (headSpec wsX2_prepare { frames := 2, cells := 0, slots := 0, locals := 61 }).room s m ([.ref (adH 0), .ref (adC 0)] : List Value).toArray below meth c H _ 0 0 Q (F0 m 17 ls [.ref (adS 7 0)])
      refine lv_astore_n (lv' := [(2, .ref (adS 7 0)), (0, .ref (adH 0)), (1, .ref (adC 0))]) hx hb dX2_prepare_17 rfl hl (by decide) rfl (fun ls hl => ?_)
      refine lv_aload_n hx hb dX2_prepare_18 rfl (lv_at hl 0 rfl) ?_
      refine lv_ifnull hx hb dX2_prepare_19 ?_
      refine lv_aload_n hx hb dX2_prepare_22 rfl (lv_at hl 0 rfl) ?_
      refine lv_aload_n hx hb dX2_prepare_23 rfl (lv_at hl 2 rfl) ?_
      obtain ⟨r24, e24, h⟩ := kBd h
      refine kCallVV (As := [.ref (adC 0)]) (rest := []) (wc := wC ty (adS 7) (vS 7) ++ wC ty adC vC) (w1 := wC ty (adS 7) r24 ++ wC ty adC vC) (wn := wC ty adC vC ++ (wH ty adH adS vH ++ wS ty adS (va_up vS 7 r24))) ⟨hx, hb, hml, hown, hts⟩ (cX0_copyFrom_ok l D ty (adS 7) adC H.size (vS 7) vC r24 e24) (cwV 1 hts gX2_prepare_X0_copyFrom rfl rfl rfl (by decide +kernel) ⟨Nat.le_of_ble_eq_true rfl, Nat.le_of_ble_eq_true rfl⟩) hP hK hD hS hA [66, 67, 68, 69, 70, 71, 72, 73, 0, 1, 2, 3, 4, 5, 6, 7] (by decide +kernel) rfl 0 66 rfl rfl rfl rfl hl.1 rfl (Nat.le_of_ble_eq_true rfl) dX2_prepare_24 ⟨Nat.le_of_ble_eq_true rfl, Nat.le_of_ble_eq_true rfl⟩ rfl rfl (fun H locs hP hD hS => ?_)
      obtain rfl := Option.some.inj h
      subst hQ
      exact W.vret hx hb hr (fun t ht hW => ⟨⟨(), rfl, trivial, kEnd ht hP⟩, hS.F ht⟩) hS.2.2 dX2_prepare_27
    · show W p l e (headSpec wsX2_prepare { frames := 2, cells := 0, slots := 0, locals := 61 }).room s m ([.ref (adH 0), .ref (adC 0)] : List Value).toArray below meth c H _ 0 0 Q (F0 m 17 ls [.ref (adS 8 0)])
      refine lv_astore_n (lv' := [(2, .ref (adS 8 0)), (0, .ref (adH 0)), (1, .ref (adC 0))]) hx hb dX2_prepare_17 rfl hl (by decide) rfl (fun ls hl => ?_)
      refine lv_aload_n hx hb dX2_prepare_18 rfl (lv_at hl 0 rfl) ?_
      refine lv_ifnull hx hb dX2_prepare_19 ?_
      refine lv_aload_n hx hb dX2_prepare_22 rfl (lv_at hl 0 rfl) ?_
      refine lv_aload_n hx hb dX2_prepare_23 rfl (lv_at hl 2 rfl) ?_
      obtain ⟨r24, e24, h⟩ := kBd h
      refine kCallVV (As := [.ref (adC 0)]) (rest := []) (wc := wC ty (adS 8) (vS 8) ++ wC ty adC vC) (w1 := wC ty (adS 8) r24 ++ wC ty adC vC) (wn := wC ty adC vC ++ (wH ty adH adS vH ++ wS ty adS (va_up vS 8 r24))) ⟨hx, hb, hml, hown, hts⟩ (cX0_copyFrom_ok l D ty (adS 8) adC H.size (vS 8) vC r24 e24) (cwV 1 hts gX2_prepare_X0_copyFrom rfl rfl rfl (by decide +kernel) ⟨Nat.le_of_ble_eq_true rfl, Nat.le_of_ble_eq_true rfl⟩) hP hK hD hS hA [74, 75, 76, 77, 78, 79, 80, 81, 0, 1, 2, 3, 4, 5, 6, 7] (by decide +kernel) rfl 0 74 rfl rfl rfl rfl hl.1 rfl (Nat.le_of_ble_eq_true rfl) dX2_prepare_24 ⟨Nat.le_of_ble_eq_true rfl, Nat.le_of_ble_eq_true rfl⟩ rfl rfl (fun H locs hP hD hS => ?_)
      obtain rfl := Option.some.inj h
      subst hQ
      exact W.vret hx hb hr (fun t ht hW => ⟨⟨(), rfl, trivial, kEnd ht hP⟩, hS.F ht⟩) hS.2.2 dX2_prepare_27
  exact E0 s.heap [] ls hP hD hS hl
def fX2_keep (vH : KH) : Option (KH) := if (8 : Int32) ≤ vH.2 then (some (((vH.1 + (1 : Int32)) - (vH.1 + (1 : Int32)) / (9 : Int32) * (9 : Int32)), vH.2)) else (some (vH.1, (vH.2 + (1 : Int32))))
set_option maxHeartbeats 4000000 in
set_option maxRecDepth 100000 in
theorem cX2_keep_ok (l : Launch) (D : va_G) (ty : kTy) (adH : Nat → Nat) (adS : Nat → Nat → Nat) (sz : Nat) (vH : KH)  (res : KH) (h : fX2_keep vH = some res) : kMV l yX2_keep wsX2_keep { frames := 0, cells := 0, slots := 0, locals := 0 } [.ref (adH 0)] D ty (wH ty adH adS vH) sz (wH ty adH adS res) := by
  refine Met.ofW (cc := cX2_keep) (maxL := 1) (ret := none) (by decide) rfl ?_
  intro p e s m args below meth c s₁ B hml hv
  obtain ⟨rfl, hsz, hP, hK, hD0⟩ := hv
  have hx := B.exec
  have hb := B.bytes
  have hr := B.returns
  have hts := atoms_spec (ws := wsX2_keep) B.pre
  have hown : s.vm.findClass RX2 = some m.cls := findClass_of_methodNamed B.named
  have hlocks := B.notSynchronized
  subst hsz
  have hD := hD0.self (sz := s.heap.size)
  generalize hAe : va_A (wH ty adH adS vH) s.heap.size = A at hD ⊢
  have hA : ∀ q : Nat, s.heap.size ≤ q → A q := fun q h => by rw [← hAe]; exact Or.inr h
  have hS : va_S A s.heap s.heap [] := va_S.rf
  refine kGenW (fun Q hQ => ?_)
  have wf0 := hts (.fieldLink RX2 21 "IceCoreDater$Log" "size" "I") (by decide +kernel)
  have hinX2 : ∀ w ∈ wsX20, w ∈ wsX2_keep := by decide +kernel
  have wf2 := hts (.fieldLink RX2 17 "IceCoreDater$Log" "oldest" "I") (by decide +kernel)
  have hl := lv_entry ([.ref (adH 0)]) (n := 1) (Nat.le_of_ble_eq_true rfl)
  rw [lg_entry_eq]
  generalize (lg_sl ([.ref (adH 0)]) ++ List.replicate (1 - (lg_sl ([.ref (adH 0)])).length) Slot.unset).toArray = ls at hl ⊢
  have hl : lv_has ls 1 [(0, .ref (adH 0))] := hl
  unfold fX2_keep at h
  have E0 : ∀ (H : Heap) (locs : List Loc) (ls : Array Slot), va_P D vwCl (wH ty adH adS vH) H → va_D A (wH ty adH adS vH) → va_S A s.heap H locs → lv_has ls 1 [(0, .ref (adH 0))] → W p l e (headSpec wsX2_keep { frames := 0, cells := 0, slots := 0, locals := 0 }).room s m ([.ref (adH 0)] : List Value).toArray below meth c H locs 0 0 Q (F0 m 0 ls []) := by
    intro H locs ls hP hD hS hl
    refine lv_aload_n hx hb dX2_keep_0 rfl (lv_at hl 0 rfl) ?_
    refine va_get (D := D) (ci := 2) (v := .int vH.2) (C := RX2) (T := TX2) (N := 3) hx hb hts hinX2 hown hK.1 hP 0 rfl rfl 2 (by decide) wf0 (fun _ h9 => h9) rfl dX2_keep_1 ?_
    refine lv_bipush (v := 8) hx hb dX2_keep_4 (by decide) ?_
    refine lv_icmp_ge (tgt := 22) hx hb dX2_keep_6 (by decide) (fun c6 => ?_) (fun c6 => ?_)
    · have h := kT h c6
      refine lv_aload_n hx hb dX2_keep_22 rfl (lv_at hl 0 rfl) ?_
      refine lv_aload_n hx hb dX2_keep_23 rfl (lv_at hl 0 rfl) ?_
      refine va_get (D := D) (ci := 2) (v := .int vH.1) (C := RX2) (T := TX2) (N := 3) hx hb hts hinX2 hown hK.1 hP 0 rfl rfl 1 (by decide) wf2 (fun _ h9 => h9) rfl dX2_keep_24 ?_
      refine lv_iconst (v := 1) hx hb dX2_keep_27 (by decide) ?_
      refine lv_iadd hx hb dX2_keep_28 ?_
      refine lv_bipush (v := 9) hx hb dX2_keep_29 (by decide) ?_
      refine lv_irem hx hb dX2_keep_31 (by decide) ?_
      refine va_put (D := D) (ci := 2) (v := .int ((vH.1 + (1 : Int32)) - (vH.1 + (1 : Int32)) / (9 : Int32) * (9 : Int32))) (ty := .int) (C := RX2) (T := TX2) (N := 3) hx hb hts hinX2 tyX2 tyX2_ok nmX2 hown hK.1 hP hD hS 0 rfl rfl 1 (by decide) wf2 (fun _ h9 => h9) rfl (by decide +kernel) rfl rfl (Nat.le_of_ble_eq_true rfl) dX2_keep_32 (fun H locs hP hD hS => ?_)
      have hP : va_P D vwCl (wH ty adH adS (((vH.1 + (1 : Int32)) - (vH.1 + (1 : Int32)) / (9 : Int32) * (9 : Int32)), vH.2)) H := hP
      have hD : va_D A (wH ty adH adS (((vH.1 + (1 : Int32)) - (vH.1 + (1 : Int32)) / (9 : Int32) * (9 : Int32)), vH.2)) := hD
      obtain rfl := Option.some.inj h
      subst hQ
      exact W.vret hx hb hr (fun t ht hW => ⟨⟨(), rfl, trivial, kEnd ht hP⟩, hS.F ht⟩) hS.2.2 dX2_keep_35
    · have h := kF h c6
      refine lv_aload_n hx hb dX2_keep_9 rfl (lv_at hl 0 rfl) ?_
      refine lv_dup hx hb dX2_keep_10 rfl ?_
      refine va_get (D := D) (ci := 2) (v := .int vH.2) (C := RX2) (T := TX2) (N := 3) hx hb hts hinX2 hown hK.1 hP 0 rfl rfl 2 (by decide) wf0 (fun _ h9 => h9) rfl dX2_keep_11 ?_
      refine lv_iconst (v := 1) hx hb dX2_keep_14 (by decide) ?_
      refine lv_iadd hx hb dX2_keep_15 ?_
      refine va_put (D := D) (ci := 2) (v := .int (vH.2 + (1 : Int32))) (ty := .int) (C := RX2) (T := TX2) (N := 3) hx hb hts hinX2 tyX2 tyX2_ok nmX2 hown hK.1 hP hD hS 0 rfl rfl 2 (by decide) wf0 (fun _ h9 => h9) rfl (by decide +kernel) rfl rfl (Nat.le_of_ble_eq_true rfl) dX2_keep_16 (fun H locs hP hD hS => ?_)
      have hP : va_P D vwCl (wH ty adH adS (vH.1, (vH.2 + (1 : Int32)))) H := hP
      have hD : va_D A (wH ty adH adS (vH.1, (vH.2 + (1 : Int32)))) := hD
      refine lv_goto (tgt := 35) hx hb dX2_keep_19 (by decide) ?_
      obtain rfl := Option.some.inj h
      subst hQ
      exact W.vret hx hb hr (fun t ht hW => ⟨⟨(), rfl, trivial, kEnd ht hP⟩, hS.F ht⟩) hS.2.2 dX2_keep_35
  exact E0 s.heap [] ls hP hD hS hl
def fX2_restore (vC : KC) (vH : KH) (vS : KS) : Option (Int32 × KC × KH) := if ¬ vH.2 = (0 : Int32) then (if kIn ((vH.1 + (vH.2 - (1 : Int32))) - (vH.1 + (vH.2 - (1 : Int32))) / (9 : Int32) * (9 : Int32)) 9 = true then ((fX0_copyFrom vC (vS (((vH.1 + (vH.2 - (1 : Int32))) - (vH.1 + (vH.2 - (1 : Int32))) / (9 : Int32) * (9 : Int32)).toNatClampNeg))).bind fun r44 => some ((vH.2 - (1 : Int32)), r44, (vH.1, (vH.2 - (1 : Int32))))) else none) else (some ((-1000000005 : Int32), vC, vH))
set_option maxHeartbeats 4000000 in
set_option maxRecDepth 100000 in
theorem cX2_restore_ok (l : Launch) (D : va_G) (ty : kTy) (adC adH : Nat → Nat) (adS : Nat → Nat → Nat) (sz : Nat) (vC : KC) (vH : KH) (vS : KS)  (res : Int32 × KC × KH) (h : fX2_restore vC vH vS = some res) : kMI l yX2_restore wsX2_restore { frames := 2, cells := 0, slots := 0, locals := 61 } [.ref (adH 0), .ref (adC 0)] D ty (wC ty adC vC ++ (wH ty adH adS vH ++ wS ty adS vS)) sz res.1 (wC ty adC res.2.1 ++ (wH ty adH adS res.2.2 ++ wS ty adS vS)) := by
  refine Met.ofW (cc := cX2_restore) (maxL := 3) (ret := (some .int)) (by decide) rfl ?_
  intro p e s m args below meth c s₁ B hml hv
  obtain ⟨rfl, hsz, hP, hK, hD0⟩ := hv
  have hx := B.exec
  have hb := B.bytes
  have hr := B.returns
  have hts := atoms_spec (ws := wsX2_restore) B.pre
  have hown : s.vm.findClass RX2 = some m.cls := findClass_of_methodNamed B.named
  have hlocks := B.notSynchronized
  subst hsz
  have hD := hD0.self (sz := s.heap.size)
  generalize hAe : va_A (wC ty adC vC ++ (wH ty adH adS vH ++ wS ty adS vS)) s.heap.size = A at hD ⊢
  have hA : ∀ q : Nat, s.heap.size ≤ q → A q := fun q h => by rw [← hAe]; exact Or.inr h
  have hS : va_S A s.heap s.heap [] := va_S.rf
  refine kGenW (fun Q hQ => ?_)
  have wf0 := hts (.fieldLink RX2 21 "IceCoreDater$Log" "size" "I") (by decide +kernel)
  have hinX2 : ∀ w ∈ wsX20, w ∈ wsX2_restore := by decide +kernel
  have wf2 := hts (.fieldLink RX2 13 "IceCoreDater$Log" "slots" "[LIceCoreDater$Core;") (by decide +kernel)
  have wf3 := hts (.fieldLink RX2 17 "IceCoreDater$Log" "oldest" "I") (by decide +kernel)
  have wf4 := hts (.constant RX2 29 (-1000000005)) (by decide +kernel)
  have hl := lv_entry ([.ref (adH 0), .ref (adC 0)]) (n := 3) (Nat.le_of_ble_eq_true rfl)
  rw [lg_entry_eq]
  generalize (lg_sl ([.ref (adH 0), .ref (adC 0)]) ++ List.replicate (3 - (lg_sl ([.ref (adH 0), .ref (adC 0)])).length) Slot.unset).toArray = ls at hl ⊢
  have hl : lv_has ls 3 [(0, .ref (adH 0)), (1, .ref (adC 0))] := hl
  unfold fX2_restore at h
  have E0 : ∀ (H : Heap) (locs : List Loc) (ls : Array Slot), va_P D vwCl (wC ty adC vC ++ (wH ty adH adS vH ++ wS ty adS vS)) H → va_D A (wC ty adC vC ++ (wH ty adH adS vH ++ wS ty adS vS)) → va_S A s.heap H locs → lv_has ls 3 [(0, .ref (adH 0)), (1, .ref (adC 0))] → W p l e (headSpec wsX2_restore { frames := 2, cells := 0, slots := 0, locals := 61 }).room s m ([.ref (adH 0), .ref (adC 0)] : List Value).toArray below meth c H locs 0 0 Q (F0 m 0 ls []) := by
    intro H locs ls hP hD hS hl
    refine lv_aload_n hx hb dX2_restore_0 rfl (lv_at hl 0 rfl) ?_
    refine va_get (D := D) (ci := 2) (v := .int vH.2) (C := RX2) (T := TX2) (N := 3) hx hb hts hinX2 hown hK.1 hP 8 rfl rfl 2 (by decide) wf0 (fun _ h9 => h9) rfl dX2_restore_1 ?_
    refine lv_if_ne (tgt := 10) hx hb dX2_restore_4 (by decide) (fun c4 => ?_) (fun c4 => ?_)
    · have h := kT h c4
      refine lv_aload_n hx hb dX2_restore_10 rfl (lv_at hl 0 rfl) ?_
      refine lv_dup hx hb dX2_restore_11 rfl ?_
      refine va_get (D := D) (ci := 2) (v := .int vH.2) (C := RX2) (T := TX2) (N := 3) hx hb hts hinX2 hown hK.1 hP 8 rfl rfl 2 (by decide) wf0 (fun _ h9 => h9) rfl dX2_restore_12 ?_
      refine lv_iconst (v := 1) hx hb dX2_restore_15 (by decide) ?_
      refine lv_isub hx hb dX2_restore_16 ?_
      refine va_put (D := D) (ci := 2) (v := .int (vH.2 - (1 : Int32))) (ty := .int) (C := RX2) (T := TX2) (N := 3) hx hb hts hinX2 tyX2 tyX2_ok nmX2 hown hK.1 hP hD hS 8 rfl rfl 2 (by decide) wf0 (fun _ h9 => h9) rfl (by decide +kernel) rfl rfl (Nat.le_of_ble_eq_true rfl) dX2_restore_17 (fun H locs hP hD hS => ?_)
      have hP : va_P D vwCl (wC ty adC vC ++ (wH ty adH adS (vH.1, (vH.2 - (1 : Int32))) ++ wS ty adS vS)) H := hP
      have hD : va_D A (wC ty adC vC ++ (wH ty adH adS (vH.1, (vH.2 - (1 : Int32))) ++ wS ty adS vS)) := hD
      refine lv_aload_n hx hb dX2_restore_20 rfl (lv_at hl 0 rfl) ?_
      refine va_get (D := D) (ci := 2) (v := .ref (adH 1)) (C := RX2) (T := TX2) (N := 3) hx hb hts hinX2 hown hK.1 hP 8 rfl rfl 0 (by decide) wf2 (fun _ h9 => h9) rfl dX2_restore_21 ?_
      refine lv_aload_n hx hb dX2_restore_24 rfl (lv_at hl 0 rfl) ?_
      refine va_get (D := D) (ci := 2) (v := .int vH.1) (C := RX2) (T := TX2) (N := 3) hx hb hts hinX2 hown hK.1 hP 8 rfl rfl 1 (by decide) wf3 (fun _ h9 => h9) rfl dX2_restore_25 ?_
      refine lv_aload_n hx hb dX2_restore_28 rfl (lv_at hl 0 rfl) ?_
      refine va_get (D := D) (ci := 2) (v := .int (vH.2 - (1 : Int32))) (C := RX2) (T := TX2) (N := 3) hx hb hts hinX2 hown hK.1 hP 8 rfl rfl 2 (by decide) wf0 (fun _ h9 => h9) rfl dX2_restore_29 ?_
      refine lv_iadd hx hb dX2_restore_32 ?_
      refine lv_bipush (v := 9) hx hb dX2_restore_33 (by decide) ?_
      refine lv_irem hx hb dX2_restore_35 (by decide) ?_
      obtain ⟨b36, h⟩ := kIf h
      have k9 := kIn_lt b36
      refine va_aldq (f := fun i => some (adS i 0)) (n := 9) hx hb hK.1 hP 9 3 rfl rfl (kIn_ok b36) dX2_restore_36 ?_
      generalize (((vH.1 + (vH.2 - (1 : Int32))) - (vH.1 + (vH.2 - (1 : Int32))) / (9 : Int32) * (9 : Int32)).toNatClampNeg) = k at h k9 ⊢
      rcases (show k = 0 ∨ k = 1 ∨ k = 2 ∨ k = 3 ∨ k = 4 ∨ k = 5 ∨ k = 6 ∨ k = 7 ∨ k = 8 by omega) with rfl | rfl | rfl | rfl | rfl | rfl | rfl | rfl | rfl
      · show W p l e (headSpec wsX2_restore { frames := 2, cells := 0, slots := 0, locals := 61 }).room s m ([.ref (adH 0), .ref (adC 0)] : List Value).toArray below meth c H _ 0 0 Q (F0 m 37 ls [.ref (adS 0 0)])
        refine lv_astore_n (lv' := [(2, .ref (adS 0 0)), (0, .ref (adH 0)), (1, .ref (adC 0))]) hx hb dX2_restore_37 rfl hl (by decide) rfl (fun ls hl => ?_)
        refine lv_aload_n hx hb dX2_restore_38 rfl (lv_at hl 0 rfl) ?_
        refine lv_ifnull hx hb dX2_restore_39 ?_
        refine lv_aload_n hx hb dX2_restore_42 rfl (lv_at hl 2 rfl) ?_
        refine lv_aload_n hx hb dX2_restore_43 rfl (lv_at hl 0 rfl) ?_
        obtain ⟨r44, e44, h⟩ := kBd h
        refine kCallVV (As := [.ref (adS 0 0)]) (rest := []) (wc := wC ty adC vC ++ wC ty (adS 0) (vS 0)) (w1 := wC ty adC r44 ++ wC ty (adS 0) (vS 0)) (wn := wC ty adC r44 ++ (wH ty adH adS (vH.1, (vH.2 - (1 : Int32))) ++ wS ty adS vS)) ⟨hx, hb, hml, hown, hts⟩ (cX0_copyFrom_ok l D ty adC (adS 0) H.size vC (vS 0) r44 e44) (cwV 1 hts gX2_restore_X0_copyFrom rfl rfl rfl (by decide +kernel) ⟨Nat.le_of_ble_eq_true rfl, Nat.le_of_ble_eq_true rfl⟩) hP hK hD hS hA [0, 1, 2, 3, 4, 5, 6, 7, 10, 11, 12, 13, 14, 15, 16, 17] (by decide +kernel) rfl 0 0 rfl rfl rfl rfl hl.1 rfl (Nat.le_of_ble_eq_true rfl) dX2_restore_44 ⟨Nat.le_of_ble_eq_true rfl, Nat.le_of_ble_eq_true rfl⟩ rfl rfl (fun H locs hP hD hS => ?_)
        refine lv_aload_n hx hb dX2_restore_47 rfl (lv_at hl 1 rfl) ?_
        refine va_get (D := D) (ci := 2) (v := .int (vH.2 - (1 : Int32))) (C := RX2) (T := TX2) (N := 3) hx hb hts hinX2 hown hK.1 hP 8 rfl rfl 2 (by decide) wf0 (fun _ h9 => h9) rfl dX2_restore_48 ?_
        obtain rfl := Option.some.inj h
        subst hQ
        exact W.iret (v := (vH.2 - (1 : Int32))) hx hb hr (fun t ht hW => ⟨⟨(vH.2 - (1 : Int32)), (), rfl, rfl, kEnd ht hP⟩, hS.F ht⟩) hS.2.2 dX2_restore_51
      · show W p l e (headSpec wsX2_restore { frames := 2, cells := 0, slots := 0, locals := 61 }).room s m ([.ref (adH 0), .ref (adC 0)] : List Value).toArray below meth c H _ 0 0 Q (F0 m 37 ls [.ref (adS 1 0)])
        refine lv_astore_n (lv' := [(2, .ref (adS 1 0)), (0, .ref (adH 0)), (1, .ref (adC 0))]) hx hb dX2_restore_37 rfl hl (by decide) rfl (fun ls hl => ?_)
        refine lv_aload_n hx hb dX2_restore_38 rfl (lv_at hl 0 rfl) ?_
        refine lv_ifnull hx hb dX2_restore_39 ?_
        refine lv_aload_n hx hb dX2_restore_42 rfl (lv_at hl 2 rfl) ?_
        refine lv_aload_n hx hb dX2_restore_43 rfl (lv_at hl 0 rfl) ?_
        obtain ⟨r44, e44, h⟩ := kBd h
        refine kCallVV (As := [.ref (adS 1 0)]) (rest := []) (wc := wC ty adC vC ++ wC ty (adS 1) (vS 1)) (w1 := wC ty adC r44 ++ wC ty (adS 1) (vS 1)) (wn := wC ty adC r44 ++ (wH ty adH adS (vH.1, (vH.2 - (1 : Int32))) ++ wS ty adS vS)) ⟨hx, hb, hml, hown, hts⟩ (cX0_copyFrom_ok l D ty adC (adS 1) H.size vC (vS 1) r44 e44) (cwV 1 hts gX2_restore_X0_copyFrom rfl rfl rfl (by decide +kernel) ⟨Nat.le_of_ble_eq_true rfl, Nat.le_of_ble_eq_true rfl⟩) hP hK hD hS hA [0, 1, 2, 3, 4, 5, 6, 7, 18, 19, 20, 21, 22, 23, 24, 25] (by decide +kernel) rfl 0 0 rfl rfl rfl rfl hl.1 rfl (Nat.le_of_ble_eq_true rfl) dX2_restore_44 ⟨Nat.le_of_ble_eq_true rfl, Nat.le_of_ble_eq_true rfl⟩ rfl rfl (fun H locs hP hD hS => ?_)
        refine lv_aload_n hx hb dX2_restore_47 rfl (lv_at hl 1 rfl) ?_
        refine va_get (D := D) (ci := 2) (v := .int (vH.2 - (1 : Int32))) (C := RX2) (T := TX2) (N := 3) hx hb hts hinX2 hown hK.1 hP 8 rfl rfl 2 (by decide) wf0 (fun _ h9 => h9) rfl dX2_restore_48 ?_
        obtain rfl := Option.some.inj h
        subst hQ
        exact W.iret (v := (vH.2 - (1 : Int32))) hx hb hr (fun t ht hW => ⟨⟨(vH.2 - (1 : Int32)), (), rfl, rfl, kEnd ht hP⟩, hS.F ht⟩) hS.2.2 dX2_restore_51
      · show W p l e (headSpec wsX2_restore { frames := 2, cells := 0, slots := 0, locals := 61 }).room s m ([.ref (adH 0), .ref (adC 0)] : List Value).toArray below meth c H _ 0 0 Q (F0 m 37 ls [.ref (adS 2 0)])
        refine lv_astore_n (lv' := [(2, .ref (adS 2 0)), (0, .ref (adH 0)), (1, .ref (adC 0))]) hx hb dX2_restore_37 rfl hl (by decide) rfl (fun ls hl => ?_)
        refine lv_aload_n hx hb dX2_restore_38 rfl (lv_at hl 0 rfl) ?_
        refine lv_ifnull hx hb dX2_restore_39 ?_
        refine lv_aload_n hx hb dX2_restore_42 rfl (lv_at hl 2 rfl) ?_
        refine lv_aload_n hx hb dX2_restore_43 rfl (lv_at hl 0 rfl) ?_
        obtain ⟨r44, e44, h⟩ := kBd h
        refine kCallVV (As := [.ref (adS 2 0)]) (rest := []) (wc := wC ty adC vC ++ wC ty (adS 2) (vS 2)) (w1 := wC ty adC r44 ++ wC ty (adS 2) (vS 2)) (wn := wC ty adC r44 ++ (wH ty adH adS (vH.1, (vH.2 - (1 : Int32))) ++ wS ty adS vS)) ⟨hx, hb, hml, hown, hts⟩ (cX0_copyFrom_ok l D ty adC (adS 2) H.size vC (vS 2) r44 e44) (cwV 1 hts gX2_restore_X0_copyFrom rfl rfl rfl (by decide +kernel) ⟨Nat.le_of_ble_eq_true rfl, Nat.le_of_ble_eq_true rfl⟩) hP hK hD hS hA [0, 1, 2, 3, 4, 5, 6, 7, 26, 27, 28, 29, 30, 31, 32, 33] (by decide +kernel) rfl 0 0 rfl rfl rfl rfl hl.1 rfl (Nat.le_of_ble_eq_true rfl) dX2_restore_44 ⟨Nat.le_of_ble_eq_true rfl, Nat.le_of_ble_eq_true rfl⟩ rfl rfl (fun H locs hP hD hS => ?_)
        refine lv_aload_n hx hb dX2_restore_47 rfl (lv_at hl 1 rfl) ?_
        refine va_get (D := D) (ci := 2) (v := .int (vH.2 - (1 : Int32))) (C := RX2) (T := TX2) (N := 3) hx hb hts hinX2 hown hK.1 hP 8 rfl rfl 2 (by decide) wf0 (fun _ h9 => h9) rfl dX2_restore_48 ?_
        obtain rfl := Option.some.inj h
        subst hQ
        exact W.iret (v := (vH.2 - (1 : Int32))) hx hb hr (fun t ht hW => ⟨⟨(vH.2 - (1 : Int32)), (), rfl, rfl, kEnd ht hP⟩, hS.F ht⟩) hS.2.2 dX2_restore_51
      · show W p l e (headSpec wsX2_restore { frames := 2, cells := 0, slots := 0, locals := 61 }).room s m ([.ref (adH 0), .ref (adC 0)] : List Value).toArray below meth c H _ 0 0 Q (F0 m 37 ls [.ref (adS 3 0)])
        refine lv_astore_n (lv' := [(2, .ref (adS 3 0)), (0, .ref (adH 0)), (1, .ref (adC 0))]) hx hb dX2_restore_37 rfl hl (by decide) rfl (fun ls hl => ?_)
        refine lv_aload_n hx hb dX2_restore_38 rfl (lv_at hl 0 rfl) ?_
        refine lv_ifnull hx hb dX2_restore_39 ?_
        refine lv_aload_n hx hb dX2_restore_42 rfl (lv_at hl 2 rfl) ?_
        refine lv_aload_n hx hb dX2_restore_43 rfl (lv_at hl 0 rfl) ?_
        obtain ⟨r44, e44, h⟩ := kBd h
        refine kCallVV (As := [.ref (adS 3 0)]) (rest := []) (wc := wC ty adC vC ++ wC ty (adS 3) (vS 3)) (w1 := wC ty adC r44 ++ wC ty (adS 3) (vS 3)) (wn := wC ty adC r44 ++ (wH ty adH adS (vH.1, (vH.2 - (1 : Int32))) ++ wS ty adS vS)) ⟨hx, hb, hml, hown, hts⟩ (cX0_copyFrom_ok l D ty adC (adS 3) H.size vC (vS 3) r44 e44) (cwV 1 hts gX2_restore_X0_copyFrom rfl rfl rfl (by decide +kernel) ⟨Nat.le_of_ble_eq_true rfl, Nat.le_of_ble_eq_true rfl⟩) hP hK hD hS hA [0, 1, 2, 3, 4, 5, 6, 7, 34, 35, 36, 37, 38, 39, 40, 41] (by decide +kernel) rfl 0 0 rfl rfl rfl rfl hl.1 rfl (Nat.le_of_ble_eq_true rfl) dX2_restore_44 ⟨Nat.le_of_ble_eq_true rfl, Nat.le_of_ble_eq_true rfl⟩ rfl rfl (fun H locs hP hD hS => ?_)
        refine lv_aload_n hx hb dX2_restore_47 rfl (lv_at hl 1 rfl) ?_
        refine va_get (D := D) (ci := 2) (v := .int (vH.2 - (1 : Int32))) (C := RX2) (T := TX2) (N := 3) hx hb hts hinX2 hown hK.1 hP 8 rfl rfl 2 (by decide) wf0 (fun _ h9 => h9) rfl dX2_restore_48 ?_
        obtain rfl := Option.some.inj h
        subst hQ
        exact W.iret (v := (vH.2 - (1 : Int32))) hx hb hr (fun t ht hW => ⟨⟨(vH.2 - (1 : Int32)), (), rfl, rfl, kEnd ht hP⟩, hS.F ht⟩) hS.2.2 dX2_restore_51
      · show W p l e (headSpec wsX2_restore { frames := 2, cells := 0, slots := 0, locals := 61 }).room s m ([.ref (adH 0), .ref (adC 0)] : List Value).toArray below meth c H _ 0 0 Q (F0 m 37 ls [.ref (adS 4 0)])
        refine lv_astore_n (lv' := [(2, .ref (adS 4 0)), (0, .ref (adH 0)), (1, .ref (adC 0))]) hx hb dX2_restore_37 rfl hl (by decide) rfl (fun ls hl => ?_)
        refine lv_aload_n hx hb dX2_restore_38 rfl (lv_at hl 0 rfl) ?_
        refine lv_ifnull hx hb dX2_restore_39 ?_
        refine lv_aload_n hx hb dX2_restore_42 rfl (lv_at hl 2 rfl) ?_
        refine lv_aload_n hx hb dX2_restore_43 rfl (lv_at hl 0 rfl) ?_
        obtain ⟨r44, e44, h⟩ := kBd h
        refine kCallVV (As := [.ref (adS 4 0)]) (rest := []) (wc := wC ty adC vC ++ wC ty (adS 4) (vS 4)) (w1 := wC ty adC r44 ++ wC ty (adS 4) (vS 4)) (wn := wC ty adC r44 ++ (wH ty adH adS (vH.1, (vH.2 - (1 : Int32))) ++ wS ty adS vS)) ⟨hx, hb, hml, hown, hts⟩ (cX0_copyFrom_ok l D ty adC (adS 4) H.size vC (vS 4) r44 e44) (cwV 1 hts gX2_restore_X0_copyFrom rfl rfl rfl (by decide +kernel) ⟨Nat.le_of_ble_eq_true rfl, Nat.le_of_ble_eq_true rfl⟩) hP hK hD hS hA [0, 1, 2, 3, 4, 5, 6, 7, 42, 43, 44, 45, 46, 47, 48, 49] (by decide +kernel) rfl 0 0 rfl rfl rfl rfl hl.1 rfl (Nat.le_of_ble_eq_true rfl) dX2_restore_44 ⟨Nat.le_of_ble_eq_true rfl, Nat.le_of_ble_eq_true rfl⟩ rfl rfl (fun H locs hP hD hS => ?_)
        refine lv_aload_n hx hb dX2_restore_47 rfl (lv_at hl 1 rfl) ?_
        refine va_get (D := D) (ci := 2) (v := .int (vH.2 - (1 : Int32))) (C := RX2) (T := TX2) (N := 3) hx hb hts hinX2 hown hK.1 hP 8 rfl rfl 2 (by decide) wf0 (fun _ h9 => h9) rfl dX2_restore_48 ?_
        obtain rfl := Option.some.inj h
        subst hQ
        exact W.iret (v := (vH.2 - (1 : Int32))) hx hb hr (fun t ht hW => ⟨⟨(vH.2 - (1 : Int32)), (), rfl, rfl, kEnd ht hP⟩, hS.F ht⟩) hS.2.2 dX2_restore_51
      · show W p l e (headSpec wsX2_restore { frames := 2, cells := 0, slots := 0, locals := 61 }).room s m ([.ref (adH 0), .ref (adC 0)] : List Value).toArray below meth c H _ 0 0 Q (F0 m 37 ls [.ref (adS 5 0)])
        refine lv_astore_n (lv' := [(2, .ref (adS 5 0)), (0, .ref (adH 0)), (1, .ref (adC 0))]) hx hb dX2_restore_37 rfl hl (by decide) rfl (fun ls hl => ?_)
        refine lv_aload_n hx hb dX2_restore_38 rfl (lv_at hl 0 rfl) ?_
        refine lv_ifnull hx hb dX2_restore_39 ?_
        refine lv_aload_n hx hb dX2_restore_42 rfl (lv_at hl 2 rfl) ?_
        refine lv_aload_n hx hb dX2_restore_43 rfl (lv_at hl 0 rfl) ?_
        obtain ⟨r44, e44, h⟩ := kBd h
        refine kCallVV (As := [.ref (adS 5 0)]) (rest := []) (wc := wC ty adC vC ++ wC ty (adS 5) (vS 5)) (w1 := wC ty adC r44 ++ wC ty (adS 5) (vS 5)) (wn := wC ty adC r44 ++ (wH ty adH adS (vH.1, (vH.2 - (1 : Int32))) ++ wS ty adS vS)) ⟨hx, hb, hml, hown, hts⟩ (cX0_copyFrom_ok l D ty adC (adS 5) H.size vC (vS 5) r44 e44) (cwV 1 hts gX2_restore_X0_copyFrom rfl rfl rfl (by decide +kernel) ⟨Nat.le_of_ble_eq_true rfl, Nat.le_of_ble_eq_true rfl⟩) hP hK hD hS hA [0, 1, 2, 3, 4, 5, 6, 7, 50, 51, 52, 53, 54, 55, 56, 57] (by decide +kernel) rfl 0 0 rfl rfl rfl rfl hl.1 rfl (Nat.le_of_ble_eq_true rfl) dX2_restore_44 ⟨Nat.le_of_ble_eq_true rfl, Nat.le_of_ble_eq_true rfl⟩ rfl rfl (fun H locs hP hD hS => ?_)
        refine lv_aload_n hx hb dX2_restore_47 rfl (lv_at hl 1 rfl) ?_
        refine va_get (D := D) (ci := 2) (v := .int (vH.2 - (1 : Int32))) (C := RX2) (T := TX2) (N := 3) hx hb hts hinX2 hown hK.1 hP 8 rfl rfl 2 (by decide) wf0 (fun _ h9 => h9) rfl dX2_restore_48 ?_
        obtain rfl := Option.some.inj h
        subst hQ
        exact W.iret (v := (vH.2 - (1 : Int32))) hx hb hr (fun t ht hW => ⟨⟨(vH.2 - (1 : Int32)), (), rfl, rfl, kEnd ht hP⟩, hS.F ht⟩) hS.2.2 dX2_restore_51
      · show W p l e (headSpec wsX2_restore { frames := 2, cells := 0, slots := 0, locals := 61 }).room s m ([.ref (adH 0), .ref (adC 0)] : List Value).toArray below meth c H _ 0 0 Q (F0 m 37 ls [.ref (adS 6 0)])
        refine lv_astore_n (lv' := [(2, .ref (adS 6 0)), (0, .ref (adH 0)), (1, .ref (adC 0))]) hx hb dX2_restore_37 rfl hl (by decide) rfl (fun ls hl => ?_)
        refine lv_aload_n hx hb dX2_restore_38 rfl (lv_at hl 0 rfl) ?_
        refine lv_ifnull hx hb dX2_restore_39 ?_
        refine lv_aload_n hx hb dX2_restore_42 rfl (lv_at hl 2 rfl) ?_
        refine lv_aload_n hx hb dX2_restore_43 rfl (lv_at hl 0 rfl) ?_
        obtain ⟨r44, e44, h⟩ := kBd h
        refine kCallVV (As := [.ref (adS 6 0)]) (rest := []) (wc := wC ty adC vC ++ wC ty (adS 6) (vS 6)) (w1 := wC ty adC r44 ++ wC ty (adS 6) (vS 6)) (wn := wC ty adC r44 ++ (wH ty adH adS (vH.1, (vH.2 - (1 : Int32))) ++ wS ty adS vS)) ⟨hx, hb, hml, hown, hts⟩ (cX0_copyFrom_ok l D ty adC (adS 6) H.size vC (vS 6) r44 e44) (cwV 1 hts gX2_restore_X0_copyFrom rfl rfl rfl (by decide +kernel) ⟨Nat.le_of_ble_eq_true rfl, Nat.le_of_ble_eq_true rfl⟩) hP hK hD hS hA [0, 1, 2, 3, 4, 5, 6, 7, 58, 59, 60, 61, 62, 63, 64, 65] (by decide +kernel) rfl 0 0 rfl rfl rfl rfl hl.1 rfl (Nat.le_of_ble_eq_true rfl) dX2_restore_44 ⟨Nat.le_of_ble_eq_true rfl, Nat.le_of_ble_eq_true rfl⟩ rfl rfl (fun H locs hP hD hS => ?_)
        refine lv_aload_n hx hb dX2_restore_47 rfl (lv_at hl 1 rfl) ?_
        refine va_get (D := D) (ci := 2) (v := .int (vH.2 - (1 : Int32))) (C := RX2) (T := TX2) (N := 3) hx hb hts hinX2 hown hK.1 hP 8 rfl rfl 2 (by decide) wf0 (fun _ h9 => h9) rfl dX2_restore_48 ?_
        obtain rfl := Option.some.inj h
        subst hQ
        exact W.iret (v := (vH.2 - (1 : Int32))) hx hb hr (fun t ht hW => ⟨⟨(vH.2 - (1 : Int32)), (), rfl, rfl, kEnd ht hP⟩, hS.F ht⟩) hS.2.2 dX2_restore_51
      · show W p l e (headSpec wsX2_restore { frames := 2, cells := 0, slots := 0, locals := 61 }).room s m ([.ref (adH 0), .ref (adC 0)] : List Value).toArray below meth c H _ 0 0 Q (F0 m 37 ls [.ref (adS 7 0)])
        refine lv_astore_n (lv' := [(2, .ref (adS 7 0)), (0, .ref (adH 0)), (1, .ref (adC 0))]) hx hb dX2_restore_37 rfl hl (by decide) rfl (fun ls hl => ?_)
        refine lv_aload_n hx hb dX2_restore_38 rfl (lv_at hl 0 rfl) ?_
        refine lv_ifnull hx hb dX2_restore_39 ?_
        refine lv_aload_n hx hb dX2_restore_42 rfl (lv_at hl 2 rfl) ?_
        refine lv_aload_n hx hb dX2_restore_43 rfl (lv_at hl 0 rfl) ?_
        obtain ⟨r44, e44, h⟩ := kBd h
        refine kCallVV (As := [.ref (adS 7 0)]) (rest := []) (wc := wC ty adC vC ++ wC ty (adS 7) (vS 7)) (w1 := wC ty adC r44 ++ wC ty (adS 7) (vS 7)) (wn := wC ty adC r44 ++ (wH ty adH adS (vH.1, (vH.2 - (1 : Int32))) ++ wS ty adS vS)) ⟨hx, hb, hml, hown, hts⟩ (cX0_copyFrom_ok l D ty adC (adS 7) H.size vC (vS 7) r44 e44) (cwV 1 hts gX2_restore_X0_copyFrom rfl rfl rfl (by decide +kernel) ⟨Nat.le_of_ble_eq_true rfl, Nat.le_of_ble_eq_true rfl⟩) hP hK hD hS hA [0, 1, 2, 3, 4, 5, 6, 7, 66, 67, 68, 69, 70, 71, 72, 73] (by decide +kernel) rfl 0 0 rfl rfl rfl rfl hl.1 rfl (Nat.le_of_ble_eq_true rfl) dX2_restore_44 ⟨Nat.le_of_ble_eq_true rfl, Nat.le_of_ble_eq_true rfl⟩ rfl rfl (fun H locs hP hD hS => ?_)
        refine lv_aload_n hx hb dX2_restore_47 rfl (lv_at hl 1 rfl) ?_
        refine va_get (D := D) (ci := 2) (v := .int (vH.2 - (1 : Int32))) (C := RX2) (T := TX2) (N := 3) hx hb hts hinX2 hown hK.1 hP 8 rfl rfl 2 (by decide) wf0 (fun _ h9 => h9) rfl dX2_restore_48 ?_
        obtain rfl := Option.some.inj h
        subst hQ
        exact W.iret (v := (vH.2 - (1 : Int32))) hx hb hr (fun t ht hW => ⟨⟨(vH.2 - (1 : Int32)), (), rfl, rfl, kEnd ht hP⟩, hS.F ht⟩) hS.2.2 dX2_restore_51
      · show W p l e (headSpec wsX2_restore { frames := 2, cells := 0, slots := 0, locals := 61 }).room s m ([.ref (adH 0), .ref (adC 0)] : List Value).toArray below meth c H _ 0 0 Q (F0 m 37 ls [.ref (adS 8 0)])
        refine lv_astore_n (lv' := [(2, .ref (adS 8 0)), (0, .ref (adH 0)), (1, .ref (adC 0))]) hx hb dX2_restore_37 rfl hl (by decide) rfl (fun ls hl => ?_)
        refine lv_aload_n hx hb dX2_restore_38 rfl (lv_at hl 0 rfl) ?_
        refine lv_ifnull hx hb dX2_restore_39 ?_
        refine lv_aload_n hx hb dX2_restore_42 rfl (lv_at hl 2 rfl) ?_
        refine lv_aload_n hx hb dX2_restore_43 rfl (lv_at hl 0 rfl) ?_
        obtain ⟨r44, e44, h⟩ := kBd h
        refine kCallVV (As := [.ref (adS 8 0)]) (rest := []) (wc := wC ty adC vC ++ wC ty (adS 8) (vS 8)) (w1 := wC ty adC r44 ++ wC ty (adS 8) (vS 8)) (wn := wC ty adC r44 ++ (wH ty adH adS (vH.1, (vH.2 - (1 : Int32))) ++ wS ty adS vS)) ⟨hx, hb, hml, hown, hts⟩ (cX0_copyFrom_ok l D ty adC (adS 8) H.size vC (vS 8) r44 e44) (cwV 1 hts gX2_restore_X0_copyFrom rfl rfl rfl (by decide +kernel) ⟨Nat.le_of_ble_eq_true rfl, Nat.le_of_ble_eq_true rfl⟩) hP hK hD hS hA [0, 1, 2, 3, 4, 5, 6, 7, 74, 75, 76, 77, 78, 79, 80, 81] (by decide +kernel) rfl 0 0 rfl rfl rfl rfl hl.1 rfl (Nat.le_of_ble_eq_true rfl) dX2_restore_44 ⟨Nat.le_of_ble_eq_true rfl, Nat.le_of_ble_eq_true rfl⟩ rfl rfl (fun H locs hP hD hS => ?_)
        refine lv_aload_n hx hb dX2_restore_47 rfl (lv_at hl 1 rfl) ?_
        refine va_get (D := D) (ci := 2) (v := .int (vH.2 - (1 : Int32))) (C := RX2) (T := TX2) (N := 3) hx hb hts hinX2 hown hK.1 hP 8 rfl rfl 2 (by decide) wf0 (fun _ h9 => h9) rfl dX2_restore_48 ?_
        obtain rfl := Option.some.inj h
        subst hQ
        exact W.iret (v := (vH.2 - (1 : Int32))) hx hb hr (fun t ht hW => ⟨⟨(vH.2 - (1 : Int32)), (), rfl, rfl, kEnd ht hP⟩, hS.F ht⟩) hS.2.2 dX2_restore_51
    · have h := kF h (fun z => z c4)
      refine lv_ldc hx hb hown wf4 dX2_restore_7 ?_
      obtain rfl := Option.some.inj h
      subst hQ
      exact W.iret (v := (-1000000005 : Int32)) hx hb hr (fun t ht hW => ⟨⟨(-1000000005 : Int32), (), rfl, rfl, kEnd ht hP⟩, hS.F ht⟩) hS.2.2 dX2_restore_9
  exact E0 s.heap [] ls hP hD hS hl
