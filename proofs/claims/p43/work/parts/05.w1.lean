def fX4_isBetween (p0 : Int32) (p1 : Int32) (p2 : Int32) : Option (Int32) := if p0 < p1 then (some (0 : Int32)) else (if p2 < p0 then (some (0 : Int32)) else (some (1 : Int32)))
set_option maxHeartbeats 4000000 in
set_option maxRecDepth 100000 in
theorem cX4_isBetween_ok (l : Launch) (D : va_G) (ty : kTy)  (sz : Nat) (p0 : Int32) (p1 : Int32) (p2 : Int32)  (res : Int32) (h : fX4_isBetween p0 p1 p2 = some res) : kMI l yX4_isBetween wsX4_isBetween { frames := 0, cells := 0, slots := 0, locals := 0 } [.int p0, .int p1, .int p2] D ty (([] : va_W)) sz res (([] : va_W)) := by
  refine Met.ofW (cc := cX4_isBetween) (maxL := 3) (ret := (some .boolean)) (by decide) rfl ?_
  intro p e s m args below meth c s₁ B hml hv
  obtain ⟨rfl, hsz, hP, hK, hD0⟩ := hv
  have hx := B.exec
  have hb := B.bytes
  have hr := B.returns
  have hts := atoms_spec (ws := wsX4_isBetween) B.pre
  have hown : s.vm.findClass RX4 = some m.cls := findClass_of_methodNamed B.named
  have hlocks := B.notSynchronized
  subst hsz
  have hD := hD0.self (sz := s.heap.size)
  generalize hAe : va_A (([] : va_W)) s.heap.size = A at hD ⊢
  have hA : ∀ q : Nat, s.heap.size ≤ q → A q := fun q h => by rw [← hAe]; exact Or.inr h
  have hS : va_S A s.heap s.heap [] := va_S.rf
  refine kGenW (fun Q hQ => ?_)
  have hl := lv_entry ([.int p0, .int p1, .int p2]) (n := 3) (Nat.le_of_ble_eq_true rfl)
  rw [lg_entry_eq]
  generalize (lg_sl ([.int p0, .int p1, .int p2]) ++ List.replicate (3 - (lg_sl ([.int p0, .int p1, .int p2])).length) Slot.unset).toArray = ls at hl ⊢
  have hl : lv_has ls 3 [(0, .int p0), (1, .int p1), (2, .int p2)] := hl
  unfold fX4_isBetween at h
  have E0 : ∀ (H : Heap) (locs : List Loc) (ls : Array Slot), va_P D vwCl (([] : va_W)) H → va_D A (([] : va_W)) → va_S A s.heap H locs → lv_has ls 3 [(0, .int p0), (1, .int p1), (2, .int p2)] → W p l e (headSpec wsX4_isBetween { frames := 0, cells := 0, slots := 0, locals := 0 }).room s m ([.int p0, .int p1, .int p2] : List Value).toArray below meth c H locs 0 0 Q (F0 m 0 ls []) := by
    intro H locs ls hP hD hS hl
    refine lv_iload_n hx hb dX4_isBetween_0 rfl (lv_at hl 0 rfl) ?_
    refine lv_iload_n hx hb dX4_isBetween_1 rfl (lv_at hl 1 rfl) ?_
    refine lv_icmp_lt (tgt := 14) hx hb dX4_isBetween_2 (by decide) (fun c2 => ?_) (fun c2 => ?_)
    · have h := kT h c2
      refine lv_iconst (v := 0) hx hb dX4_isBetween_14 (by decide) ?_
      obtain rfl := Option.some.inj h
      subst hQ
      exact W.zret (ty := .boolean) (v := (0 : Int32)) hx hb hr rfl (fun t ht hW => ⟨⟨(0 : Int32), (), rfl, rfl, kEnd ht hP⟩, hS.F ht⟩) hS.2.2 dX4_isBetween_15
    · have h := kF h c2
      refine lv_iload_n hx hb dX4_isBetween_5 rfl (lv_at hl 0 rfl) ?_
      refine lv_iload_n hx hb dX4_isBetween_6 rfl (lv_at hl 2 rfl) ?_
      refine lv_icmp_gt (tgt := 14) hx hb dX4_isBetween_7 (by decide) (fun c7 => ?_) (fun c7 => ?_)
      · have h := kT h c7
        refine lv_iconst (v := 0) hx hb dX4_isBetween_14 (by decide) ?_
        obtain rfl := Option.some.inj h
        subst hQ
        exact W.zret (ty := .boolean) (v := (0 : Int32)) hx hb hr rfl (fun t ht hW => ⟨⟨(0 : Int32), (), rfl, rfl, kEnd ht hP⟩, hS.F ht⟩) hS.2.2 dX4_isBetween_15
      · have h := kF h c7
        refine lv_iconst (v := 1) hx hb dX4_isBetween_10 (by decide) ?_
        refine lv_goto (tgt := 15) hx hb dX4_isBetween_11 (by decide) ?_
        obtain rfl := Option.some.inj h
        subst hQ
        exact W.zret (ty := .boolean) (v := (1 : Int32)) hx hb hr rfl (fun t ht hW => ⟨⟨(1 : Int32), (), rfl, rfl, kEnd ht hP⟩, hS.F ht⟩) hS.2.2 dX4_isBetween_15
  exact E0 s.heap [] ls hP hD hS hl
def fX4_quotient (p0 : Int64) (p2 : Int64) : Option (Int64) := if p2 ≤ (0 : Int64) then (some (0 : Int64)) else (if ¬ p2 = 0 then (some (p0 / p2)) else none)
set_option maxHeartbeats 4000000 in
set_option maxRecDepth 100000 in
theorem cX4_quotient_ok (l : Launch) (D : va_G) (ty : kTy)  (sz : Nat) (p0 : Int64) (p2 : Int64)  (res : Int64) (h : fX4_quotient p0 p2 = some res) : kML l yX4_quotient wsX4_quotient { frames := 0, cells := 0, slots := 0, locals := 0 } [.long p0, .long p2] D ty (([] : va_W)) sz res (([] : va_W)) := by
  refine Met.ofW (cc := cX4_quotient) (maxL := 4) (ret := (some .long)) (by decide) rfl ?_
  intro p e s m args below meth c s₁ B hml hv
  obtain ⟨rfl, hsz, hP, hK, hD0⟩ := hv
  have hx := B.exec
  have hb := B.bytes
  have hr := B.returns
  have hts := atoms_spec (ws := wsX4_quotient) B.pre
  have hown : s.vm.findClass RX4 = some m.cls := findClass_of_methodNamed B.named
  have hlocks := B.notSynchronized
  subst hsz
  have hD := hD0.self (sz := s.heap.size)
  generalize hAe : va_A (([] : va_W)) s.heap.size = A at hD ⊢
  have hA : ∀ q : Nat, s.heap.size ≤ q → A q := fun q h => by rw [← hAe]; exact Or.inr h
  have hS : va_S A s.heap s.heap [] := va_S.rf
  refine kGenW (fun Q hQ => ?_)
  have hl := lv_entry ([.long p0, .long p2]) (n := 4) (Nat.le_of_ble_eq_true rfl)
  rw [lg_entry_eq]
  generalize (lg_sl ([.long p0, .long p2]) ++ List.replicate (4 - (lg_sl ([.long p0, .long p2])).length) Slot.unset).toArray = ls at hl ⊢
  have hl : lv_has ls 4 [(0, .long p0), (2, .long p2)] := hl
  unfold fX4_quotient at h
  have E0 : ∀ (H : Heap) (locs : List Loc) (ls : Array Slot), va_P D vwCl (([] : va_W)) H → va_D A (([] : va_W)) → va_S A s.heap H locs → lv_has ls 4 [(0, .long p0), (2, .long p2)] → W p l e (headSpec wsX4_quotient { frames := 0, cells := 0, slots := 0, locals := 0 }).room s m ([.long p0, .long p2] : List Value).toArray below meth c H locs 0 0 Q (F0 m 0 ls []) := by
    intro H locs ls hP hD hS hl
    refine lv_lload_n hx hb dX4_quotient_0 rfl (lv_at hl 1 rfl) ?_
    refine lv_lconst (v := 0) hx hb dX4_quotient_1 (by decide) ?_
    refine W.lcmp hx hb dX4_quotient_2 ?_
    refine lv_if_le (tgt := 12) hx hb dX4_quotient_3 (by decide) (fun c3 => ?_) (fun c3 => ?_)
    · have h := kT h ((lg_cmp_le _ _).mp c3)
      refine lv_lconst (v := 0) hx hb dX4_quotient_12 (by decide) ?_
      obtain rfl := Option.some.inj h
      subst hQ
      exact W.lret (v := (0 : Int64)) hx hb hr (fun t ht hW => ⟨⟨(0 : Int64), (), rfl, rfl, kEnd ht hP⟩, hS.F ht⟩) hS.2.2 dX4_quotient_13
    · have h := kF h (fun z => c3 ((lg_cmp_le _ _).mpr z))
      refine lv_lload_n hx hb dX4_quotient_6 rfl (lv_at hl 0 rfl) ?_
      refine lv_lload_n hx hb dX4_quotient_7 rfl (lv_at hl 1 rfl) ?_
      obtain ⟨b8, h⟩ := kIf h
      refine lv_ldiv hx hb dX4_quotient_8 b8 ?_
      refine lv_goto (tgt := 13) hx hb dX4_quotient_9 (by decide) ?_
      obtain rfl := Option.some.inj h
      subst hQ
      exact W.lret (v := (p0 / p2)) hx hb hr (fun t ht hW => ⟨⟨(p0 / p2), (), rfl, rfl, kEnd ht hP⟩, hS.F ht⟩) hS.2.2 dX4_quotient_13
  exact E0 s.heap [] ls hP hD hS hl
def fX4_isError (p0 : Int32) : Option (Int32) := if p0 = (-1000000001 : Int32) then (some (1 : Int32)) else (if p0 = (-1000000002 : Int32) then (some (1 : Int32)) else (if p0 = (-1000000003 : Int32) then (some (1 : Int32)) else (if ¬ p0 = (-1000000004 : Int32) then (some (0 : Int32)) else (some (1 : Int32)))))
set_option maxHeartbeats 4000000 in
set_option maxRecDepth 100000 in
theorem cX4_isError_ok (l : Launch) (D : va_G) (ty : kTy)  (sz : Nat) (p0 : Int32)  (res : Int32) (h : fX4_isError p0 = some res) : kMI l yX4_isError wsX4_isError { frames := 0, cells := 0, slots := 0, locals := 0 } [.int p0] D ty (([] : va_W)) sz res (([] : va_W)) := by
  refine Met.ofW (cc := cX4_isError) (maxL := 1) (ret := (some .boolean)) (by decide) rfl ?_
  intro p e s m args below meth c s₁ B hml hv
  obtain ⟨rfl, hsz, hP, hK, hD0⟩ := hv
  have hx := B.exec
  have hb := B.bytes
  have hr := B.returns
  have hts := atoms_spec (ws := wsX4_isError) B.pre
  have hown : s.vm.findClass RX4 = some m.cls := findClass_of_methodNamed B.named
  have hlocks := B.notSynchronized
  subst hsz
  have hD := hD0.self (sz := s.heap.size)
  generalize hAe : va_A (([] : va_W)) s.heap.size = A at hD ⊢
  have hA : ∀ q : Nat, s.heap.size ≤ q → A q := fun q h => by rw [← hAe]; exact Or.inr h
  have hS : va_S A s.heap s.heap [] := va_S.rf
  refine kGenW (fun Q hQ => ?_)
  have wf0 := hts (.constant RX4 139 (-1000000001)) (by decide +kernel)
  have wf1 := hts (.constant RX4 185 (-1000000002)) (by decide +kernel)
  have wf2 := hts (.constant RX4 212 (-1000000003)) (by decide +kernel)
  have wf3 := hts (.constant RX4 213 (-1000000004)) (by decide +kernel)
  have hl := lv_entry ([.int p0]) (n := 1) (Nat.le_of_ble_eq_true rfl)
  rw [lg_entry_eq]
  generalize (lg_sl ([.int p0]) ++ List.replicate (1 - (lg_sl ([.int p0])).length) Slot.unset).toArray = ls at hl ⊢
  have hl : lv_has ls 1 [(0, .int p0)] := hl
  unfold fX4_isError at h
  have E0 : ∀ (H : Heap) (locs : List Loc) (ls : Array Slot), va_P D vwCl (([] : va_W)) H → va_D A (([] : va_W)) → va_S A s.heap H locs → lv_has ls 1 [(0, .int p0)] → W p l e (headSpec wsX4_isError { frames := 0, cells := 0, slots := 0, locals := 0 }).room s m ([.int p0] : List Value).toArray below meth c H locs 0 0 Q (F0 m 0 ls []) := by
    intro H locs ls hP hD hS hl
    refine lv_iload_n hx hb dX4_isError_0 rfl (lv_at hl 0 rfl) ?_
    refine lv_ldc hx hb hown wf0 dX4_isError_1 ?_
    refine lv_icmp_eq (tgt := 24) hx hb dX4_isError_3 (by decide) (fun c3 => ?_) (fun c3 => ?_)
    · have h := kT h c3
      refine lv_iconst (v := 1) hx hb dX4_isError_24 (by decide) ?_
      refine lv_goto (tgt := 29) hx hb dX4_isError_25 (by decide) ?_
      obtain rfl := Option.some.inj h
      subst hQ
      exact W.zret (ty := .boolean) (v := (1 : Int32)) hx hb hr rfl (fun t ht hW => ⟨⟨(1 : Int32), (), rfl, rfl, kEnd ht hP⟩, hS.F ht⟩) hS.2.2 dX4_isError_29
    · have h := kF h c3
      refine lv_iload_n hx hb dX4_isError_6 rfl (lv_at hl 0 rfl) ?_
      refine lv_ldc hx hb hown wf1 dX4_isError_7 ?_
      refine lv_icmp_eq (tgt := 24) hx hb dX4_isError_9 (by decide) (fun c9 => ?_) (fun c9 => ?_)
      · have h := kT h c9
        refine lv_iconst (v := 1) hx hb dX4_isError_24 (by decide) ?_
        refine lv_goto (tgt := 29) hx hb dX4_isError_25 (by decide) ?_
        obtain rfl := Option.some.inj h
        subst hQ
        exact W.zret (ty := .boolean) (v := (1 : Int32)) hx hb hr rfl (fun t ht hW => ⟨⟨(1 : Int32), (), rfl, rfl, kEnd ht hP⟩, hS.F ht⟩) hS.2.2 dX4_isError_29
      · have h := kF h c9
        refine lv_iload_n hx hb dX4_isError_12 rfl (lv_at hl 0 rfl) ?_
        refine lv_ldc hx hb hown wf2 dX4_isError_13 ?_
        refine lv_icmp_eq (tgt := 24) hx hb dX4_isError_15 (by decide) (fun c15 => ?_) (fun c15 => ?_)
        · have h := kT h c15
          refine lv_iconst (v := 1) hx hb dX4_isError_24 (by decide) ?_
          refine lv_goto (tgt := 29) hx hb dX4_isError_25 (by decide) ?_
          obtain rfl := Option.some.inj h
          subst hQ
          exact W.zret (ty := .boolean) (v := (1 : Int32)) hx hb hr rfl (fun t ht hW => ⟨⟨(1 : Int32), (), rfl, rfl, kEnd ht hP⟩, hS.F ht⟩) hS.2.2 dX4_isError_29
        · have h := kF h c15
          refine lv_iload_n hx hb dX4_isError_18 rfl (lv_at hl 0 rfl) ?_
          refine lv_ldc hx hb hown wf3 dX4_isError_19 ?_
          refine lv_icmp_ne (tgt := 28) hx hb dX4_isError_21 (by decide) (fun c21 => ?_) (fun c21 => ?_)
          · have h := kT h c21
            refine lv_iconst (v := 0) hx hb dX4_isError_28 (by decide) ?_
            obtain rfl := Option.some.inj h
            subst hQ
            exact W.zret (ty := .boolean) (v := (0 : Int32)) hx hb hr rfl (fun t ht hW => ⟨⟨(0 : Int32), (), rfl, rfl, kEnd ht hP⟩, hS.F ht⟩) hS.2.2 dX4_isError_29
          · have h := kF h (fun z => z c21)
            refine lv_iconst (v := 1) hx hb dX4_isError_24 (by decide) ?_
            refine lv_goto (tgt := 29) hx hb dX4_isError_25 (by decide) ?_
            obtain rfl := Option.some.inj h
            subst hQ
            exact W.zret (ty := .boolean) (v := (1 : Int32)) hx hb hr rfl (fun t ht hW => ⟨⟨(1 : Int32), (), rfl, rfl, kEnd ht hP⟩, hS.F ht⟩) hS.2.2 dX4_isError_29
  exact E0 s.heap [] ls hP hD hS hl
def fX1_clear (vF : KF) : Option (KF) := some ((0 : Int32), vF.2)
set_option maxHeartbeats 4000000 in
set_option maxRecDepth 100000 in
theorem cX1_clear_ok (l : Launch) (D : va_G) (ty : kTy) (adF : Nat → Nat) (sz : Nat) (vF : KF)  (res : KF) (h : fX1_clear vF = some res) : kMV l yX1_clear wsX1_clear { frames := 0, cells := 0, slots := 0, locals := 0 } [.ref (adF 0)] D ty (wF ty adF vF) sz (wF ty adF res) := by
  refine Met.ofW (cc := cX1_clear) (maxL := 1) (ret := none) (by decide) rfl ?_
  intro p e s m args below meth c s₁ B hml hv
  obtain ⟨rfl, hsz, hP, hK, hD0⟩ := hv
  have hx := B.exec
  have hb := B.bytes
  have hr := B.returns
  have hts := atoms_spec (ws := wsX1_clear) B.pre
  have hown : s.vm.findClass RX1 = some m.cls := findClass_of_methodNamed B.named
  have hlocks := B.notSynchronized
  subst hsz
  have hD := hD0.self (sz := s.heap.size)
  generalize hAe : va_A (wF ty adF vF) s.heap.size = A at hD ⊢
  have hA : ∀ q : Nat, s.heap.size ≤ q → A q := fun q h => by rw [← hAe]; exact Or.inr h
  have hS : va_S A s.heap s.heap [] := va_S.rf
  refine kGenW (fun Q hQ => ?_)
  have wf0 := hts (.fieldLink RX1 9 "IceCoreDater$Falling" "size" "I") (by decide +kernel)
  have hinX1 : ∀ w ∈ wsX10, w ∈ wsX1_clear := by decide +kernel
  have hl := lv_entry ([.ref (adF 0)]) (n := 1) (Nat.le_of_ble_eq_true rfl)
  rw [lg_entry_eq]
  generalize (lg_sl ([.ref (adF 0)]) ++ List.replicate (1 - (lg_sl ([.ref (adF 0)])).length) Slot.unset).toArray = ls at hl ⊢
  have hl : lv_has ls 1 [(0, .ref (adF 0))] := hl
  unfold fX1_clear at h
  have E0 : ∀ (H : Heap) (locs : List Loc) (ls : Array Slot), va_P D vwCl (wF ty adF vF) H → va_D A (wF ty adF vF) → va_S A s.heap H locs → lv_has ls 1 [(0, .ref (adF 0))] → W p l e (headSpec wsX1_clear { frames := 0, cells := 0, slots := 0, locals := 0 }).room s m ([.ref (adF 0)] : List Value).toArray below meth c H locs 0 0 Q (F0 m 0 ls []) := by
    intro H locs ls hP hD hS hl
    refine lv_aload_n hx hb dX1_clear_0 rfl (lv_at hl 0 rfl) ?_
    refine lv_iconst (v := 0) hx hb dX1_clear_1 (by decide) ?_
    refine va_put (D := D) (ci := 1) (v := .int (0 : Int32)) (ty := .int) (C := RX1) (T := TX1) (N := 3) hx hb hts hinX1 tyX1 tyX1_ok nmX1 hown hK.1 hP hD hS 0 rfl rfl 0 (by decide) wf0 (fun _ h9 => h9) rfl (by decide +kernel) rfl rfl (Nat.le_of_ble_eq_true rfl) dX1_clear_2 (fun H locs hP hD hS => ?_)
    have hP : va_P D vwCl (wF ty adF ((0 : Int32), vF.2)) H := hP
    have hD : va_D A (wF ty adF ((0 : Int32), vF.2)) := hD
    obtain rfl := Option.some.inj h
    subst hQ
    exact W.vret hx hb hr (fun t ht hW => ⟨⟨(), rfl, trivial, kEnd ht hP⟩, hS.F ht⟩) hS.2.2 dX1_clear_5
  exact E0 s.heap [] ls hP hD hS hl
def fX1_add (vF : KF) (p1 : Int64) (p3 : Int64) : Option (KF) := if (16 : Int32) ≤ vF.1 then some vF else (if kIn vF.1 16 = true then (if kIn vF.1 16 = true then (some ((vF.1 + (1 : Int32)), (vp_updL vF.2.1 vF.1.toNatClampNeg p1), (vp_updL vF.2.2 vF.1.toNatClampNeg p3))) else none) else none)
set_option maxHeartbeats 4000000 in
set_option maxRecDepth 100000 in
theorem cX1_add_ok (l : Launch) (D : va_G) (ty : kTy) (adF : Nat → Nat) (sz : Nat) (vF : KF) (p1 : Int64) (p3 : Int64)  (res : KF) (h : fX1_add vF p1 p3 = some res) : kMV l yX1_add wsX1_add { frames := 0, cells := 0, slots := 0, locals := 0 } [.ref (adF 0), .long p1, .long p3] D ty (wF ty adF vF) sz (wF ty adF res) := by
  refine Met.ofW (cc := cX1_add) (maxL := 5) (ret := none) (by decide) rfl ?_
  intro p e s m args below meth c s₁ B hml hv
  obtain ⟨rfl, hsz, hP, hK, hD0⟩ := hv
  have hx := B.exec
  have hb := B.bytes
  have hr := B.returns
  have hts := atoms_spec (ws := wsX1_add) B.pre
  have hown : s.vm.findClass RX1 = some m.cls := findClass_of_methodNamed B.named
  have hlocks := B.notSynchronized
  subst hsz
  have hD := hD0.self (sz := s.heap.size)
  generalize hAe : va_A (wF ty adF vF) s.heap.size = A at hD ⊢
  have hA : ∀ q : Nat, s.heap.size ≤ q → A q := fun q h => by rw [← hAe]; exact Or.inr h
  have hS : va_S A s.heap s.heap [] := va_S.rf
  refine kGenW (fun Q hQ => ?_)
  have wf0 := hts (.fieldLink RX1 9 "IceCoreDater$Falling" "size" "I") (by decide +kernel)
  have hinX1 : ∀ w ∈ wsX10, w ∈ wsX1_add := by decide +kernel
  have wf2 := hts (.fieldLink RX1 15 "IceCoreDater$Falling" "dividends" "[J") (by decide +kernel)
  have wf3 := hts (.fieldLink RX1 19 "IceCoreDater$Falling" "factors" "[J") (by decide +kernel)
  have hl := lv_entry ([.ref (adF 0), .long p1, .long p3]) (n := 5) (Nat.le_of_ble_eq_true rfl)
  rw [lg_entry_eq]
  generalize (lg_sl ([.ref (adF 0), .long p1, .long p3]) ++ List.replicate (5 - (lg_sl ([.ref (adF 0), .long p1, .long p3])).length) Slot.unset).toArray = ls at hl ⊢
  have hl : lv_has ls 5 [(0, .ref (adF 0)), (1, .long p1), (3, .long p3)] := hl
  unfold fX1_add at h
  have E0 : ∀ (H : Heap) (locs : List Loc) (ls : Array Slot), va_P D vwCl (wF ty adF vF) H → va_D A (wF ty adF vF) → va_S A s.heap H locs → lv_has ls 5 [(0, .ref (adF 0)), (1, .long p1), (3, .long p3)] → W p l e (headSpec wsX1_add { frames := 0, cells := 0, slots := 0, locals := 0 }).room s m ([.ref (adF 0), .long p1, .long p3] : List Value).toArray below meth c H locs 0 0 Q (F0 m 0 ls []) := by
    intro H locs ls hP hD hS hl
    refine lv_aload_n hx hb dX1_add_0 rfl (lv_at hl 0 rfl) ?_
    refine va_get (D := D) (ci := 1) (v := .int vF.1) (C := RX1) (T := TX1) (N := 3) hx hb hts hinX1 hown hK.1 hP 0 rfl rfl 0 (by decide) wf0 (fun _ h9 => h9) rfl dX1_add_1 ?_
    refine lv_bipush (v := 16) hx hb dX1_add_4 (by decide) ?_
    refine lv_icmp_ge (tgt := 39) hx hb dX1_add_6 (by decide) (fun c6 => ?_) (fun c6 => ?_)
    · have h := kT h c6
      obtain rfl := Option.some.inj h
      subst hQ
      exact W.vret hx hb hr (fun t ht hW => ⟨⟨(), rfl, trivial, kEnd ht hP⟩, hS.F ht⟩) hS.2.2 dX1_add_39
    · have h := kF h c6
      refine lv_aload_n hx hb dX1_add_9 rfl (lv_at hl 0 rfl) ?_
      refine va_get (D := D) (ci := 1) (v := .ref (adF 1)) (C := RX1) (T := TX1) (N := 3) hx hb hts hinX1 hown hK.1 hP 0 rfl rfl 1 (by decide) wf2 (fun _ h9 => h9) rfl dX1_add_10 ?_
      refine lv_aload_n hx hb dX1_add_13 rfl (lv_at hl 0 rfl) ?_
      refine va_get (D := D) (ci := 1) (v := .int vF.1) (C := RX1) (T := TX1) (N := 3) hx hb hts hinX1 hown hK.1 hP 0 rfl rfl 0 (by decide) wf0 (fun _ h9 => h9) rfl dX1_add_14 ?_
      refine lv_lload_n hx hb dX1_add_17 rfl (lv_at hl 1 rfl) ?_
      obtain ⟨b18, h⟩ := kIf h
      refine va_last (f := vF.2.1) (n := 16) hx hb hK.1 hP hD hS 1 1 rfl rfl (kIn_ok b18) dX1_add_18 (fun H locs hP hD hS => ?_)
      have hP : va_P D vwCl (wF ty adF (vF.1, (vp_updL vF.2.1 vF.1.toNatClampNeg p1), vF.2.2)) H := hP
      have hD : va_D A (wF ty adF (vF.1, (vp_updL vF.2.1 vF.1.toNatClampNeg p1), vF.2.2)) := hD
      refine lv_aload_n hx hb dX1_add_19 rfl (lv_at hl 0 rfl) ?_
      refine va_get (D := D) (ci := 1) (v := .ref (adF 2)) (C := RX1) (T := TX1) (N := 3) hx hb hts hinX1 hown hK.1 hP 0 rfl rfl 2 (by decide) wf3 (fun _ h9 => h9) rfl dX1_add_20 ?_
      refine lv_aload_n hx hb dX1_add_23 rfl (lv_at hl 0 rfl) ?_
      refine va_get (D := D) (ci := 1) (v := .int vF.1) (C := RX1) (T := TX1) (N := 3) hx hb hts hinX1 hown hK.1 hP 0 rfl rfl 0 (by decide) wf0 (fun _ h9 => h9) rfl dX1_add_24 ?_
      refine lv_lload_n hx hb dX1_add_27 rfl (lv_at hl 2 rfl) ?_
      obtain ⟨b28, h⟩ := kIf h
      refine va_last (f := vF.2.2) (n := 16) hx hb hK.1 hP hD hS 2 1 rfl rfl (kIn_ok b28) dX1_add_28 (fun H locs hP hD hS => ?_)
      have hP : va_P D vwCl (wF ty adF (vF.1, (vp_updL vF.2.1 vF.1.toNatClampNeg p1), (vp_updL vF.2.2 vF.1.toNatClampNeg p3))) H := hP
      have hD : va_D A (wF ty adF (vF.1, (vp_updL vF.2.1 vF.1.toNatClampNeg p1), (vp_updL vF.2.2 vF.1.toNatClampNeg p3))) := hD
      refine lv_aload_n hx hb dX1_add_29 rfl (lv_at hl 0 rfl) ?_
      refine lv_dup hx hb dX1_add_30 rfl ?_
      refine va_get (D := D) (ci := 1) (v := .int vF.1) (C := RX1) (T := TX1) (N := 3) hx hb hts hinX1 hown hK.1 hP 0 rfl rfl 0 (by decide) wf0 (fun _ h9 => h9) rfl dX1_add_31 ?_
      refine lv_iconst (v := 1) hx hb dX1_add_34 (by decide) ?_
      refine lv_iadd hx hb dX1_add_35 ?_
      refine va_put (D := D) (ci := 1) (v := .int (vF.1 + (1 : Int32))) (ty := .int) (C := RX1) (T := TX1) (N := 3) hx hb hts hinX1 tyX1 tyX1_ok nmX1 hown hK.1 hP hD hS 0 rfl rfl 0 (by decide) wf0 (fun _ h9 => h9) rfl (by decide +kernel) rfl rfl (Nat.le_of_ble_eq_true rfl) dX1_add_36 (fun H locs hP hD hS => ?_)
      have hP : va_P D vwCl (wF ty adF ((vF.1 + (1 : Int32)), (vp_updL vF.2.1 vF.1.toNatClampNeg p1), (vp_updL vF.2.2 vF.1.toNatClampNeg p3))) H := hP
      have hD : va_D A (wF ty adF ((vF.1 + (1 : Int32)), (vp_updL vF.2.1 vF.1.toNatClampNeg p1), (vp_updL vF.2.2 vF.1.toNatClampNeg p3))) := hD
      obtain rfl := Option.some.inj h
      subst hQ
      exact W.vret hx hb hr (fun t ht hW => ⟨⟨(), rfl, trivial, kEnd ht hP⟩, hS.F ht⟩) hS.2.2 dX1_add_39
  exact E0 s.heap [] ls hP hD hS hl
def fX1_sum_c5 (vF : KF) (x1 : Int32) (x2 : Int64) (x4 : Int32) (nx5 : Int64 × Int32 → Option (Int64)) : Option (Int64) := if vF.1 ≤ x4 then some x2 else (if kIn x4 16 = true then (if ((vF.2.2 x4.toNatClampNeg) * x1.toInt64) ≤ (0 : Int64) then (nx5 (x2, (x4 + 1))) else (if kIn x4 16 = true then (if ¬ ((vF.2.2 x4.toNatClampNeg) * x1.toInt64) = 0 then ((some (x2 + ((vF.2.1 x4.toNatClampNeg) / ((vF.2.2 x4.toNatClampNeg) * x1.toInt64)))).bind fun y45 => nx5 (y45, (x4 + 1))) else none) else none)) else none)
def fX1_sum (vF : KF) (p1 : Int32) : Option (Int64) := kLoopC kFu (fun q nx5 => fX1_sum_c5 vF p1 q.1 q.2 nx5) ((0 : Int64), (0 : Int32))
set_option maxHeartbeats 4000000 in
set_option maxRecDepth 100000 in
theorem cX1_sum_ok (l : Launch) (D : va_G) (ty : kTy) (adF : Nat → Nat) (sz : Nat) (vF : KF) (p1 : Int32)  (res : Int64) (h : fX1_sum vF p1 = some res) : kML l yX1_sum wsX1_sum { frames := 0, cells := 0, slots := 0, locals := 0 } [.ref (adF 0), .int p1] D ty (wF ty adF vF) sz res (wF ty adF vF) := by
  refine Met.ofW (cc := cX1_sum) (maxL := 7) (ret := (some .long)) (by decide) rfl ?_
  intro p e s m args below meth c s₁ B hml hv
  obtain ⟨rfl, hsz, hP, hK, hD0⟩ := hv
  have hx := B.exec
  have hb := B.bytes
  have hr := B.returns
  have hts := atoms_spec (ws := wsX1_sum) B.pre
  have hown : s.vm.findClass RX1 = some m.cls := findClass_of_methodNamed B.named
  have hlocks := B.notSynchronized
  subst hsz
  have hD := hD0.self (sz := s.heap.size)
  generalize hAe : va_A (wF ty adF vF) s.heap.size = A at hD ⊢
  have hA : ∀ q : Nat, s.heap.size ≤ q → A q := fun q h => by rw [← hAe]; exact Or.inr h
  have hS : va_S A s.heap s.heap [] := va_S.rf
  refine kGenW (fun Q hQ => ?_)
  have wf0 := hts (.fieldLink RX1 9 "IceCoreDater$Falling" "size" "I") (by decide +kernel)
  have hinX1 : ∀ w ∈ wsX10, w ∈ wsX1_sum := by decide +kernel
  have wf2 := hts (.fieldLink RX1 19 "IceCoreDater$Falling" "factors" "[J") (by decide +kernel)
  have wf3 := hts (.fieldLink RX1 15 "IceCoreDater$Falling" "dividends" "[J") (by decide +kernel)
  have B5 : ∀ (x1 : Int32) (nx5 : Int64 × Int32 → Option (Int64)) (hn5 : ∀ (x2 : Int64) (x4 : Int32), nx5 (x2, x4) = some res → ∀ (H : Heap) (locs : List Loc) (ls : Array Slot), va_P D vwCl (wF ty adF vF) H → va_D A (wF ty adF vF) → va_S A s.heap H locs → lv_has ls 7 [(0, .ref (adF 0)), (1, .int x1), (2, .long x2), (4, .int x4)] → W p l e (headSpec wsX1_sum { frames := 0, cells := 0, slots := 0, locals := 0 }).room s m ([.ref (adF 0), .int p1] : List Value).toArray below meth c H locs 0 0 Q (F0 m 5 ls [])) (x2 : Int64) (x4 : Int32), fX1_sum_c5 vF x1 x2 x4 nx5 = some res → ∀ (H : Heap) (locs : List Loc) (ls : Array Slot), va_P D vwCl (wF ty adF vF) H → va_D A (wF ty adF vF) → va_S A s.heap H locs → lv_has ls 7 [(0, .ref (adF 0)), (1, .int x1), (2, .long x2), (4, .int x4)] → W p l e (headSpec wsX1_sum { frames := 0, cells := 0, slots := 0, locals := 0 }).room s m ([.ref (adF 0), .int p1] : List Value).toArray below meth c H locs 0 0 Q (F0 m 5 ls []) := by
    intro x1 nx5 hn5 x2 x4 h H locs ls hP hD hS hl
    unfold fX1_sum_c5 at h
    refine lv_iload hx hb dX1_sum_5 (lv_at hl 3 rfl) ?_
    refine lv_aload_n hx hb dX1_sum_7 rfl (lv_at hl 0 rfl) ?_
    refine va_get (D := D) (ci := 1) (v := .int vF.1) (C := RX1) (T := TX1) (N := 3) hx hb hts hinX1 hown hK.1 hP 0 rfl rfl 0 (by decide) wf0 (fun _ h9 => h9) rfl dX1_sum_8 ?_
    refine lv_icmp_ge (tgt := 52) hx hb dX1_sum_11 (by decide) (fun c11 => ?_) (fun c11 => ?_)
    · have h := kT h c11
      refine lv_lload_n hx hb dX1_sum_52 rfl (lv_at hl 2 rfl) ?_
      obtain rfl := Option.some.inj h
      subst hQ
      exact W.lret (v := x2) hx hb hr (fun t ht hW => ⟨⟨x2, (), rfl, rfl, kEnd ht hP⟩, hS.F ht⟩) hS.2.2 dX1_sum_53
    · have h := kF h c11
      refine lv_aload_n hx hb dX1_sum_14 rfl (lv_at hl 0 rfl) ?_
      refine va_get (D := D) (ci := 1) (v := .ref (adF 2)) (C := RX1) (T := TX1) (N := 3) hx hb hts hinX1 hown hK.1 hP 0 rfl rfl 2 (by decide) wf2 (fun _ h9 => h9) rfl dX1_sum_15 ?_
      refine lv_iload hx hb dX1_sum_18 (lv_at hl 3 rfl) ?_
      obtain ⟨b20, h⟩ := kIf h
      refine va_lald (f := vF.2.2) (n := 16) hx hb hK.1 hP 2 1 rfl rfl (kIn_ok b20) dX1_sum_20 ?_
      refine lv_iload_n hx hb dX1_sum_21 rfl (lv_at hl 1 rfl) ?_
      refine lv_i2l hx hb dX1_sum_22 rfl ?_
      refine lv_lmul hx hb dX1_sum_23 ?_
      refine lv_lstore (lv' := [(5, .long ((vF.2.2 x4.toNatClampNeg) * x1.toInt64)), (0, .ref (adF 0)), (1, .int x1), (2, .long x2), (4, .int x4)]) hx hb dX1_sum_24 hl (by decide) rfl (fun ls hl => ?_)
      refine lv_lload hx hb dX1_sum_26 (lv_at hl 0 rfl) ?_
      refine lv_lconst (v := 0) hx hb dX1_sum_28 (by decide) ?_
      refine W.lcmp hx hb dX1_sum_29 ?_
      refine lv_if_le (tgt := 46) hx hb dX1_sum_30 (by decide) (fun c30 => ?_) (fun c30 => ?_)
      · have h := kT h ((lg_cmp_le _ _).mp c30)
        refine lv_iinc (v := (x4 + 1)) (lv' := [(4, .int (x4 + 1)), (5, .long ((vF.2.2 x4.toNatClampNeg) * x1.toInt64)), (0, .ref (adF 0)), (1, .int x1), (2, .long x2)]) hx hb dX1_sum_46 hl (k := 4) rfl rfl (by decide) rfl (fun ls hl => ?_)
        refine lv_goto (tgt := 5) hx hb dX1_sum_49 (by decide) ?_
        exact hn5 x2 (x4 + 1) h H locs ls hP hD hS (lv_sub hl [2, 3, 4, 0] rfl)
      · have h := kF h (fun z => c30 ((lg_cmp_le _ _).mpr z))
        refine lv_lload_n hx hb dX1_sum_33 rfl (lv_at hl 3 rfl) ?_
        refine lv_aload_n hx hb dX1_sum_34 rfl (lv_at hl 1 rfl) ?_
        refine va_get (D := D) (ci := 1) (v := .ref (adF 1)) (C := RX1) (T := TX1) (N := 3) hx hb hts hinX1 hown hK.1 hP 0 rfl rfl 1 (by decide) wf3 (fun _ h9 => h9) rfl dX1_sum_35 ?_
        refine lv_iload hx hb dX1_sum_38 (lv_at hl 4 rfl) ?_
        obtain ⟨b40, h⟩ := kIf h
        refine va_lald (f := vF.2.1) (n := 16) hx hb hK.1 hP 1 1 rfl rfl (kIn_ok b40) dX1_sum_40 ?_
        refine lv_lload hx hb dX1_sum_41 (lv_at hl 0 rfl) ?_
        obtain ⟨b43, h⟩ := kIf h
        refine lv_ldiv hx hb dX1_sum_43 b43 ?_
        refine lv_ladd hx hb dX1_sum_44 ?_
        refine lv_topl (fun y45 ey45 => ?_)
        have h := kBs h ey45
        refine lv_lstore_n (lv' := [(2, .long y45), (5, .long ((vF.2.2 x4.toNatClampNeg) * x1.toInt64)), (0, .ref (adF 0)), (1, .int x1), (4, .int x4)]) hx hb dX1_sum_45 rfl hl (by decide) rfl (fun ls hl => ?_)
        refine lv_iinc (v := (x4 + 1)) (lv' := [(4, .int (x4 + 1)), (2, .long y45), (5, .long ((vF.2.2 x4.toNatClampNeg) * x1.toInt64)), (0, .ref (adF 0)), (1, .int x1)]) hx hb dX1_sum_46 hl (k := 4) rfl rfl (by decide) rfl (fun ls hl => ?_)
        refine lv_goto (tgt := 5) hx hb dX1_sum_49 (by decide) ?_
        exact hn5 y45 (x4 + 1) h H locs ls hP hD hS (lv_sub hl [3, 4, 1, 0] rfl)
  have L5 : ∀ (x1 : Int32) (n : Nat) (x2 : Int64) (x4 : Int32), kLoopC n (fun q nx5 => fX1_sum_c5 vF x1 q.1 q.2 nx5) (x2, x4) = some res → ∀ (H : Heap) (locs : List Loc) (ls : Array Slot), va_P D vwCl (wF ty adF vF) H → va_D A (wF ty adF vF) → va_S A s.heap H locs → lv_has ls 7 [(0, .ref (adF 0)), (1, .int x1), (2, .long x2), (4, .int x4)] → W p l e (headSpec wsX1_sum { frames := 0, cells := 0, slots := 0, locals := 0 }).room s m ([.ref (adF 0), .int p1] : List Value).toArray below meth c H locs 0 0 Q (F0 m 5 ls []) := by
    intro x1 n
    induction n with
    | zero => intro x2 x4 h; exact absurd h (by simp [kLoopC])
    | succ n ih => intro x2 x4 h; exact B5 x1 (kLoopC n (fun q nx5 => fX1_sum_c5 vF x1 q.1 q.2 nx5)) ih x2 x4 h
  have hl := lv_entry ([.ref (adF 0), .int p1]) (n := 7) (Nat.le_of_ble_eq_true rfl)
  rw [lg_entry_eq]
  generalize (lg_sl ([.ref (adF 0), .int p1]) ++ List.replicate (7 - (lg_sl ([.ref (adF 0), .int p1])).length) Slot.unset).toArray = ls at hl ⊢
  have hl : lv_has ls 7 [(0, .ref (adF 0)), (1, .int p1)] := hl
  unfold fX1_sum at h
  have E0 : ∀ (H : Heap) (locs : List Loc) (ls : Array Slot), va_P D vwCl (wF ty adF vF) H → va_D A (wF ty adF vF) → va_S A s.heap H locs → lv_has ls 7 [(0, .ref (adF 0)), (1, .int p1)] → W p l e (headSpec wsX1_sum { frames := 0, cells := 0, slots := 0, locals := 0 }).room s m ([.ref (adF 0), .int p1] : List Value).toArray below meth c H locs 0 0 Q (F0 m 0 ls []) := by
    intro H locs ls hP hD hS hl
    refine lv_lconst (v := 0) hx hb dX1_sum_0 (by decide) ?_
    refine lv_lstore_n (lv' := [(2, .long (0 : Int64)), (0, .ref (adF 0)), (1, .int p1)]) hx hb dX1_sum_1 rfl hl (by decide) rfl (fun ls hl => ?_)
    refine lv_iconst (v := 0) hx hb dX1_sum_2 (by decide) ?_
    refine lv_istore (lv' := [(4, .int (0 : Int32)), (2, .long (0 : Int64)), (0, .ref (adF 0)), (1, .int p1)]) hx hb dX1_sum_3 hl (by decide) rfl (fun ls hl => ?_)
    exact L5 p1  kFu (0 : Int64) (0 : Int32) h H locs ls hP hD hS (lv_sub hl [2, 3, 1, 0] rfl)
  exact E0 s.heap [] ls hP hD hS hl
def fX1_firstAtMost_c10 (vF : KF) (x2 : Int32) (x3 : Int64) (x5 : Int32) (x6 : Int32) (nx10 : Int32 × Int32 → Option (Int32)) : Option (Int32) := if x6 ≤ (0 : Int32) then (some (x5 + (1 : Int32))) else (if x2 < (x5 + x6) then (nx10 (x5, (x6 / (2 : Int32)))) else ((fX1_sum vF (x5 + x6)).bind fun r30 => if r30 ≤ x3 then (nx10 (x5, (x6 / (2 : Int32)))) else (nx10 ((x5 + x6), (x6 / (2 : Int32))))))
def fX1_firstAtMost (vF : KF) (p1 : Int32) (p2 : Int32) (p3 : Int64) : Option (Int32) := kLoopC kFu (fun q nx10 => fX1_firstAtMost_c10 vF p2 p3 q.1 q.2 nx10) ((p1 - (1 : Int32)), (4096 : Int32))
set_option maxHeartbeats 4000000 in
set_option maxRecDepth 100000 in
theorem cX1_firstAtMost_ok (l : Launch) (D : va_G) (ty : kTy) (adF : Nat → Nat) (sz : Nat) (vF : KF) (p1 : Int32) (p2 : Int32) (p3 : Int64)  (res : Int32) (h : fX1_firstAtMost vF p1 p2 p3 = some res) : kMI l yX1_firstAtMost wsX1_firstAtMost { frames := 1, cells := 0, slots := 0, locals := 26 } [.ref (adF 0), .int p1, .int p2, .long p3] D ty (wF ty adF vF) sz res (wF ty adF vF) := by
  refine Met.ofW (cc := cX1_firstAtMost) (maxL := 7) (ret := (some .int)) (by decide) rfl ?_
  intro p e s m args below meth c s₁ B hml hv
  obtain ⟨rfl, hsz, hP, hK, hD0⟩ := hv
  have hx := B.exec
  have hb := B.bytes
  have hr := B.returns
  have hts := atoms_spec (ws := wsX1_firstAtMost) B.pre
  have hown : s.vm.findClass RX1 = some m.cls := findClass_of_methodNamed B.named
  have hlocks := B.notSynchronized
  subst hsz
  have hD := hD0.self (sz := s.heap.size)
  generalize hAe : va_A (wF ty adF vF) s.heap.size = A at hD ⊢
  have hA : ∀ q : Nat, s.heap.size ≤ q → A q := fun q h => by rw [← hAe]; exact Or.inr h
  have hS : va_S A s.heap s.heap [] := va_S.rf
  refine kGenW (fun Q hQ => ?_)
  have B10 : ∀ (x2 : Int32) (x3 : Int64) (nx10 : Int32 × Int32 → Option (Int32)) (hn10 : ∀ (x5 : Int32) (x6 : Int32), nx10 (x5, x6) = some res → ∀ (H : Heap) (locs : List Loc) (ls : Array Slot), va_P D vwCl (wF ty adF vF) H → va_D A (wF ty adF vF) → va_S A s.heap H locs → lv_has ls 7 [(0, .ref (adF 0)), (2, .int x2), (3, .long x3), (5, .int x5), (6, .int x6)] → W p l e (headSpec wsX1_firstAtMost { frames := 1, cells := 0, slots := 0, locals := 26 }).room s m ([.ref (adF 0), .int p1, .int p2, .long p3] : List Value).toArray below meth c H locs 0 0 Q (F0 m 10 ls [])) (x5 : Int32) (x6 : Int32), fX1_firstAtMost_c10 vF x2 x3 x5 x6 nx10 = some res → ∀ (H : Heap) (locs : List Loc) (ls : Array Slot), va_P D vwCl (wF ty adF vF) H → va_D A (wF ty adF vF) → va_S A s.heap H locs → lv_has ls 7 [(0, .ref (adF 0)), (2, .int x2), (3, .long x3), (5, .int x5), (6, .int x6)] → W p l e (headSpec wsX1_firstAtMost { frames := 1, cells := 0, slots := 0, locals := 26 }).room s m ([.ref (adF 0), .int p1, .int p2, .long p3] : List Value).toArray below meth c H locs 0 0 Q (F0 m 10 ls []) := by
    intro x2 x3 nx10 hn10 x5 x6 h H locs ls hP hD hS hl
    unfold fX1_firstAtMost_c10 at h
    refine lv_iload hx hb dX1_firstAtMost_10 (lv_at hl 4 rfl) ?_
    refine lv_if_le (tgt := 54) hx hb dX1_firstAtMost_12 (by decide) (fun c12 => ?_) (fun c12 => ?_)
    · have h := kT h c12
      refine lv_iload hx hb dX1_firstAtMost_54 (lv_at hl 3 rfl) ?_
      refine lv_iconst (v := 1) hx hb dX1_firstAtMost_56 (by decide) ?_
      refine lv_iadd hx hb dX1_firstAtMost_57 ?_
      obtain rfl := Option.some.inj h
      subst hQ
      exact W.iret (v := (x5 + (1 : Int32))) hx hb hr (fun t ht hW => ⟨⟨(x5 + (1 : Int32)), (), rfl, rfl, kEnd ht hP⟩, hS.F ht⟩) hS.2.2 dX1_firstAtMost_58
    · have h := kF h c12
      refine lv_iload hx hb dX1_firstAtMost_15 (lv_at hl 3 rfl) ?_
      refine lv_iload hx hb dX1_firstAtMost_17 (lv_at hl 4 rfl) ?_
      refine lv_iadd hx hb dX1_firstAtMost_19 ?_
      refine lv_iload_n hx hb dX1_firstAtMost_20 rfl (lv_at hl 1 rfl) ?_
      refine lv_icmp_gt (tgt := 45) hx hb dX1_firstAtMost_21 (by decide) (fun c21 => ?_) (fun c21 => ?_)
      · have h := kT h c21
        refine lv_iload hx hb dX1_firstAtMost_45 (lv_at hl 4 rfl) ?_
        refine lv_iconst (v := 2) hx hb dX1_firstAtMost_47 (by decide) ?_
        refine lv_idiv hx hb dX1_firstAtMost_48 (by decide) ?_
        refine lv_istore (lv' := [(6, .int (x6 / (2 : Int32))), (0, .ref (adF 0)), (2, .int x2), (3, .long x3), (5, .int x5)]) hx hb dX1_firstAtMost_49 hl (by decide) rfl (fun ls hl => ?_)
        refine lv_goto (tgt := 10) hx hb dX1_firstAtMost_51 (by decide) ?_
        exact hn10 x5 (x6 / (2 : Int32)) h H locs ls hP hD hS (lv_sub hl [1, 2, 3, 4, 0] rfl)
      · have h := kF h c21
        refine lv_aload_n hx hb dX1_firstAtMost_24 rfl (lv_at hl 0 rfl) ?_
        refine lv_iload hx hb dX1_firstAtMost_25 (lv_at hl 3 rfl) ?_
        refine lv_iload hx hb dX1_firstAtMost_27 (lv_at hl 4 rfl) ?_
        refine lv_iadd hx hb dX1_firstAtMost_29 ?_
        obtain ⟨r30, e30, h⟩ := kBd h
        refine kCallVL (As := [.int (x5 + x6)]) (rest := []) (wc := wF ty adF vF) (w1 := wF ty adF vF) (wn := wF ty adF vF) ⟨hx, hb, hml, hown, hts⟩ (cX1_sum_ok l D ty adF H.size vF (x5 + x6)  r30 e30) (cwV 1 hts gX1_firstAtMost_X1_sum rfl rfl rfl (by decide +kernel) ⟨Nat.le_of_ble_eq_true rfl, Nat.le_of_ble_eq_true rfl⟩) hP hK hD hS hA [0, 1, 2] (by decide +kernel) rfl 1 0 rfl rfl rfl rfl hl.1 rfl (Nat.le_of_ble_eq_true rfl) dX1_firstAtMost_30 ⟨Nat.le_of_ble_eq_true rfl, Nat.le_of_ble_eq_true rfl⟩ rfl rfl (fun H locs hP hD hS => ?_)
        refine lv_lload_n hx hb dX1_firstAtMost_33 rfl (lv_at hl 2 rfl) ?_
        refine W.lcmp hx hb dX1_firstAtMost_34 ?_
        refine lv_if_le (tgt := 45) hx hb dX1_firstAtMost_35 (by decide) (fun c35 => ?_) (fun c35 => ?_)
        · have h := kT h ((lg_cmp_le _ _).mp c35)
          refine lv_iload hx hb dX1_firstAtMost_45 (lv_at hl 4 rfl) ?_
          refine lv_iconst (v := 2) hx hb dX1_firstAtMost_47 (by decide) ?_
          refine lv_idiv hx hb dX1_firstAtMost_48 (by decide) ?_
          refine lv_istore (lv' := [(6, .int (x6 / (2 : Int32))), (0, .ref (adF 0)), (2, .int x2), (3, .long x3), (5, .int x5)]) hx hb dX1_firstAtMost_49 hl (by decide) rfl (fun ls hl => ?_)
          refine lv_goto (tgt := 10) hx hb dX1_firstAtMost_51 (by decide) ?_
          exact hn10 x5 (x6 / (2 : Int32)) h H locs ls hP hD hS (lv_sub hl [1, 2, 3, 4, 0] rfl)
        · have h := kF h (fun z => c35 ((lg_cmp_le _ _).mpr z))
          refine lv_iload hx hb dX1_firstAtMost_38 (lv_at hl 3 rfl) ?_
          refine lv_iload hx hb dX1_firstAtMost_40 (lv_at hl 4 rfl) ?_
          refine lv_iadd hx hb dX1_firstAtMost_42 ?_
          refine lv_istore (lv' := [(5, .int (x5 + x6)), (0, .ref (adF 0)), (2, .int x2), (3, .long x3), (6, .int x6)]) hx hb dX1_firstAtMost_43 hl (by decide) rfl (fun ls hl => ?_)
          refine lv_iload hx hb dX1_firstAtMost_45 (lv_at hl 4 rfl) ?_
          refine lv_iconst (v := 2) hx hb dX1_firstAtMost_47 (by decide) ?_
          refine lv_idiv hx hb dX1_firstAtMost_48 (by decide) ?_
          refine lv_istore (lv' := [(6, .int (x6 / (2 : Int32))), (5, .int (x5 + x6)), (0, .ref (adF 0)), (2, .int x2), (3, .long x3)]) hx hb dX1_firstAtMost_49 hl (by decide) rfl (fun ls hl => ?_)
          refine lv_goto (tgt := 10) hx hb dX1_firstAtMost_51 (by decide) ?_
          exact hn10 (x5 + x6) (x6 / (2 : Int32)) h H locs ls hP hD hS (lv_sub hl [2, 3, 4, 1, 0] rfl)
  have L10 : ∀ (x2 : Int32) (x3 : Int64) (n : Nat) (x5 : Int32) (x6 : Int32), kLoopC n (fun q nx10 => fX1_firstAtMost_c10 vF x2 x3 q.1 q.2 nx10) (x5, x6) = some res → ∀ (H : Heap) (locs : List Loc) (ls : Array Slot), va_P D vwCl (wF ty adF vF) H → va_D A (wF ty adF vF) → va_S A s.heap H locs → lv_has ls 7 [(0, .ref (adF 0)), (2, .int x2), (3, .long x3), (5, .int x5), (6, .int x6)] → W p l e (headSpec wsX1_firstAtMost { frames := 1, cells := 0, slots := 0, locals := 26 }).room s m ([.ref (adF 0), .int p1, .int p2, .long p3] : List Value).toArray below meth c H locs 0 0 Q (F0 m 10 ls []) := by
    intro x2 x3 n
    induction n with
    | zero => intro x5 x6 h; exact absurd h (by simp [kLoopC])
    | succ n ih => intro x5 x6 h; exact B10 x2 x3 (kLoopC n (fun q nx10 => fX1_firstAtMost_c10 vF x2 x3 q.1 q.2 nx10)) ih x5 x6 h
  have hl := lv_entry ([.ref (adF 0), .int p1, .int p2, .long p3]) (n := 7) (Nat.le_of_ble_eq_true rfl)
  rw [lg_entry_eq]
  generalize (lg_sl ([.ref (adF 0), .int p1, .int p2, .long p3]) ++ List.replicate (7 - (lg_sl ([.ref (adF 0), .int p1, .int p2, .long p3])).length) Slot.unset).toArray = ls at hl ⊢
  have hl : lv_has ls 7 [(0, .ref (adF 0)), (1, .int p1), (2, .int p2), (3, .long p3)] := hl
  unfold fX1_firstAtMost at h
  have E0 : ∀ (H : Heap) (locs : List Loc) (ls : Array Slot), va_P D vwCl (wF ty adF vF) H → va_D A (wF ty adF vF) → va_S A s.heap H locs → lv_has ls 7 [(0, .ref (adF 0)), (1, .int p1), (2, .int p2), (3, .long p3)] → W p l e (headSpec wsX1_firstAtMost { frames := 1, cells := 0, slots := 0, locals := 26 }).room s m ([.ref (adF 0), .int p1, .int p2, .long p3] : List Value).toArray below meth c H locs 0 0 Q (F0 m 0 ls []) := by
    intro H locs ls hP hD hS hl
    refine lv_iload_n hx hb dX1_firstAtMost_0 rfl (lv_at hl 1 rfl) ?_
    refine lv_iconst (v := 1) hx hb dX1_firstAtMost_1 (by decide) ?_
    refine lv_isub hx hb dX1_firstAtMost_2 ?_
    refine lv_istore (lv' := [(5, .int (p1 - (1 : Int32))), (0, .ref (adF 0)), (1, .int p1), (2, .int p2), (3, .long p3)]) hx hb dX1_firstAtMost_3 hl (by decide) rfl (fun ls hl => ?_)
    refine lv_sipush (v := 4096) hx hb dX1_firstAtMost_5 (by decide) ?_
    refine lv_istore (lv' := [(6, .int (4096 : Int32)), (5, .int (p1 - (1 : Int32))), (0, .ref (adF 0)), (1, .int p1), (2, .int p2), (3, .long p3)]) hx hb dX1_firstAtMost_8 hl (by decide) rfl (fun ls hl => ?_)
    exact L10 p2 p3  kFu (p1 - (1 : Int32)) (4096 : Int32) h H locs ls hP hD hS (lv_sub hl [2, 4, 5, 1, 0] rfl)
  exact E0 s.heap [] ls hP hD hS hl
def fX1_nearest (vF : KF) (p1 : Int32) (p2 : Int32) (p3 : Int64) : Option (Int32) := (fX1_firstAtMost vF p1 p2 p3).bind fun r4 => if ¬ r4 = p1 then ((fX1_sum vF (r4 - (1 : Int32))).bind fun r22 => if p2 < r4 then ((fX1_firstAtMost vF p1 p2 r22).bind fun r57 => some r57) else ((fX1_sum vF r4).bind fun r37 => if (r22 - p3) ≤ (p3 - r37) then ((fX1_firstAtMost vF p1 p2 r22).bind fun r57 => some r57) else some r4)) else some p1
set_option maxHeartbeats 4000000 in
set_option maxRecDepth 100000 in
theorem cX1_nearest_ok (l : Launch) (D : va_G) (ty : kTy) (adF : Nat → Nat) (sz : Nat) (vF : KF) (p1 : Int32) (p2 : Int32) (p3 : Int64)  (res : Int32) (h : fX1_nearest vF p1 p2 p3 = some res) : kMI l yX1_nearest wsX1_nearest { frames := 2, cells := 0, slots := 0, locals := 52 } [.ref (adF 0), .int p1, .int p2, .long p3] D ty (wF ty adF vF) sz res (wF ty adF vF) := by
  refine Met.ofW (cc := cX1_nearest) (maxL := 8) (ret := (some .int)) (by decide) rfl ?_
  intro p e s m args below meth c s₁ B hml hv
  obtain ⟨rfl, hsz, hP, hK, hD0⟩ := hv
  have hx := B.exec
  have hb := B.bytes
  have hr := B.returns
  have hts := atoms_spec (ws := wsX1_nearest) B.pre
  have hown : s.vm.findClass RX1 = some m.cls := findClass_of_methodNamed B.named
  have hlocks := B.notSynchronized
  subst hsz
  have hD := hD0.self (sz := s.heap.size)
  generalize hAe : va_A (wF ty adF vF) s.heap.size = A at hD ⊢
  have hA : ∀ q : Nat, s.heap.size ≤ q → A q := fun q h => by rw [← hAe]; exact Or.inr h
  have hS : va_S A s.heap s.heap [] := va_S.rf
  refine kGenW (fun Q hQ => ?_)
  have hl := lv_entry ([.ref (adF 0), .int p1, .int p2, .long p3]) (n := 8) (Nat.le_of_ble_eq_true rfl)
  rw [lg_entry_eq]
  generalize (lg_sl ([.ref (adF 0), .int p1, .int p2, .long p3]) ++ List.replicate (8 - (lg_sl ([.ref (adF 0), .int p1, .int p2, .long p3])).length) Slot.unset).toArray = ls at hl ⊢
  have hl : lv_has ls 8 [(0, .ref (adF 0)), (1, .int p1), (2, .int p2), (3, .long p3)] := hl
  unfold fX1_nearest at h
  have E0 : ∀ (H : Heap) (locs : List Loc) (ls : Array Slot), va_P D vwCl (wF ty adF vF) H → va_D A (wF ty adF vF) → va_S A s.heap H locs → lv_has ls 8 [(0, .ref (adF 0)), (1, .int p1), (2, .int p2), (3, .long p3)] → W p l e (headSpec wsX1_nearest { frames := 2, cells := 0, slots := 0, locals := 52 }).room s m ([.ref (adF 0), .int p1, .int p2, .long p3] : List Value).toArray below meth c H locs 0 0 Q (F0 m 0 ls []) := by
    intro H locs ls hP hD hS hl
    refine lv_aload_n hx hb dX1_nearest_0 rfl (lv_at hl 0 rfl) ?_
    refine lv_iload_n hx hb dX1_nearest_1 rfl (lv_at hl 1 rfl) ?_
    refine lv_iload_n hx hb dX1_nearest_2 rfl (lv_at hl 2 rfl) ?_
    refine lv_lload_n hx hb dX1_nearest_3 rfl (lv_at hl 3 rfl) ?_
    obtain ⟨r4, e4, h⟩ := kBd h
    refine kCallVI (As := [.int p1, .int p2, .long p3]) (rest := []) (wc := wF ty adF vF) (w1 := wF ty adF vF) (wn := wF ty adF vF) ⟨hx, hb, hml, hown, hts⟩ (cX1_firstAtMost_ok l D ty adF H.size vF p1 p2 p3  r4 e4) (cwV 3 hts gX1_nearest_X1_firstAtMost rfl rfl rfl (by decide +kernel) ⟨Nat.le_of_ble_eq_true rfl, Nat.le_of_ble_eq_true rfl⟩) hP hK hD hS hA [0, 1, 2] (by decide +kernel) rfl 1 0 rfl rfl rfl rfl hl.1 rfl (Nat.le_of_ble_eq_true rfl) dX1_nearest_4 ⟨Nat.le_of_ble_eq_true rfl, Nat.le_of_ble_eq_true rfl⟩ rfl rfl (fun H locs hP hD hS => ?_)
    refine lv_istore (lv' := [(5, .int r4), (0, .ref (adF 0)), (1, .int p1), (2, .int p2), (3, .long p3)]) hx hb dX1_nearest_7 hl (by decide) rfl (fun ls hl => ?_)
    refine lv_iload hx hb dX1_nearest_9 (lv_at hl 0 rfl) ?_
    refine lv_iload_n hx hb dX1_nearest_11 rfl (lv_at hl 2 rfl) ?_
    refine lv_icmp_ne (tgt := 17) hx hb dX1_nearest_12 (by decide) (fun c12 => ?_) (fun c12 => ?_)
    · have h := kT h c12
      refine lv_aload_n hx hb dX1_nearest_17 rfl (lv_at hl 1 rfl) ?_
      refine lv_iload hx hb dX1_nearest_18 (lv_at hl 0 rfl) ?_
      refine lv_iconst (v := 1) hx hb dX1_nearest_20 (by decide) ?_
      refine lv_isub hx hb dX1_nearest_21 ?_
      obtain ⟨r22, e22, h⟩ := kBd h
      refine kCallVL (As := [.int (r4 - (1 : Int32))]) (rest := []) (wc := wF ty adF vF) (w1 := wF ty adF vF) (wn := wF ty adF vF) ⟨hx, hb, hml, hown, hts⟩ (cX1_sum_ok l D ty adF H.size vF (r4 - (1 : Int32))  r22 e22) (cwV 1 hts gX1_nearest_X1_sum rfl rfl rfl (by decide +kernel) ⟨Nat.le_of_ble_eq_true rfl, Nat.le_of_ble_eq_true rfl⟩) hP hK hD hS hA [0, 1, 2] (by decide +kernel) rfl 1 0 rfl rfl rfl rfl hl.1 rfl (Nat.le_of_ble_eq_true rfl) dX1_nearest_22 ⟨Nat.le_of_ble_eq_true rfl, Nat.le_of_ble_eq_true rfl⟩ rfl rfl (fun H locs hP hD hS => ?_)
      refine lv_lstore (lv' := [(6, .long r22), (5, .int r4), (0, .ref (adF 0)), (1, .int p1), (2, .int p2), (3, .long p3)]) hx hb dX1_nearest_25 hl (by decide) rfl (fun ls hl => ?_)
      refine lv_iload hx hb dX1_nearest_27 (lv_at hl 1 rfl) ?_
      refine lv_iload_n hx hb dX1_nearest_29 rfl (lv_at hl 4 rfl) ?_
      refine lv_icmp_gt (tgt := 52) hx hb dX1_nearest_30 (by decide) (fun c30 => ?_) (fun c30 => ?_)
      · have h := kT h c30
        refine lv_aload_n hx hb dX1_nearest_52 rfl (lv_at hl 2 rfl) ?_
        refine lv_iload_n hx hb dX1_nearest_53 rfl (lv_at hl 3 rfl) ?_
        refine lv_iload_n hx hb dX1_nearest_54 rfl (lv_at hl 4 rfl) ?_
        refine lv_lload hx hb dX1_nearest_55 (lv_at hl 0 rfl) ?_
        obtain ⟨r57, e57, h⟩ := kBd h
        refine kCallVI (As := [.int p1, .int p2, .long r22]) (rest := []) (wc := wF ty adF vF) (w1 := wF ty adF vF) (wn := wF ty adF vF) ⟨hx, hb, hml, hown, hts⟩ (cX1_firstAtMost_ok l D ty adF H.size vF p1 p2 r22  r57 e57) (cwV 3 hts gX1_nearest_X1_firstAtMost rfl rfl rfl (by decide +kernel) ⟨Nat.le_of_ble_eq_true rfl, Nat.le_of_ble_eq_true rfl⟩) hP hK hD hS hA [0, 1, 2] (by decide +kernel) rfl 1 0 rfl rfl rfl rfl hl.1 rfl (Nat.le_of_ble_eq_true rfl) dX1_nearest_57 ⟨Nat.le_of_ble_eq_true rfl, Nat.le_of_ble_eq_true rfl⟩ rfl rfl (fun H locs hP hD hS => ?_)
        obtain rfl := Option.some.inj h
        subst hQ
        exact W.iret (v := r57) hx hb hr (fun t ht hW => ⟨⟨r57, (), rfl, rfl, kEnd ht hP⟩, hS.F ht⟩) hS.2.2 dX1_nearest_60
      · have h := kF h c30
        refine lv_lload_n hx hb dX1_nearest_33 rfl (lv_at hl 5 rfl) ?_
        refine lv_aload_n hx hb dX1_nearest_34 rfl (lv_at hl 2 rfl) ?_
        refine lv_iload hx hb dX1_nearest_35 (lv_at hl 1 rfl) ?_
        obtain ⟨r37, e37, h⟩ := kBd h
        refine kCallVL (As := [.int r4]) (rest := [.long p3]) (wc := wF ty adF vF) (w1 := wF ty adF vF) (wn := wF ty adF vF) ⟨hx, hb, hml, hown, hts⟩ (cX1_sum_ok l D ty adF H.size vF r4  r37 e37) (cwV 1 hts gX1_nearest_X1_sum rfl rfl rfl (by decide +kernel) ⟨Nat.le_of_ble_eq_true rfl, Nat.le_of_ble_eq_true rfl⟩) hP hK hD hS hA [0, 1, 2] (by decide +kernel) rfl 1 0 rfl rfl rfl rfl hl.1 rfl (Nat.le_of_ble_eq_true rfl) dX1_nearest_37 ⟨Nat.le_of_ble_eq_true rfl, Nat.le_of_ble_eq_true rfl⟩ rfl rfl (fun H locs hP hD hS => ?_)
        refine lv_lsub hx hb dX1_nearest_40 ?_
        refine lv_lload hx hb dX1_nearest_41 (lv_at hl 0 rfl) ?_
        refine lv_lload_n hx hb dX1_nearest_43 rfl (lv_at hl 5 rfl) ?_
        refine lv_lsub hx hb dX1_nearest_44 ?_
        refine W.lcmp hx hb dX1_nearest_45 ?_
        refine lv_if_ge (tgt := 52) hx hb dX1_nearest_46 (by decide) (fun c46 => ?_) (fun c46 => ?_)
        · have h := kT h ((lg_cmp_ge _ _).mp c46)
          refine lv_aload_n hx hb dX1_nearest_52 rfl (lv_at hl 2 rfl) ?_
          refine lv_iload_n hx hb dX1_nearest_53 rfl (lv_at hl 3 rfl) ?_
          refine lv_iload_n hx hb dX1_nearest_54 rfl (lv_at hl 4 rfl) ?_
          refine lv_lload hx hb dX1_nearest_55 (lv_at hl 0 rfl) ?_
          obtain ⟨r57, e57, h⟩ := kBd h
          refine kCallVI (As := [.int p1, .int p2, .long r22]) (rest := []) (wc := wF ty adF vF) (w1 := wF ty adF vF) (wn := wF ty adF vF) ⟨hx, hb, hml, hown, hts⟩ (cX1_firstAtMost_ok l D ty adF H.size vF p1 p2 r22  r57 e57) (cwV 3 hts gX1_nearest_X1_firstAtMost rfl rfl rfl (by decide +kernel) ⟨Nat.le_of_ble_eq_true rfl, Nat.le_of_ble_eq_true rfl⟩) hP hK hD hS hA [0, 1, 2] (by decide +kernel) rfl 1 0 rfl rfl rfl rfl hl.1 rfl (Nat.le_of_ble_eq_true rfl) dX1_nearest_57 ⟨Nat.le_of_ble_eq_true rfl, Nat.le_of_ble_eq_true rfl⟩ rfl rfl (fun H locs hP hD hS => ?_)
          obtain rfl := Option.some.inj h
          subst hQ
          exact W.iret (v := r57) hx hb hr (fun t ht hW => ⟨⟨r57, (), rfl, rfl, kEnd ht hP⟩, hS.F ht⟩) hS.2.2 dX1_nearest_60
        · have h := kF h (fun z => c46 ((lg_cmp_ge _ _).mpr z))
          refine lv_iload hx hb dX1_nearest_49 (lv_at hl 1 rfl) ?_
          obtain rfl := Option.some.inj h
          subst hQ
          exact W.iret (v := r4) hx hb hr (fun t ht hW => ⟨⟨r4, (), rfl, rfl, kEnd ht hP⟩, hS.F ht⟩) hS.2.2 dX1_nearest_51
    · have h := kF h (fun z => z c12)
      refine lv_iload_n hx hb dX1_nearest_15 rfl (lv_at hl 2 rfl) ?_
      obtain rfl := Option.some.inj h
      subst hQ
      exact W.iret (v := p1) hx hb hr (fun t ht hW => ⟨⟨p1, (), rfl, rfl, kEnd ht hP⟩, hS.F ht⟩) hS.2.2 dX1_nearest_16
  exact E0 s.heap [] ls hP hD hS hl
