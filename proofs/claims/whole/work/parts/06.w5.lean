def fX5_in (p0 : Int32) (p1 : Int32) (p2 : Int32) : Option (Int32) := if p0 < p1 then (some (0 : Int32)) else (if p2 < p0 then (some (0 : Int32)) else (some (1 : Int32)))
set_option maxHeartbeats 4000000 in
set_option maxRecDepth 100000 in
theorem cX5_in_ok (l : Launch) (D : va_G) (ty : kTy)  (sz : Nat) (p0 : Int32) (p1 : Int32) (p2 : Int32) (res : Int32) (h : fX5_in p0 p1 p2 = some res) : kMI l yX5_in wsX5_in { frames := 0, cells := 0, slots := 0, locals := 0 } [.int p0, .int p1, .int p2] D ty (([] : va_W)) sz res (([] : va_W)) := by
  refine Met.ofW (cc := cX5_in) (maxL := 3) (ret := (some .boolean)) (by decide) rfl ?_
  intro p e s m args below meth c s₁ B hml hv
  obtain ⟨rfl, hsz, hP, hK, hD0⟩ := hv
  have hx := B.exec
  have hb := B.bytes
  have hr := B.returns
  have hts := atoms_spec (ws := wsX5_in) B.pre
  have hown : s.vm.findClass RX5 = some m.cls := findClass_of_methodNamed B.named
  have hlocks := B.notSynchronized
  subst hsz
  have hD := hD0.self (sz := s.heap.size)
  generalize hAe : va_A (([] : va_W)) s.heap.size = A at hD ⊢
  have hA : ∀ q : Nat, s.heap.size ≤ q → A q := fun q h => by rw [← hAe]; exact Or.inr h
  have hS : va_S A s.heap s.heap [] := va_S.rf
  refine kGenW (fun Q hQ => ?_)
  have hl := lv_entry ([.int p0, .int p1, .int p2]) (n := 3) (Nat.le_of_ble_eq_true rfl)
  rw [lg_entry_eq]
  generalize (lg_sl ([.int p0, .int p1, .int p2]) ++ List.replicate (3 - (lg_sl ([.int p0, .int p1, .int p2])).length) Slot.unset).toArray = ls at hl ⊢
  have hl : lv_has ls 3 [(0, .int p0), (1, .int p1), (2, .int p2)] := hl
  unfold fX5_in at h
  have E0 : ∀ (H : Heap) (locs : List Loc) (ls : Array Slot), va_P D vwCl (([] : va_W)) H → va_D A (([] : va_W)) → va_S A s.heap H locs → lv_has ls 3 [(0, .int p0), (1, .int p1), (2, .int p2)] → W p l e (headSpec wsX5_in { frames := 0, cells := 0, slots := 0, locals := 0 }).room s m ([.int p0, .int p1, .int p2] : List Value).toArray below meth c H locs 0 0 Q (F0 m 0 ls []) := by
    intro H locs ls hP hD hS hl
    refine lv_iload_n hx hb dX5_in_0 rfl (lv_at hl 0 rfl) ?_
    refine lv_iload_n hx hb dX5_in_1 rfl (lv_at hl 1 rfl) ?_
    refine lv_icmp_lt (tgt := 14) hx hb dX5_in_2 (by decide) (fun c2 => ?_) (fun c2 => ?_)
    · have h := kT h c2
      refine lv_iconst (v := 0) hx hb dX5_in_14 (by decide) ?_
      obtain rfl := Option.some.inj h
      subst hQ
      exact W.zret (ty := .boolean) (v := (0 : Int32)) hx hb hr rfl (fun t ht hW => ⟨⟨(0 : Int32), (), rfl, rfl, kEnd ht hP⟩, hS.F ht⟩) hS.2.2 dX5_in_15
    · have h := kF h c2
      refine lv_iload_n hx hb dX5_in_5 rfl (lv_at hl 0 rfl) ?_
      refine lv_iload_n hx hb dX5_in_6 rfl (lv_at hl 2 rfl) ?_
      refine lv_icmp_gt (tgt := 14) hx hb dX5_in_7 (by decide) (fun c7 => ?_) (fun c7 => ?_)
      · have h := kT h c7
        refine lv_iconst (v := 0) hx hb dX5_in_14 (by decide) ?_
        obtain rfl := Option.some.inj h
        subst hQ
        exact W.zret (ty := .boolean) (v := (0 : Int32)) hx hb hr rfl (fun t ht hW => ⟨⟨(0 : Int32), (), rfl, rfl, kEnd ht hP⟩, hS.F ht⟩) hS.2.2 dX5_in_15
      · have h := kF h c7
        refine lv_iconst (v := 1) hx hb dX5_in_10 (by decide) ?_
        refine lv_goto (tgt := 15) hx hb dX5_in_11 (by decide) ?_
        obtain rfl := Option.some.inj h
        subst hQ
        exact W.zret (ty := .boolean) (v := (1 : Int32)) hx hb hr rfl (fun t ht hW => ⟨⟨(1 : Int32), (), rfl, rfl, kEnd ht hP⟩, hS.F ht⟩) hS.2.2 dX5_in_15
  exact E0 s.heap [] ls hP hD hS hl
def fX5_isLayer (vM : KM) (p1 : Int32) : Option (Int32) := if kIn (0 : Int32) 133 = true then ((fX5_in p1 (0 : Int32) ((vM.2.2.2.2.2.2.1 (0 : Int32).toNatClampNeg) - (1 : Int32))).bind fun r10 => if kZb r10 = true then some r10 else none) else none
set_option maxHeartbeats 4000000 in
set_option maxRecDepth 100000 in
theorem cX5_isLayer_ok (l : Launch) (D : va_G) (ty : kTy) (adM : Nat → Nat) (sz : Nat) (vM : KM) (p1 : Int32) (res : Int32) (h : fX5_isLayer vM p1 = some res) : kMI l yX5_isLayer wsX5_isLayer { frames := 1, cells := 0, slots := 0, locals := 22 } [.ref (adM 0), .int p1] D ty (wM ty adM vM) sz res (wM ty adM vM) := by
  refine Met.ofW (cc := cX5_isLayer) (maxL := 2) (ret := (some .boolean)) (by decide) rfl ?_
  intro p e s m args below meth c s₁ B hml hv
  obtain ⟨rfl, hsz, hP, hK, hD0⟩ := hv
  have hx := B.exec
  have hb := B.bytes
  have hr := B.returns
  have hts := atoms_spec (ws := wsX5_isLayer) B.pre
  have hown : s.vm.findClass RX5 = some m.cls := findClass_of_methodNamed B.named
  have hlocks := B.notSynchronized
  subst hsz
  have hD := hD0.self (sz := s.heap.size)
  generalize hAe : va_A (wM ty adM vM) s.heap.size = A at hD ⊢
  have hA : ∀ q : Nat, s.heap.size ≤ q → A q := fun q h => by rw [← hAe]; exact Or.inr h
  have hS : va_S A s.heap s.heap [] := va_S.rf
  refine kGenW (fun Q hQ => ?_)
  have wf0 := hts (.fieldLink RX5 7 "IceCoreDaterModel" "now" "[I") (by decide +kernel)
  have hinX5 : ∀ w ∈ wsX50, w ∈ wsX5_isLayer := by decide +kernel
  have hl := lv_entry ([.ref (adM 0), .int p1]) (n := 2) (Nat.le_of_ble_eq_true rfl)
  rw [lg_entry_eq]
  generalize (lg_sl ([.ref (adM 0), .int p1]) ++ List.replicate (2 - (lg_sl ([.ref (adM 0), .int p1])).length) Slot.unset).toArray = ls at hl ⊢
  have hl : lv_has ls 2 [(0, .ref (adM 0)), (1, .int p1)] := hl
  unfold fX5_isLayer at h
  have E0 : ∀ (H : Heap) (locs : List Loc) (ls : Array Slot), va_P D vwCl (wM ty adM vM) H → va_D A (wM ty adM vM) → va_S A s.heap H locs → lv_has ls 2 [(0, .ref (adM 0)), (1, .int p1)] → W p l e (headSpec wsX5_isLayer { frames := 1, cells := 0, slots := 0, locals := 22 }).room s m ([.ref (adM 0), .int p1] : List Value).toArray below meth c H locs 0 0 Q (F0 m 0 ls []) := by
    intro H locs ls hP hD hS hl
    refine lv_iload_n hx hb dX5_isLayer_0 rfl (lv_at hl 1 rfl) ?_
    refine lv_iconst (v := 0) hx hb dX5_isLayer_1 (by decide) ?_
    refine lv_aload_n hx hb dX5_isLayer_2 rfl (lv_at hl 0 rfl) ?_
    refine va_get (D := D) (ci := 5) (v := .ref (adM 1)) (C := RX5) (T := TX5) (N := 12) hx hb hts hinX5 hown hK.1 hP 0 rfl rfl 0 (by decide) wf0 (fun _ h9 => h9) rfl dX5_isLayer_3 ?_
    refine lv_iconst (v := 0) hx hb dX5_isLayer_6 (by decide) ?_
    obtain ⟨b7, h⟩ := kIf h
    refine va_iald (f := vM.2.2.2.2.2.2.1) (n := 133) hx hb hK.1 hP 1 0 rfl rfl (kIn_ok b7) dX5_isLayer_7 ?_
    refine lv_iconst (v := 1) hx hb dX5_isLayer_8 (by decide) ?_
    refine lv_isub hx hb dX5_isLayer_9 ?_
    obtain ⟨r10, e10, h⟩ := kBd h
    refine kCallSI (As := [.int p1, .int (0 : Int32), .int ((vM.2.2.2.2.2.2.1 (0 : Int32).toNatClampNeg) - (1 : Int32))]) (rest := []) ⟨hx, hb, hml, hown, hts⟩ (cX5_in_ok l D ty  H.size p1 (0 : Int32) ((vM.2.2.2.2.2.2.1 (0 : Int32).toNatClampNeg) - (1 : Int32)) r10 e10) (va_cwS 3 hts gX5_isLayer_X5_in rfl rfl rfl (by decide +kernel) ⟨Nat.le_of_ble_eq_true rfl, Nat.le_of_ble_eq_true rfl⟩) hP hK hD hS hA rfl hl.1 rfl (Nat.le_of_ble_eq_true rfl) dX5_isLayer_10 ⟨Nat.le_of_ble_eq_true rfl, Nat.le_of_ble_eq_true rfl⟩ (fun H locs hP hS => ?_)
    obtain ⟨b13, h⟩ := kIf h
    obtain rfl := Option.some.inj h
    subst hQ
    exact W.zret (ty := .boolean) (v := r10) hx hb hr (kZ_ok b13) (fun t ht hW => ⟨⟨r10, (), rfl, rfl, kEnd ht hP⟩, hS.F ht⟩) hS.2.2 dX5_isLayer_13
  exact E0 s.heap [] ls hP hD hS hl
def fX5_of (vM : KM) (p1 : Int32) (p2 : Int32) : Option (Int32) := if kIn (((8 : Int32) * p1) + p2) 133 = true then (some (vM.2.2.2.2.2.2.1 (((8 : Int32) * p1) + p2).toNatClampNeg)) else none
set_option maxHeartbeats 4000000 in
set_option maxRecDepth 100000 in
theorem cX5_of_ok (l : Launch) (D : va_G) (ty : kTy) (adM : Nat → Nat) (sz : Nat) (vM : KM) (p1 : Int32) (p2 : Int32) (res : Int32) (h : fX5_of vM p1 p2 = some res) : kMI l yX5_of wsX5_of { frames := 0, cells := 0, slots := 0, locals := 0 } [.ref (adM 0), .int p1, .int p2] D ty (wM ty adM vM) sz res (wM ty adM vM) := by
  refine Met.ofW (cc := cX5_of) (maxL := 3) (ret := (some .int)) (by decide) rfl ?_
  intro p e s m args below meth c s₁ B hml hv
  obtain ⟨rfl, hsz, hP, hK, hD0⟩ := hv
  have hx := B.exec
  have hb := B.bytes
  have hr := B.returns
  have hts := atoms_spec (ws := wsX5_of) B.pre
  have hown : s.vm.findClass RX5 = some m.cls := findClass_of_methodNamed B.named
  have hlocks := B.notSynchronized
  subst hsz
  have hD := hD0.self (sz := s.heap.size)
  generalize hAe : va_A (wM ty adM vM) s.heap.size = A at hD ⊢
  have hA : ∀ q : Nat, s.heap.size ≤ q → A q := fun q h => by rw [← hAe]; exact Or.inr h
  have hS : va_S A s.heap s.heap [] := va_S.rf
  refine kGenW (fun Q hQ => ?_)
  have wf0 := hts (.fieldLink RX5 7 "IceCoreDaterModel" "now" "[I") (by decide +kernel)
  have hinX5 : ∀ w ∈ wsX50, w ∈ wsX5_of := by decide +kernel
  have hl := lv_entry ([.ref (adM 0), .int p1, .int p2]) (n := 3) (Nat.le_of_ble_eq_true rfl)
  rw [lg_entry_eq]
  generalize (lg_sl ([.ref (adM 0), .int p1, .int p2]) ++ List.replicate (3 - (lg_sl ([.ref (adM 0), .int p1, .int p2])).length) Slot.unset).toArray = ls at hl ⊢
  have hl : lv_has ls 3 [(0, .ref (adM 0)), (1, .int p1), (2, .int p2)] := hl
  unfold fX5_of at h
  have E0 : ∀ (H : Heap) (locs : List Loc) (ls : Array Slot), va_P D vwCl (wM ty adM vM) H → va_D A (wM ty adM vM) → va_S A s.heap H locs → lv_has ls 3 [(0, .ref (adM 0)), (1, .int p1), (2, .int p2)] → W p l e (headSpec wsX5_of { frames := 0, cells := 0, slots := 0, locals := 0 }).room s m ([.ref (adM 0), .int p1, .int p2] : List Value).toArray below meth c H locs 0 0 Q (F0 m 0 ls []) := by
    intro H locs ls hP hD hS hl
    refine lv_aload_n hx hb dX5_of_0 rfl (lv_at hl 0 rfl) ?_
    refine va_get (D := D) (ci := 5) (v := .ref (adM 1)) (C := RX5) (T := TX5) (N := 12) hx hb hts hinX5 hown hK.1 hP 0 rfl rfl 0 (by decide) wf0 (fun _ h9 => h9) rfl dX5_of_1 ?_
    refine lv_bipush (v := 8) hx hb dX5_of_4 (by decide) ?_
    refine lv_iload_n hx hb dX5_of_6 rfl (lv_at hl 1 rfl) ?_
    refine lv_imul hx hb dX5_of_7 ?_
    refine lv_iload_n hx hb dX5_of_8 rfl (lv_at hl 2 rfl) ?_
    refine lv_iadd hx hb dX5_of_9 ?_
    obtain ⟨b10, h⟩ := kIf h
    refine va_iald (f := vM.2.2.2.2.2.2.1) (n := 133) hx hb hK.1 hP 1 0 rfl rfl (kIn_ok b10) dX5_of_10 ?_
    obtain rfl := Option.some.inj h
    subst hQ
    exact W.iret (v := (vM.2.2.2.2.2.2.1 (((8 : Int32) * p1) + p2).toNatClampNeg)) hx hb hr (fun t ht hW => ⟨⟨(vM.2.2.2.2.2.2.1 (((8 : Int32) * p1) + p2).toNatClampNeg), (), rfl, rfl, kEnd ht hP⟩, hS.F ht⟩) hS.2.2 dX5_of_11
  exact E0 s.heap [] ls hP hD hS hl
def fX5_size (p0 : Int64) : Option (Int64) := if (0 : Int64) ≤ p0 then some p0 else (some (0 - p0))
set_option maxHeartbeats 4000000 in
set_option maxRecDepth 100000 in
theorem cX5_size_ok (l : Launch) (D : va_G) (ty : kTy)  (sz : Nat) (p0 : Int64) (res : Int64) (h : fX5_size p0 = some res) : kML l yX5_size wsX5_size { frames := 0, cells := 0, slots := 0, locals := 0 } [.long p0] D ty (([] : va_W)) sz res (([] : va_W)) := by
  refine Met.ofW (cc := cX5_size) (maxL := 2) (ret := (some .long)) (by decide) rfl ?_
  intro p e s m args below meth c s₁ B hml hv
  obtain ⟨rfl, hsz, hP, hK, hD0⟩ := hv
  have hx := B.exec
  have hb := B.bytes
  have hr := B.returns
  have hts := atoms_spec (ws := wsX5_size) B.pre
  have hown : s.vm.findClass RX5 = some m.cls := findClass_of_methodNamed B.named
  have hlocks := B.notSynchronized
  subst hsz
  have hD := hD0.self (sz := s.heap.size)
  generalize hAe : va_A (([] : va_W)) s.heap.size = A at hD ⊢
  have hA : ∀ q : Nat, s.heap.size ≤ q → A q := fun q h => by rw [← hAe]; exact Or.inr h
  have hS : va_S A s.heap s.heap [] := va_S.rf
  refine kGenW (fun Q hQ => ?_)
  have hl := lv_entry ([.long p0]) (n := 2) (Nat.le_of_ble_eq_true rfl)
  rw [lg_entry_eq]
  generalize (lg_sl ([.long p0]) ++ List.replicate (2 - (lg_sl ([.long p0])).length) Slot.unset).toArray = ls at hl ⊢
  have hl : lv_has ls 2 [(0, .long p0)] := hl
  unfold fX5_size at h
  have E0 : ∀ (H : Heap) (locs : List Loc) (ls : Array Slot), va_P D vwCl (([] : va_W)) H → va_D A (([] : va_W)) → va_S A s.heap H locs → lv_has ls 2 [(0, .long p0)] → W p l e (headSpec wsX5_size { frames := 0, cells := 0, slots := 0, locals := 0 }).room s m ([.long p0] : List Value).toArray below meth c H locs 0 0 Q (F0 m 0 ls []) := by
    intro H locs ls hP hD hS hl
    refine lv_lload_n hx hb dX5_size_0 rfl (lv_at hl 0 rfl) ?_
    refine lv_lconst (v := 0) hx hb dX5_size_1 (by decide) ?_
    refine W.lcmp hx hb dX5_size_2 ?_
    refine lv_if_ge (tgt := 11) hx hb dX5_size_3 (by decide) (fun c3 => ?_) (fun c3 => ?_)
    · have h := kT h ((lg_cmp_ge _ _).mp c3)
      refine lv_lload_n hx hb dX5_size_11 rfl (lv_at hl 0 rfl) ?_
      obtain rfl := Option.some.inj h
      subst hQ
      exact W.lret (v := p0) hx hb hr (fun t ht hW => ⟨⟨p0, (), rfl, rfl, kEnd ht hP⟩, hS.F ht⟩) hS.2.2 dX5_size_12
    · have h := kF h (fun z => c3 ((lg_cmp_ge _ _).mpr z))
      refine lv_lload_n hx hb dX5_size_6 rfl (lv_at hl 0 rfl) ?_
      refine lv_lneg hx hb dX5_size_7 ?_
      refine lv_goto (tgt := 12) hx hb dX5_size_8 (by decide) ?_
      obtain rfl := Option.some.inj h
      subst hQ
      exact W.lret (v := (0 - p0)) hx hb hr (fun t ht hW => ⟨⟨(0 - p0), (), rfl, rfl, kEnd ht hP⟩, hS.F ht⟩) hS.2.2 dX5_size_12
  exact E0 s.heap [] ls hP hD hS hl
def fX5_record_c72 (uM : KM) (x1 : Int32) (nx72 : KM × Int32 → Option (KM)) : Option (KM) := if (133 : Int32) ≤ x1 then (some (uM.1, (uM.2.1 + (1 : Int32)), uM.2.2)) else (if kIn x1 133 = true then (if kIn (((133 : Int32) * uM.2.1) + x1) 1064 = true then (nx72 ((uM.1, uM.2.1, uM.2.2.1, uM.2.2.2.1, uM.2.2.2.2.1, uM.2.2.2.2.2.1, uM.2.2.2.2.2.2.1, (upd uM.2.2.2.2.2.2.2.1 (((133 : Int32) * uM.2.1) + x1).toNatClampNeg (uM.2.2.2.2.2.2.1 x1.toNatClampNeg)), uM.2.2.2.2.2.2.2.2), (x1 + 1))) else none) else none)
def fX5_record_c31 (uM : KM) (x1 : Int32) (nx31 : KM × Int32 → Option (KM)) : Option (KM) := if (1064 : Int32) ≤ x1 then (kLoopC kFu (fun q nx72 => fX5_record_c72 q.1 q.2 nx72) ((uM.1, (uM.2.1 - (1 : Int32)), uM.2.2), (0 : Int32))) else (if kIn x1 1064 = true then (if kIn (x1 - (133 : Int32)) 1064 = true then (nx31 ((uM.1, uM.2.1, uM.2.2.1, uM.2.2.2.1, uM.2.2.2.2.1, uM.2.2.2.2.2.1, uM.2.2.2.2.2.2.1, (upd uM.2.2.2.2.2.2.2.1 (x1 - (133 : Int32)).toNatClampNeg (uM.2.2.2.2.2.2.2.1 x1.toNatClampNeg)), uM.2.2.2.2.2.2.2.2), (x1 + 1))) else none) else none)
def fX5_record (vM : KM) : Option (KM) := if vM.2.2.1 = (0 : Int32) then (if ¬ vM.2.1 = (8 : Int32) then (kLoopC kFu (fun q nx72 => fX5_record_c72 q.1 q.2 nx72) (((vM.1 + (1 : Int32)), vM.2), (0 : Int32))) else (kLoopC kFu (fun q nx31 => fX5_record_c31 q.1 q.2 nx31) (((vM.1 + (1 : Int32)), vM.2), (133 : Int32)))) else some vM
set_option maxHeartbeats 4000000 in
set_option maxRecDepth 100000 in
theorem cX5_record_ok (l : Launch) (D : va_G) (ty : kTy) (adM : Nat → Nat) (sz : Nat) (vM : KM) (res : KM) (h : fX5_record vM = some res) : kMV l yX5_record wsX5_record { frames := 0, cells := 0, slots := 0, locals := 0 } [.ref (adM 0)] D ty (wM ty adM vM) sz (wM ty adM res) := by
  refine Met.ofW (cc := cX5_record) (maxL := 2) (ret := none) (by decide) rfl ?_
  intro p e s m args below meth c s₁ B hml hv
  obtain ⟨rfl, hsz, hP, hK, hD0⟩ := hv
  have hx := B.exec
  have hb := B.bytes
  have hr := B.returns
  have hts := atoms_spec (ws := wsX5_record) B.pre
  have hown : s.vm.findClass RX5 = some m.cls := findClass_of_methodNamed B.named
  have hlocks := B.notSynchronized
  subst hsz
  have hD := hD0.self (sz := s.heap.size)
  generalize hAe : va_A (wM ty adM vM) s.heap.size = A at hD ⊢
  have hA : ∀ q : Nat, s.heap.size ≤ q → A q := fun q h => by rw [← hAe]; exact Or.inr h
  have hS : va_S A s.heap s.heap [] := va_S.rf
  refine kGenW (fun Q hQ => ?_)
  have wf0 := hts (.fieldLink RX5 46 "IceCoreDaterModel" "recorded" "I") (by decide +kernel)
  have hinX5 : ∀ w ∈ wsX50, w ∈ wsX5_record := by decide +kernel
  have wf2 := hts (.fieldLink RX5 13 "IceCoreDaterModel" "past" "[I") (by decide +kernel)
  have wf3 := hts (.fieldLink RX5 7 "IceCoreDaterModel" "now" "[I") (by decide +kernel)
  have wf4 := hts (.fieldLink RX5 39 "IceCoreDaterModel" "running" "Z") (by decide +kernel)
  have wf5 := hts (.fieldLink RX5 43 "IceCoreDaterModel" "acts" "I") (by decide +kernel)
  have B72 : ∀ (nx72 : KM × Int32 → Option (KM)) (hn72 : ∀ (uM : KM) (x1 : Int32), nx72 (uM, x1) = some res → ∀ (H : Heap) (locs : List Loc) (ls : Array Slot), va_P D vwCl (wM ty adM uM) H → va_D A (wM ty adM uM) → va_S A s.heap H locs → lv_has ls 2 [(0, .ref (adM 0)), (1, .int x1)] → W p l e (headSpec wsX5_record { frames := 0, cells := 0, slots := 0, locals := 0 }).room s m ([.ref (adM 0)] : List Value).toArray below meth c H locs 0 0 Q (F0 m 72 ls [])) (uM : KM) (x1 : Int32), fX5_record_c72 uM x1 nx72 = some res → ∀ (H : Heap) (locs : List Loc) (ls : Array Slot), va_P D vwCl (wM ty adM uM) H → va_D A (wM ty adM uM) → va_S A s.heap H locs → lv_has ls 2 [(0, .ref (adM 0)), (1, .int x1)] → W p l e (headSpec wsX5_record { frames := 0, cells := 0, slots := 0, locals := 0 }).room s m ([.ref (adM 0)] : List Value).toArray below meth c H locs 0 0 Q (F0 m 72 ls []) := by
    intro  nx72 hn72 uM x1 h H locs ls hP hD hS hl
    unfold fX5_record_c72 at h
    refine lv_iload_n hx hb dX5_record_72 rfl (lv_at hl 1 rfl) ?_
    refine lv_sipush (v := 133) hx hb dX5_record_73 (by decide) ?_
    refine lv_icmp_ge (tgt := 106) hx hb dX5_record_76 (by decide) (fun c76 => ?_) (fun c76 => ?_)
    · have h := kT h c76
      refine lv_aload_n hx hb dX5_record_106 rfl (lv_at hl 0 rfl) ?_
      refine lv_dup hx hb dX5_record_107 rfl ?_
      refine va_get (D := D) (ci := 5) (v := .int uM.2.1) (C := RX5) (T := TX5) (N := 12) hx hb hts hinX5 hown hK.1 hP 0 rfl rfl 3 (by decide) wf0 (fun _ h9 => h9) rfl dX5_record_108 ?_
      refine lv_iconst (v := 1) hx hb dX5_record_111 (by decide) ?_
      refine lv_iadd hx hb dX5_record_112 ?_
      refine va_put (D := D) (ci := 5) (v := .int (uM.2.1 + (1 : Int32))) (ty := .int) (C := RX5) (T := TX5) (N := 12) hx hb hts hinX5 tyX5 tyX5_ok nmX5 hown hK.1 hP hD hS 0 rfl rfl 3 (by decide) wf0 (fun _ h9 => h9) rfl (by decide +kernel) rfl rfl (Nat.le_of_ble_eq_true rfl) dX5_record_113 (fun H locs hP hD hS => ?_)
      have hP : va_P D vwCl (wM ty adM (uM.1, (uM.2.1 + (1 : Int32)), uM.2.2)) H := hP
      have hD : va_D A (wM ty adM (uM.1, (uM.2.1 + (1 : Int32)), uM.2.2)) := hD
      obtain rfl := Option.some.inj h
      subst hQ
      exact W.vret hx hb hr (fun t ht hW => ⟨⟨(), rfl, trivial, kEnd ht hP⟩, hS.F ht⟩) hS.2.2 dX5_record_116
    · have h := kF h c76
      refine lv_aload_n hx hb dX5_record_79 rfl (lv_at hl 0 rfl) ?_
      refine va_get (D := D) (ci := 5) (v := .ref (adM 2)) (C := RX5) (T := TX5) (N := 12) hx hb hts hinX5 hown hK.1 hP 0 rfl rfl 2 (by decide) wf2 (fun _ h9 => h9) rfl dX5_record_80 ?_
      refine lv_sipush (v := 133) hx hb dX5_record_83 (by decide) ?_
      refine lv_aload_n hx hb dX5_record_86 rfl (lv_at hl 0 rfl) ?_
      refine va_get (D := D) (ci := 5) (v := .int uM.2.1) (C := RX5) (T := TX5) (N := 12) hx hb hts hinX5 hown hK.1 hP 0 rfl rfl 3 (by decide) wf0 (fun _ h9 => h9) rfl dX5_record_87 ?_
      refine lv_imul hx hb dX5_record_90 ?_
      refine lv_iload_n hx hb dX5_record_91 rfl (lv_at hl 1 rfl) ?_
      refine lv_iadd hx hb dX5_record_92 ?_
      refine lv_aload_n hx hb dX5_record_93 rfl (lv_at hl 0 rfl) ?_
      refine va_get (D := D) (ci := 5) (v := .ref (adM 1)) (C := RX5) (T := TX5) (N := 12) hx hb hts hinX5 hown hK.1 hP 0 rfl rfl 0 (by decide) wf3 (fun _ h9 => h9) rfl dX5_record_94 ?_
      refine lv_iload_n hx hb dX5_record_97 rfl (lv_at hl 1 rfl) ?_
      obtain ⟨b98, h⟩ := kIf h
      refine va_iald (f := uM.2.2.2.2.2.2.1) (n := 133) hx hb hK.1 hP 1 0 rfl rfl (kIn_ok b98) dX5_record_98 ?_
      obtain ⟨b99, h⟩ := kIf h
      refine va_iast (f := uM.2.2.2.2.2.2.2.1) (n := 1064) hx hb hK.1 hP hD hS 2 0 rfl rfl (kIn_ok b99) dX5_record_99 (fun H locs hP hD hS => ?_)
      have hP : va_P D vwCl (wM ty adM (uM.1, uM.2.1, uM.2.2.1, uM.2.2.2.1, uM.2.2.2.2.1, uM.2.2.2.2.2.1, uM.2.2.2.2.2.2.1, (upd uM.2.2.2.2.2.2.2.1 (((133 : Int32) * uM.2.1) + x1).toNatClampNeg (uM.2.2.2.2.2.2.1 x1.toNatClampNeg)), uM.2.2.2.2.2.2.2.2)) H := hP
      have hD : va_D A (wM ty adM (uM.1, uM.2.1, uM.2.2.1, uM.2.2.2.1, uM.2.2.2.2.1, uM.2.2.2.2.2.1, uM.2.2.2.2.2.2.1, (upd uM.2.2.2.2.2.2.2.1 (((133 : Int32) * uM.2.1) + x1).toNatClampNeg (uM.2.2.2.2.2.2.1 x1.toNatClampNeg)), uM.2.2.2.2.2.2.2.2)) := hD
      refine lv_iinc (v := (x1 + 1)) (lv' := [(1, .int (x1 + 1)), (0, .ref (adM 0))]) hx hb dX5_record_100 hl (k := 1) rfl rfl (by decide) rfl (fun ls hl => ?_)
      refine lv_goto (tgt := 72) hx hb dX5_record_103 (by decide) ?_
      exact hn72 (uM.1, uM.2.1, uM.2.2.1, uM.2.2.2.1, uM.2.2.2.2.1, uM.2.2.2.2.2.1, uM.2.2.2.2.2.2.1, (upd uM.2.2.2.2.2.2.2.1 (((133 : Int32) * uM.2.1) + x1).toNatClampNeg (uM.2.2.2.2.2.2.1 x1.toNatClampNeg)), uM.2.2.2.2.2.2.2.2) (x1 + 1) h H locs ls hP hD hS (lv_sub hl [1, 0] rfl)
  have L72 : ∀  (n : Nat) (uM : KM) (x1 : Int32), kLoopC n (fun q nx72 => fX5_record_c72 q.1 q.2 nx72) (uM, x1) = some res → ∀ (H : Heap) (locs : List Loc) (ls : Array Slot), va_P D vwCl (wM ty adM uM) H → va_D A (wM ty adM uM) → va_S A s.heap H locs → lv_has ls 2 [(0, .ref (adM 0)), (1, .int x1)] → W p l e (headSpec wsX5_record { frames := 0, cells := 0, slots := 0, locals := 0 }).room s m ([.ref (adM 0)] : List Value).toArray below meth c H locs 0 0 Q (F0 m 72 ls []) := by
    intro  n
    induction n with
    | zero => intro uM x1 h; exact absurd h (by simp [kLoopC])
    | succ n ih => intro uM x1 h; exact B72  (kLoopC n (fun q nx72 => fX5_record_c72 q.1 q.2 nx72)) ih uM x1 h
  have B31 : ∀ (nx31 : KM × Int32 → Option (KM)) (hn31 : ∀ (uM : KM) (x1 : Int32), nx31 (uM, x1) = some res → ∀ (H : Heap) (locs : List Loc) (ls : Array Slot), va_P D vwCl (wM ty adM uM) H → va_D A (wM ty adM uM) → va_S A s.heap H locs → lv_has ls 2 [(0, .ref (adM 0)), (1, .int x1)] → W p l e (headSpec wsX5_record { frames := 0, cells := 0, slots := 0, locals := 0 }).room s m ([.ref (adM 0)] : List Value).toArray below meth c H locs 0 0 Q (F0 m 31 ls [])) (uM : KM) (x1 : Int32), fX5_record_c31 uM x1 nx31 = some res → ∀ (H : Heap) (locs : List Loc) (ls : Array Slot), va_P D vwCl (wM ty adM uM) H → va_D A (wM ty adM uM) → va_S A s.heap H locs → lv_has ls 2 [(0, .ref (adM 0)), (1, .int x1)] → W p l e (headSpec wsX5_record { frames := 0, cells := 0, slots := 0, locals := 0 }).room s m ([.ref (adM 0)] : List Value).toArray below meth c H locs 0 0 Q (F0 m 31 ls []) := by
    intro  nx31 hn31 uM x1 h H locs ls hP hD hS hl
    unfold fX5_record_c31 at h
    refine lv_iload_n hx hb dX5_record_31 rfl (lv_at hl 1 rfl) ?_
    refine lv_sipush (v := 1064) hx hb dX5_record_32 (by decide) ?_
    refine lv_icmp_ge (tgt := 60) hx hb dX5_record_35 (by decide) (fun c35 => ?_) (fun c35 => ?_)
    · have h := kT h c35
      refine lv_aload_n hx hb dX5_record_60 rfl (lv_at hl 0 rfl) ?_
      refine lv_dup hx hb dX5_record_61 rfl ?_
      refine va_get (D := D) (ci := 5) (v := .int uM.2.1) (C := RX5) (T := TX5) (N := 12) hx hb hts hinX5 hown hK.1 hP 0 rfl rfl 3 (by decide) wf0 (fun _ h9 => h9) rfl dX5_record_62 ?_
      refine lv_iconst (v := 1) hx hb dX5_record_65 (by decide) ?_
      refine lv_isub hx hb dX5_record_66 ?_
      refine va_put (D := D) (ci := 5) (v := .int (uM.2.1 - (1 : Int32))) (ty := .int) (C := RX5) (T := TX5) (N := 12) hx hb hts hinX5 tyX5 tyX5_ok nmX5 hown hK.1 hP hD hS 0 rfl rfl 3 (by decide) wf0 (fun _ h9 => h9) rfl (by decide +kernel) rfl rfl (Nat.le_of_ble_eq_true rfl) dX5_record_67 (fun H locs hP hD hS => ?_)
      have hP : va_P D vwCl (wM ty adM (uM.1, (uM.2.1 - (1 : Int32)), uM.2.2)) H := hP
      have hD : va_D A (wM ty adM (uM.1, (uM.2.1 - (1 : Int32)), uM.2.2)) := hD
      refine lv_iconst (v := 0) hx hb dX5_record_70 (by decide) ?_
      refine lv_istore_n (lv' := [(1, .int (0 : Int32)), (0, .ref (adM 0))]) hx hb dX5_record_71 rfl hl (by decide) rfl (fun ls hl => ?_)
      exact L72   kFu (uM.1, (uM.2.1 - (1 : Int32)), uM.2.2) (0 : Int32) h H locs ls hP hD hS (lv_sub hl [1, 0] rfl)
    · have h := kF h c35
      refine lv_aload_n hx hb dX5_record_38 rfl (lv_at hl 0 rfl) ?_
      refine va_get (D := D) (ci := 5) (v := .ref (adM 2)) (C := RX5) (T := TX5) (N := 12) hx hb hts hinX5 hown hK.1 hP 0 rfl rfl 2 (by decide) wf2 (fun _ h9 => h9) rfl dX5_record_39 ?_
      refine lv_iload_n hx hb dX5_record_42 rfl (lv_at hl 1 rfl) ?_
      refine lv_sipush (v := 133) hx hb dX5_record_43 (by decide) ?_
      refine lv_isub hx hb dX5_record_46 ?_
      refine lv_aload_n hx hb dX5_record_47 rfl (lv_at hl 0 rfl) ?_
      refine va_get (D := D) (ci := 5) (v := .ref (adM 2)) (C := RX5) (T := TX5) (N := 12) hx hb hts hinX5 hown hK.1 hP 0 rfl rfl 2 (by decide) wf2 (fun _ h9 => h9) rfl dX5_record_48 ?_
      refine lv_iload_n hx hb dX5_record_51 rfl (lv_at hl 1 rfl) ?_
      obtain ⟨b52, h⟩ := kIf h
      refine va_iald (f := uM.2.2.2.2.2.2.2.1) (n := 1064) hx hb hK.1 hP 2 0 rfl rfl (kIn_ok b52) dX5_record_52 ?_
      obtain ⟨b53, h⟩ := kIf h
      refine va_iast (f := uM.2.2.2.2.2.2.2.1) (n := 1064) hx hb hK.1 hP hD hS 2 0 rfl rfl (kIn_ok b53) dX5_record_53 (fun H locs hP hD hS => ?_)
      have hP : va_P D vwCl (wM ty adM (uM.1, uM.2.1, uM.2.2.1, uM.2.2.2.1, uM.2.2.2.2.1, uM.2.2.2.2.2.1, uM.2.2.2.2.2.2.1, (upd uM.2.2.2.2.2.2.2.1 (x1 - (133 : Int32)).toNatClampNeg (uM.2.2.2.2.2.2.2.1 x1.toNatClampNeg)), uM.2.2.2.2.2.2.2.2)) H := hP
      have hD : va_D A (wM ty adM (uM.1, uM.2.1, uM.2.2.1, uM.2.2.2.1, uM.2.2.2.2.1, uM.2.2.2.2.2.1, uM.2.2.2.2.2.2.1, (upd uM.2.2.2.2.2.2.2.1 (x1 - (133 : Int32)).toNatClampNeg (uM.2.2.2.2.2.2.2.1 x1.toNatClampNeg)), uM.2.2.2.2.2.2.2.2)) := hD
      refine lv_iinc (v := (x1 + 1)) (lv' := [(1, .int (x1 + 1)), (0, .ref (adM 0))]) hx hb dX5_record_54 hl (k := 1) rfl rfl (by decide) rfl (fun ls hl => ?_)
      refine lv_goto (tgt := 31) hx hb dX5_record_57 (by decide) ?_
      exact hn31 (uM.1, uM.2.1, uM.2.2.1, uM.2.2.2.1, uM.2.2.2.2.1, uM.2.2.2.2.2.1, uM.2.2.2.2.2.2.1, (upd uM.2.2.2.2.2.2.2.1 (x1 - (133 : Int32)).toNatClampNeg (uM.2.2.2.2.2.2.2.1 x1.toNatClampNeg)), uM.2.2.2.2.2.2.2.2) (x1 + 1) h H locs ls hP hD hS (lv_sub hl [1, 0] rfl)
  have L31 : ∀  (n : Nat) (uM : KM) (x1 : Int32), kLoopC n (fun q nx31 => fX5_record_c31 q.1 q.2 nx31) (uM, x1) = some res → ∀ (H : Heap) (locs : List Loc) (ls : Array Slot), va_P D vwCl (wM ty adM uM) H → va_D A (wM ty adM uM) → va_S A s.heap H locs → lv_has ls 2 [(0, .ref (adM 0)), (1, .int x1)] → W p l e (headSpec wsX5_record { frames := 0, cells := 0, slots := 0, locals := 0 }).room s m ([.ref (adM 0)] : List Value).toArray below meth c H locs 0 0 Q (F0 m 31 ls []) := by
    intro  n
    induction n with
    | zero => intro uM x1 h; exact absurd h (by simp [kLoopC])
    | succ n ih => intro uM x1 h; exact B31  (kLoopC n (fun q nx31 => fX5_record_c31 q.1 q.2 nx31)) ih uM x1 h
  have hl := lv_entry ([.ref (adM 0)]) (n := 2) (Nat.le_of_ble_eq_true rfl)
  rw [lg_entry_eq]
  generalize (lg_sl ([.ref (adM 0)]) ++ List.replicate (2 - (lg_sl ([.ref (adM 0)])).length) Slot.unset).toArray = ls at hl ⊢
  have hl : lv_has ls 2 [(0, .ref (adM 0))] := hl
  unfold fX5_record at h
  have E0 : ∀ (H : Heap) (locs : List Loc) (ls : Array Slot), va_P D vwCl (wM ty adM vM) H → va_D A (wM ty adM vM) → va_S A s.heap H locs → lv_has ls 2 [(0, .ref (adM 0))] → W p l e (headSpec wsX5_record { frames := 0, cells := 0, slots := 0, locals := 0 }).room s m ([.ref (adM 0)] : List Value).toArray below meth c H locs 0 0 Q (F0 m 0 ls []) := by
    intro H locs ls hP hD hS hl
    refine lv_aload_n hx hb dX5_record_0 rfl (lv_at hl 0 rfl) ?_
    refine va_get (D := D) (ci := 5) (v := .int vM.2.2.1) (C := RX5) (T := TX5) (N := 12) hx hb hts hinX5 hown hK.1 hP 0 rfl rfl 4 (by decide) wf4 (fun _ h9 => h9) rfl dX5_record_1 ?_
    refine lv_if_eq (tgt := 8) hx hb dX5_record_4 (by decide) (fun c4 => ?_) (fun c4 => ?_)
    · have h := kT h c4
      refine lv_aload_n hx hb dX5_record_8 rfl (lv_at hl 0 rfl) ?_
      refine lv_dup hx hb dX5_record_9 rfl ?_
      refine va_get (D := D) (ci := 5) (v := .int vM.1) (C := RX5) (T := TX5) (N := 12) hx hb hts hinX5 hown hK.1 hP 0 rfl rfl 1 (by decide) wf5 (fun _ h9 => h9) rfl dX5_record_10 ?_
      refine lv_iconst (v := 1) hx hb dX5_record_13 (by decide) ?_
      refine lv_iadd hx hb dX5_record_14 ?_
      refine va_put (D := D) (ci := 5) (v := .int (vM.1 + (1 : Int32))) (ty := .int) (C := RX5) (T := TX5) (N := 12) hx hb hts hinX5 tyX5 tyX5_ok nmX5 hown hK.1 hP hD hS 0 rfl rfl 1 (by decide) wf5 (fun _ h9 => h9) rfl (by decide +kernel) rfl rfl (Nat.le_of_ble_eq_true rfl) dX5_record_15 (fun H locs hP hD hS => ?_)
      have hP : va_P D vwCl (wM ty adM ((vM.1 + (1 : Int32)), vM.2)) H := hP
      have hD : va_D A (wM ty adM ((vM.1 + (1 : Int32)), vM.2)) := hD
      refine lv_aload_n hx hb dX5_record_18 rfl (lv_at hl 0 rfl) ?_
      refine va_get (D := D) (ci := 5) (v := .int vM.2.1) (C := RX5) (T := TX5) (N := 12) hx hb hts hinX5 hown hK.1 hP 0 rfl rfl 3 (by decide) wf0 (fun _ h9 => h9) rfl dX5_record_19 ?_
      refine lv_bipush (v := 8) hx hb dX5_record_22 (by decide) ?_
      refine lv_icmp_ne (tgt := 70) hx hb dX5_record_24 (by decide) (fun c24 => ?_) (fun c24 => ?_)
      · have h := kT h c24
        refine lv_iconst (v := 0) hx hb dX5_record_70 (by decide) ?_
        refine lv_istore_n (lv' := [(1, .int (0 : Int32)), (0, .ref (adM 0))]) hx hb dX5_record_71 rfl hl (by decide) rfl (fun ls hl => ?_)
        exact L72   kFu ((vM.1 + (1 : Int32)), vM.2) (0 : Int32) h H locs ls hP hD hS (lv_sub hl [1, 0] rfl)
      · have h := kF h (fun z => z c24)
        refine lv_sipush (v := 133) hx hb dX5_record_27 (by decide) ?_
        refine lv_istore_n (lv' := [(1, .int (133 : Int32)), (0, .ref (adM 0))]) hx hb dX5_record_30 rfl hl (by decide) rfl (fun ls hl => ?_)
        exact L31   kFu ((vM.1 + (1 : Int32)), vM.2) (133 : Int32) h H locs ls hP hD hS (lv_sub hl [1, 0] rfl)
    · have h := kF h c4
      obtain rfl := Option.some.inj h
      subst hQ
      exact W.vret hx hb hr (fun t ht hW => ⟨⟨(), rfl, trivial, kEnd ht hP⟩, hS.F ht⟩) hS.2.2 dX5_record_7
  exact E0 s.heap [] ls hP hD hS hl
def fX5_undo_c22 (uM : KM) (x1 : Int32) (nx22 : KM × Int32 → Option (Int32 × KM)) : Option (Int32 × KM) := if (133 : Int32) ≤ x1 then (some (uM.2.1, uM)) else (if kIn (((133 : Int32) * uM.2.1) + x1) 1064 = true then (if kIn x1 133 = true then (nx22 ((uM.1, uM.2.1, uM.2.2.1, uM.2.2.2.1, uM.2.2.2.2.1, uM.2.2.2.2.2.1, (upd uM.2.2.2.2.2.2.1 x1.toNatClampNeg (uM.2.2.2.2.2.2.2.1 (((133 : Int32) * uM.2.1) + x1).toNatClampNeg)), uM.2.2.2.2.2.2.2), (x1 + 1))) else none) else none)
def fX5_undo (vM : KM) : Option (Int32 × KM) := if ¬ vM.2.1 = (0 : Int32) then (kLoopC kFu (fun q nx22 => fX5_undo_c22 q.1 q.2 nx22) ((vM.1, (vM.2.1 - (1 : Int32)), vM.2.2), (0 : Int32))) else (some ((-1000000005 : Int32), vM))
set_option maxHeartbeats 4000000 in
set_option maxRecDepth 100000 in
theorem cX5_undo_ok (l : Launch) (D : va_G) (ty : kTy) (adM : Nat → Nat) (sz : Nat) (vM : KM) (res : Int32 × KM) (h : fX5_undo vM = some res) : kMI l yX5_undo wsX5_undo { frames := 0, cells := 0, slots := 0, locals := 0 } [.ref (adM 0)] D ty (wM ty adM vM) sz res.1 (wM ty adM res.2) := by
  refine Met.ofW (cc := cX5_undo) (maxL := 2) (ret := (some .int)) (by decide) rfl ?_
  intro p e s m args below meth c s₁ B hml hv
  obtain ⟨rfl, hsz, hP, hK, hD0⟩ := hv
  have hx := B.exec
  have hb := B.bytes
  have hr := B.returns
  have hts := atoms_spec (ws := wsX5_undo) B.pre
  have hown : s.vm.findClass RX5 = some m.cls := findClass_of_methodNamed B.named
  have hlocks := B.notSynchronized
  subst hsz
  have hD := hD0.self (sz := s.heap.size)
  generalize hAe : va_A (wM ty adM vM) s.heap.size = A at hD ⊢
  have hA : ∀ q : Nat, s.heap.size ≤ q → A q := fun q h => by rw [← hAe]; exact Or.inr h
  have hS : va_S A s.heap s.heap [] := va_S.rf
  refine kGenW (fun Q hQ => ?_)
  have wf0 := hts (.fieldLink RX5 46 "IceCoreDaterModel" "recorded" "I") (by decide +kernel)
  have hinX5 : ∀ w ∈ wsX50, w ∈ wsX5_undo := by decide +kernel
  have wf2 := hts (.fieldLink RX5 7 "IceCoreDaterModel" "now" "[I") (by decide +kernel)
  have wf3 := hts (.fieldLink RX5 13 "IceCoreDaterModel" "past" "[I") (by decide +kernel)
  have wf4 := hts (.constant RX5 22 (-1000000005)) (by decide +kernel)
  have B22 : ∀ (nx22 : KM × Int32 → Option (Int32 × KM)) (hn22 : ∀ (uM : KM) (x1 : Int32), nx22 (uM, x1) = some res → ∀ (H : Heap) (locs : List Loc) (ls : Array Slot), va_P D vwCl (wM ty adM uM) H → va_D A (wM ty adM uM) → va_S A s.heap H locs → lv_has ls 2 [(0, .ref (adM 0)), (1, .int x1)] → W p l e (headSpec wsX5_undo { frames := 0, cells := 0, slots := 0, locals := 0 }).room s m ([.ref (adM 0)] : List Value).toArray below meth c H locs 0 0 Q (F0 m 22 ls [])) (uM : KM) (x1 : Int32), fX5_undo_c22 uM x1 nx22 = some res → ∀ (H : Heap) (locs : List Loc) (ls : Array Slot), va_P D vwCl (wM ty adM uM) H → va_D A (wM ty adM uM) → va_S A s.heap H locs → lv_has ls 2 [(0, .ref (adM 0)), (1, .int x1)] → W p l e (headSpec wsX5_undo { frames := 0, cells := 0, slots := 0, locals := 0 }).room s m ([.ref (adM 0)] : List Value).toArray below meth c H locs 0 0 Q (F0 m 22 ls []) := by
    intro  nx22 hn22 uM x1 h H locs ls hP hD hS hl
    unfold fX5_undo_c22 at h
    refine lv_iload_n hx hb dX5_undo_22 rfl (lv_at hl 1 rfl) ?_
    refine lv_sipush (v := 133) hx hb dX5_undo_23 (by decide) ?_
    refine lv_icmp_ge (tgt := 56) hx hb dX5_undo_26 (by decide) (fun c26 => ?_) (fun c26 => ?_)
    · have h := kT h c26
      refine lv_aload_n hx hb dX5_undo_56 rfl (lv_at hl 0 rfl) ?_
      refine va_get (D := D) (ci := 5) (v := .int uM.2.1) (C := RX5) (T := TX5) (N := 12) hx hb hts hinX5 hown hK.1 hP 0 rfl rfl 3 (by decide) wf0 (fun _ h9 => h9) rfl dX5_undo_57 ?_
      obtain rfl := Option.some.inj h
      subst hQ
      exact W.iret (v := uM.2.1) hx hb hr (fun t ht hW => ⟨⟨uM.2.1, (), rfl, rfl, kEnd ht hP⟩, hS.F ht⟩) hS.2.2 dX5_undo_60
    · have h := kF h c26
      refine lv_aload_n hx hb dX5_undo_29 rfl (lv_at hl 0 rfl) ?_
      refine va_get (D := D) (ci := 5) (v := .ref (adM 1)) (C := RX5) (T := TX5) (N := 12) hx hb hts hinX5 hown hK.1 hP 0 rfl rfl 0 (by decide) wf2 (fun _ h9 => h9) rfl dX5_undo_30 ?_
      refine lv_iload_n hx hb dX5_undo_33 rfl (lv_at hl 1 rfl) ?_
      refine lv_aload_n hx hb dX5_undo_34 rfl (lv_at hl 0 rfl) ?_
      refine va_get (D := D) (ci := 5) (v := .ref (adM 2)) (C := RX5) (T := TX5) (N := 12) hx hb hts hinX5 hown hK.1 hP 0 rfl rfl 2 (by decide) wf3 (fun _ h9 => h9) rfl dX5_undo_35 ?_
      refine lv_sipush (v := 133) hx hb dX5_undo_38 (by decide) ?_
      refine lv_aload_n hx hb dX5_undo_41 rfl (lv_at hl 0 rfl) ?_
      refine va_get (D := D) (ci := 5) (v := .int uM.2.1) (C := RX5) (T := TX5) (N := 12) hx hb hts hinX5 hown hK.1 hP 0 rfl rfl 3 (by decide) wf0 (fun _ h9 => h9) rfl dX5_undo_42 ?_
      refine lv_imul hx hb dX5_undo_45 ?_
      refine lv_iload_n hx hb dX5_undo_46 rfl (lv_at hl 1 rfl) ?_
      refine lv_iadd hx hb dX5_undo_47 ?_
      obtain ⟨b48, h⟩ := kIf h
      refine va_iald (f := uM.2.2.2.2.2.2.2.1) (n := 1064) hx hb hK.1 hP 2 0 rfl rfl (kIn_ok b48) dX5_undo_48 ?_
      obtain ⟨b49, h⟩ := kIf h
      refine va_iast (f := uM.2.2.2.2.2.2.1) (n := 133) hx hb hK.1 hP hD hS 1 0 rfl rfl (kIn_ok b49) dX5_undo_49 (fun H locs hP hD hS => ?_)
      have hP : va_P D vwCl (wM ty adM (uM.1, uM.2.1, uM.2.2.1, uM.2.2.2.1, uM.2.2.2.2.1, uM.2.2.2.2.2.1, (upd uM.2.2.2.2.2.2.1 x1.toNatClampNeg (uM.2.2.2.2.2.2.2.1 (((133 : Int32) * uM.2.1) + x1).toNatClampNeg)), uM.2.2.2.2.2.2.2)) H := hP
      have hD : va_D A (wM ty adM (uM.1, uM.2.1, uM.2.2.1, uM.2.2.2.1, uM.2.2.2.2.1, uM.2.2.2.2.2.1, (upd uM.2.2.2.2.2.2.1 x1.toNatClampNeg (uM.2.2.2.2.2.2.2.1 (((133 : Int32) * uM.2.1) + x1).toNatClampNeg)), uM.2.2.2.2.2.2.2)) := hD
      refine lv_iinc (v := (x1 + 1)) (lv' := [(1, .int (x1 + 1)), (0, .ref (adM 0))]) hx hb dX5_undo_50 hl (k := 1) rfl rfl (by decide) rfl (fun ls hl => ?_)
      refine lv_goto (tgt := 22) hx hb dX5_undo_53 (by decide) ?_
      exact hn22 (uM.1, uM.2.1, uM.2.2.1, uM.2.2.2.1, uM.2.2.2.2.1, uM.2.2.2.2.2.1, (upd uM.2.2.2.2.2.2.1 x1.toNatClampNeg (uM.2.2.2.2.2.2.2.1 (((133 : Int32) * uM.2.1) + x1).toNatClampNeg)), uM.2.2.2.2.2.2.2) (x1 + 1) h H locs ls hP hD hS (lv_sub hl [1, 0] rfl)
  have L22 : ∀  (n : Nat) (uM : KM) (x1 : Int32), kLoopC n (fun q nx22 => fX5_undo_c22 q.1 q.2 nx22) (uM, x1) = some res → ∀ (H : Heap) (locs : List Loc) (ls : Array Slot), va_P D vwCl (wM ty adM uM) H → va_D A (wM ty adM uM) → va_S A s.heap H locs → lv_has ls 2 [(0, .ref (adM 0)), (1, .int x1)] → W p l e (headSpec wsX5_undo { frames := 0, cells := 0, slots := 0, locals := 0 }).room s m ([.ref (adM 0)] : List Value).toArray below meth c H locs 0 0 Q (F0 m 22 ls []) := by
    intro  n
    induction n with
    | zero => intro uM x1 h; exact absurd h (by simp [kLoopC])
    | succ n ih => intro uM x1 h; exact B22  (kLoopC n (fun q nx22 => fX5_undo_c22 q.1 q.2 nx22)) ih uM x1 h
  have hl := lv_entry ([.ref (adM 0)]) (n := 2) (Nat.le_of_ble_eq_true rfl)
  rw [lg_entry_eq]
  generalize (lg_sl ([.ref (adM 0)]) ++ List.replicate (2 - (lg_sl ([.ref (adM 0)])).length) Slot.unset).toArray = ls at hl ⊢
  have hl : lv_has ls 2 [(0, .ref (adM 0))] := hl
  unfold fX5_undo at h
  have E0 : ∀ (H : Heap) (locs : List Loc) (ls : Array Slot), va_P D vwCl (wM ty adM vM) H → va_D A (wM ty adM vM) → va_S A s.heap H locs → lv_has ls 2 [(0, .ref (adM 0))] → W p l e (headSpec wsX5_undo { frames := 0, cells := 0, slots := 0, locals := 0 }).room s m ([.ref (adM 0)] : List Value).toArray below meth c H locs 0 0 Q (F0 m 0 ls []) := by
    intro H locs ls hP hD hS hl
    refine lv_aload_n hx hb dX5_undo_0 rfl (lv_at hl 0 rfl) ?_
    refine va_get (D := D) (ci := 5) (v := .int vM.2.1) (C := RX5) (T := TX5) (N := 12) hx hb hts hinX5 hown hK.1 hP 0 rfl rfl 3 (by decide) wf0 (fun _ h9 => h9) rfl dX5_undo_1 ?_
    refine lv_if_ne (tgt := 10) hx hb dX5_undo_4 (by decide) (fun c4 => ?_) (fun c4 => ?_)
    · have h := kT h c4
      refine lv_aload_n hx hb dX5_undo_10 rfl (lv_at hl 0 rfl) ?_
      refine lv_dup hx hb dX5_undo_11 rfl ?_
      refine va_get (D := D) (ci := 5) (v := .int vM.2.1) (C := RX5) (T := TX5) (N := 12) hx hb hts hinX5 hown hK.1 hP 0 rfl rfl 3 (by decide) wf0 (fun _ h9 => h9) rfl dX5_undo_12 ?_
      refine lv_iconst (v := 1) hx hb dX5_undo_15 (by decide) ?_
      refine lv_isub hx hb dX5_undo_16 ?_
      refine va_put (D := D) (ci := 5) (v := .int (vM.2.1 - (1 : Int32))) (ty := .int) (C := RX5) (T := TX5) (N := 12) hx hb hts hinX5 tyX5 tyX5_ok nmX5 hown hK.1 hP hD hS 0 rfl rfl 3 (by decide) wf0 (fun _ h9 => h9) rfl (by decide +kernel) rfl rfl (Nat.le_of_ble_eq_true rfl) dX5_undo_17 (fun H locs hP hD hS => ?_)
      have hP : va_P D vwCl (wM ty adM (vM.1, (vM.2.1 - (1 : Int32)), vM.2.2)) H := hP
      have hD : va_D A (wM ty adM (vM.1, (vM.2.1 - (1 : Int32)), vM.2.2)) := hD
      refine lv_iconst (v := 0) hx hb dX5_undo_20 (by decide) ?_
      refine lv_istore_n (lv' := [(1, .int (0 : Int32)), (0, .ref (adM 0))]) hx hb dX5_undo_21 rfl hl (by decide) rfl (fun ls hl => ?_)
      exact L22   kFu (vM.1, (vM.2.1 - (1 : Int32)), vM.2.2) (0 : Int32) h H locs ls hP hD hS (lv_sub hl [1, 0] rfl)
    · have h := kF h (fun z => z c4)
      refine lv_ldc hx hb hown wf4 dX5_undo_7 ?_
      obtain rfl := Option.some.inj h
      subst hQ
      exact W.iret (v := (-1000000005 : Int32)) hx hb hr (fun t ht hW => ⟨⟨(-1000000005 : Int32), (), rfl, rfl, kEnd ht hP⟩, hS.F ht⟩) hS.2.2 dX5_undo_9
  exact E0 s.heap [] ls hP hD hS hl
def fX5_top_c4 (vM : KM) (x1 : Int32) (x2 : Int32) (x3 : Int32) (nx4 : Int32 × Int32 → Option (Int32)) : Option (Int32) := if x1 ≤ x3 then some x2 else ((fX5_of vM x3 (5 : Int32)).bind fun r13 => nx4 ((x2 + r13), (x3 + 1)))
def fX5_top (vM : KM) (p1 : Int32) : Option (Int32) := kLoopC kFu (fun q nx4 => fX5_top_c4 vM p1 q.1 q.2 nx4) ((0 : Int32), (0 : Int32))
set_option maxHeartbeats 4000000 in
set_option maxRecDepth 100000 in
theorem cX5_top_ok (l : Launch) (D : va_G) (ty : kTy) (adM : Nat → Nat) (sz : Nat) (vM : KM) (p1 : Int32) (res : Int32) (h : fX5_top vM p1 = some res) : kMI l yX5_top wsX5_top { frames := 1, cells := 0, slots := 0, locals := 22 } [.ref (adM 0), .int p1] D ty (wM ty adM vM) sz res (wM ty adM vM) := by
  refine Met.ofW (cc := cX5_top) (maxL := 4) (ret := (some .int)) (by decide) rfl ?_
  intro p e s m args below meth c s₁ B hml hv
  obtain ⟨rfl, hsz, hP, hK, hD0⟩ := hv
  have hx := B.exec
  have hb := B.bytes
  have hr := B.returns
  have hts := atoms_spec (ws := wsX5_top) B.pre
  have hown : s.vm.findClass RX5 = some m.cls := findClass_of_methodNamed B.named
  have hlocks := B.notSynchronized
  subst hsz
  have hD := hD0.self (sz := s.heap.size)
  generalize hAe : va_A (wM ty adM vM) s.heap.size = A at hD ⊢
  have hA : ∀ q : Nat, s.heap.size ≤ q → A q := fun q h => by rw [← hAe]; exact Or.inr h
  have hS : va_S A s.heap s.heap [] := va_S.rf
  refine kGenW (fun Q hQ => ?_)
  have B4 : ∀ (x1 : Int32) (nx4 : Int32 × Int32 → Option (Int32)) (hn4 : ∀ (x2 : Int32) (x3 : Int32), nx4 (x2, x3) = some res → ∀ (H : Heap) (locs : List Loc) (ls : Array Slot), va_P D vwCl (wM ty adM vM) H → va_D A (wM ty adM vM) → va_S A s.heap H locs → lv_has ls 4 [(0, .ref (adM 0)), (1, .int x1), (2, .int x2), (3, .int x3)] → W p l e (headSpec wsX5_top { frames := 1, cells := 0, slots := 0, locals := 22 }).room s m ([.ref (adM 0), .int p1] : List Value).toArray below meth c H locs 0 0 Q (F0 m 4 ls [])) (x2 : Int32) (x3 : Int32), fX5_top_c4 vM x1 x2 x3 nx4 = some res → ∀ (H : Heap) (locs : List Loc) (ls : Array Slot), va_P D vwCl (wM ty adM vM) H → va_D A (wM ty adM vM) → va_S A s.heap H locs → lv_has ls 4 [(0, .ref (adM 0)), (1, .int x1), (2, .int x2), (3, .int x3)] → W p l e (headSpec wsX5_top { frames := 1, cells := 0, slots := 0, locals := 22 }).room s m ([.ref (adM 0), .int p1] : List Value).toArray below meth c H locs 0 0 Q (F0 m 4 ls []) := by
    intro x1 nx4 hn4 x2 x3 h H locs ls hP hD hS hl
    unfold fX5_top_c4 at h
    refine lv_iload_n hx hb dX5_top_4 rfl (lv_at hl 3 rfl) ?_
    refine lv_iload_n hx hb dX5_top_5 rfl (lv_at hl 1 rfl) ?_
    refine lv_icmp_ge (tgt := 24) hx hb dX5_top_6 (by decide) (fun c6 => ?_) (fun c6 => ?_)
    · have h := kT h c6
      refine lv_iload_n hx hb dX5_top_24 rfl (lv_at hl 2 rfl) ?_
      obtain rfl := Option.some.inj h
      subst hQ
      exact W.iret (v := x2) hx hb hr (fun t ht hW => ⟨⟨x2, (), rfl, rfl, kEnd ht hP⟩, hS.F ht⟩) hS.2.2 dX5_top_25
    · have h := kF h c6
      refine lv_iload_n hx hb dX5_top_9 rfl (lv_at hl 2 rfl) ?_
      refine lv_aload_n hx hb dX5_top_10 rfl (lv_at hl 0 rfl) ?_
      refine lv_iload_n hx hb dX5_top_11 rfl (lv_at hl 3 rfl) ?_
      refine lv_iconst (v := 5) hx hb dX5_top_12 (by decide) ?_
      obtain ⟨r13, e13, h⟩ := kBd h
      refine kCallVI (As := [.int x3, .int (5 : Int32)]) (rest := [.int x2]) (wc := wM ty adM vM) (w1 := wM ty adM vM) (wn := wM ty adM vM) ⟨hx, hb, hml, hown, hts⟩ (cX5_of_ok l D ty adM H.size vM x3 (5 : Int32) r13 e13) (cwV 2 hts gX5_top_X5_of rfl rfl rfl (by decide +kernel) ⟨Nat.le_of_ble_eq_true rfl, Nat.le_of_ble_eq_true rfl⟩) hP hK hD hS hA [0, 1, 2, 3, 4, 5, 6] (by decide) rfl 5 0 rfl rfl rfl rfl hl.1 rfl (Nat.le_of_ble_eq_true rfl) dX5_top_13 ⟨Nat.le_of_ble_eq_true rfl, Nat.le_of_ble_eq_true rfl⟩ rfl rfl (fun H locs hP hD hS => ?_)
      refine lv_iadd hx hb dX5_top_16 ?_
      refine lv_istore_n (lv' := [(2, .int (x2 + r13)), (0, .ref (adM 0)), (1, .int x1), (3, .int x3)]) hx hb dX5_top_17 rfl hl (by decide) rfl (fun ls hl => ?_)
      refine lv_iinc (v := (x3 + 1)) (lv' := [(3, .int (x3 + 1)), (2, .int (x2 + r13)), (0, .ref (adM 0)), (1, .int x1)]) hx hb dX5_top_18 hl (k := 3) rfl rfl (by decide) rfl (fun ls hl => ?_)
      refine lv_goto (tgt := 4) hx hb dX5_top_21 (by decide) ?_
      exact hn4 (x2 + r13) (x3 + 1) h H locs ls hP hD hS (lv_sub hl [2, 3, 1, 0] rfl)
  have L4 : ∀ (x1 : Int32) (n : Nat) (x2 : Int32) (x3 : Int32), kLoopC n (fun q nx4 => fX5_top_c4 vM x1 q.1 q.2 nx4) (x2, x3) = some res → ∀ (H : Heap) (locs : List Loc) (ls : Array Slot), va_P D vwCl (wM ty adM vM) H → va_D A (wM ty adM vM) → va_S A s.heap H locs → lv_has ls 4 [(0, .ref (adM 0)), (1, .int x1), (2, .int x2), (3, .int x3)] → W p l e (headSpec wsX5_top { frames := 1, cells := 0, slots := 0, locals := 22 }).room s m ([.ref (adM 0), .int p1] : List Value).toArray below meth c H locs 0 0 Q (F0 m 4 ls []) := by
    intro x1 n
    induction n with
    | zero => intro x2 x3 h; exact absurd h (by simp [kLoopC])
    | succ n ih => intro x2 x3 h; exact B4 x1 (kLoopC n (fun q nx4 => fX5_top_c4 vM x1 q.1 q.2 nx4)) ih x2 x3 h
  have hl := lv_entry ([.ref (adM 0), .int p1]) (n := 4) (Nat.le_of_ble_eq_true rfl)
  rw [lg_entry_eq]
  generalize (lg_sl ([.ref (adM 0), .int p1]) ++ List.replicate (4 - (lg_sl ([.ref (adM 0), .int p1])).length) Slot.unset).toArray = ls at hl ⊢
  have hl : lv_has ls 4 [(0, .ref (adM 0)), (1, .int p1)] := hl
  unfold fX5_top at h
  have E0 : ∀ (H : Heap) (locs : List Loc) (ls : Array Slot), va_P D vwCl (wM ty adM vM) H → va_D A (wM ty adM vM) → va_S A s.heap H locs → lv_has ls 4 [(0, .ref (adM 0)), (1, .int p1)] → W p l e (headSpec wsX5_top { frames := 1, cells := 0, slots := 0, locals := 22 }).room s m ([.ref (adM 0), .int p1] : List Value).toArray below meth c H locs 0 0 Q (F0 m 0 ls []) := by
    intro H locs ls hP hD hS hl
    refine lv_iconst (v := 0) hx hb dX5_top_0 (by decide) ?_
    refine lv_istore_n (lv' := [(2, .int (0 : Int32)), (0, .ref (adM 0)), (1, .int p1)]) hx hb dX5_top_1 rfl hl (by decide) rfl (fun ls hl => ?_)
    refine lv_iconst (v := 0) hx hb dX5_top_2 (by decide) ?_
    refine lv_istore_n (lv' := [(3, .int (0 : Int32)), (2, .int (0 : Int32)), (0, .ref (adM 0)), (1, .int p1)]) hx hb dX5_top_3 rfl hl (by decide) rfl (fun ls hl => ?_)
    exact L4 p1  kFu (0 : Int32) (0 : Int32) h H locs ls hP hD hS (lv_sub hl [2, 3, 1, 0] rfl)
  exact E0 s.heap [] ls hP hD hS hl
def fX5_thinningOf_c135 (vM : KM) (s0 : Int64) : Option (Int32) := if (10 : Int64) ≤ s0 then some s0.toInt32 else (some (10 : Int32))
def fX5_thinningOf (vM : KM) (p1 : Int32) : Option (Int32) := if kIn (2 : Int32) 133 = true then (if ¬ (vM.2.2.2.2.2.2.1 (2 : Int32).toNatClampNeg) = (2 : Int32) then (if kIn (1 : Int32) 133 = true then ((some ((vM.2.2.2.2.2.2.1 (1 : Int32).toNatClampNeg).toInt64)).bind fun y25 => (fX5_top vM p1).bind fun r29 => (fX5_of vM p1 (5 : Int32)).bind fun r37 => (some ((y25 - r29.toInt64) - (r37 / (2 : Int32)).toInt64)).bind fun y44 => if kIn (3 : Int32) 133 = true then ((some ((y25 * (vM.2.2.2.2.2.2.1 (3 : Int32).toNatClampNeg).toInt64) / (1000 : Int64))).bind fun y59 => if kIn (2 : Int32) 133 = true then (if ¬ (vM.2.2.2.2.2.2.1 (2 : Int32).toNatClampNeg) = (0 : Int32) then (if y44 < y59 then (if ¬ (y59 * (((2 : Int64) * y25) - y59)) = 0 then (fX5_thinningOf_c135 vM ((((1000 : Int64) * y44) * y44) / (y59 * (((2 : Int64) * y25) - y59)))) else none) else (if ¬ (((2 : Int64) * y25) - y59) = 0 then (fX5_thinningOf_c135 vM (((1000 : Int64) * (((2 : Int64) * y44) - y59)) / (((2 : Int64) * y25) - y59))) else none)) else (if ¬ y25 = 0 then (fX5_thinningOf_c135 vM (((1000 : Int64) * y44) / y25)) else none)) else none) else none) else none) else ((fX5_of vM p1 (8 : Int32)).bind fun r14 => some r14)) else none
set_option maxHeartbeats 4000000 in
set_option maxRecDepth 100000 in
theorem cX5_thinningOf_ok (l : Launch) (D : va_G) (ty : kTy) (adM : Nat → Nat) (sz : Nat) (vM : KM) (p1 : Int32) (res : Int32) (h : fX5_thinningOf vM p1 = some res) : kMI l yX5_thinningOf wsX5_thinningOf { frames := 2, cells := 0, slots := 0, locals := 45 } [.ref (adM 0), .int p1] D ty (wM ty adM vM) sz res (wM ty adM vM) := by
  refine Met.ofW (cc := cX5_thinningOf) (maxL := 10) (ret := (some .int)) (by decide) rfl ?_
  intro p e s m args below meth c s₁ B hml hv
  obtain ⟨rfl, hsz, hP, hK, hD0⟩ := hv
  have hx := B.exec
  have hb := B.bytes
  have hr := B.returns
  have hts := atoms_spec (ws := wsX5_thinningOf) B.pre
  have hown : s.vm.findClass RX5 = some m.cls := findClass_of_methodNamed B.named
  have hlocks := B.notSynchronized
  subst hsz
  have hD := hD0.self (sz := s.heap.size)
  generalize hAe : va_A (wM ty adM vM) s.heap.size = A at hD ⊢
  have hA : ∀ q : Nat, s.heap.size ≤ q → A q := fun q h => by rw [← hAe]; exact Or.inr h
  have hS : va_S A s.heap s.heap [] := va_S.rf
  refine kGenW (fun Q hQ => ?_)
  have wf0 := hts (.constantLong RX5 61 (10)) (by decide +kernel)
  have wf1 := hts (.fieldLink RX5 7 "IceCoreDaterModel" "now" "[I") (by decide +kernel)
  have hinX5 : ∀ w ∈ wsX50, w ∈ wsX5_thinningOf := by decide +kernel
  have wf3 := hts (.constantLong RX5 57 (1000)) (by decide +kernel)
  have wf4 := hts (.constantLong RX5 59 (2)) (by decide +kernel)
  have J135 : ∀ (s0 : Int64), fX5_thinningOf_c135 vM s0 = some res → ∀ (H : Heap) (locs : List Loc) (ls : Array Slot), va_P D vwCl (wM ty adM vM) H → va_D A (wM ty adM vM) → va_S A s.heap H locs → lv_has ls 10 [] → W p l e (headSpec wsX5_thinningOf { frames := 2, cells := 0, slots := 0, locals := 45 }).room s m ([.ref (adM 0), .int p1] : List Value).toArray below meth c H locs 0 0 Q (F0 m 135 ls [.long s0]) := by
    intro s0 h H locs ls hP hD hS hl
    unfold fX5_thinningOf_c135 at h
    refine lv_lstore (lv' := [(8, .long s0)]) hx hb dX5_thinningOf_135 hl (by decide) rfl (fun ls hl => ?_)
    refine lv_lload hx hb dX5_thinningOf_137 (lv_at hl 0 rfl) ?_
    refine lv_ldc2 hx hb hown wf0 dX5_thinningOf_139 ?_
    refine W.lcmp hx hb dX5_thinningOf_142 ?_
    refine lv_if_ge (tgt := 151) hx hb dX5_thinningOf_143 (by decide) (fun c143 => ?_) (fun c143 => ?_)
    · have h := kT h ((lg_cmp_ge _ _).mp c143)
      refine lv_lload hx hb dX5_thinningOf_151 (lv_at hl 0 rfl) ?_
      refine lv_l2i hx hb dX5_thinningOf_153 rfl ?_
      obtain rfl := Option.some.inj h
      subst hQ
      exact W.iret (v := s0.toInt32) hx hb hr (fun t ht hW => ⟨⟨s0.toInt32, (), rfl, rfl, kEnd ht hP⟩, hS.F ht⟩) hS.2.2 dX5_thinningOf_154
    · have h := kF h (fun z => c143 ((lg_cmp_ge _ _).mpr z))
      refine lv_bipush (v := 10) hx hb dX5_thinningOf_146 (by decide) ?_
      refine lv_goto (tgt := 154) hx hb dX5_thinningOf_148 (by decide) ?_
      obtain rfl := Option.some.inj h
      subst hQ
      exact W.iret (v := (10 : Int32)) hx hb hr (fun t ht hW => ⟨⟨(10 : Int32), (), rfl, rfl, kEnd ht hP⟩, hS.F ht⟩) hS.2.2 dX5_thinningOf_154
  have hl := lv_entry ([.ref (adM 0), .int p1]) (n := 10) (Nat.le_of_ble_eq_true rfl)
  rw [lg_entry_eq]
  generalize (lg_sl ([.ref (adM 0), .int p1]) ++ List.replicate (10 - (lg_sl ([.ref (adM 0), .int p1])).length) Slot.unset).toArray = ls at hl ⊢
  have hl : lv_has ls 10 [(0, .ref (adM 0)), (1, .int p1)] := hl
  unfold fX5_thinningOf at h
  have E0 : ∀ (H : Heap) (locs : List Loc) (ls : Array Slot), va_P D vwCl (wM ty adM vM) H → va_D A (wM ty adM vM) → va_S A s.heap H locs → lv_has ls 10 [(0, .ref (adM 0)), (1, .int p1)] → W p l e (headSpec wsX5_thinningOf { frames := 2, cells := 0, slots := 0, locals := 45 }).room s m ([.ref (adM 0), .int p1] : List Value).toArray below meth c H locs 0 0 Q (F0 m 0 ls []) := by
    intro H locs ls hP hD hS hl
    refine lv_aload_n hx hb dX5_thinningOf_0 rfl (lv_at hl 0 rfl) ?_
    refine va_get (D := D) (ci := 5) (v := .ref (adM 1)) (C := RX5) (T := TX5) (N := 12) hx hb hts hinX5 hown hK.1 hP 0 rfl rfl 0 (by decide) wf1 (fun _ h9 => h9) rfl dX5_thinningOf_1 ?_
    refine lv_iconst (v := 2) hx hb dX5_thinningOf_4 (by decide) ?_
    obtain ⟨b5, h⟩ := kIf h
    refine va_iald (f := vM.2.2.2.2.2.2.1) (n := 133) hx hb hK.1 hP 1 0 rfl rfl (kIn_ok b5) dX5_thinningOf_5 ?_
    refine lv_iconst (v := 2) hx hb dX5_thinningOf_6 (by decide) ?_
    refine lv_icmp_ne (tgt := 18) hx hb dX5_thinningOf_7 (by decide) (fun c7 => ?_) (fun c7 => ?_)
    · have h := kT h c7
      refine lv_aload_n hx hb dX5_thinningOf_18 rfl (lv_at hl 0 rfl) ?_
      refine va_get (D := D) (ci := 5) (v := .ref (adM 1)) (C := RX5) (T := TX5) (N := 12) hx hb hts hinX5 hown hK.1 hP 0 rfl rfl 0 (by decide) wf1 (fun _ h9 => h9) rfl dX5_thinningOf_19 ?_
      refine lv_iconst (v := 1) hx hb dX5_thinningOf_22 (by decide) ?_
      obtain ⟨b23, h⟩ := kIf h
      refine va_iald (f := vM.2.2.2.2.2.2.1) (n := 133) hx hb hK.1 hP 1 0 rfl rfl (kIn_ok b23) dX5_thinningOf_23 ?_
      refine lv_i2l hx hb dX5_thinningOf_24 rfl ?_
      refine lv_topl (fun y25 ey25 => ?_)
      have h := kBs h ey25
      refine lv_lstore_n (lv' := [(2, .long y25), (0, .ref (adM 0)), (1, .int p1)]) hx hb dX5_thinningOf_25 rfl hl (by decide) rfl (fun ls hl => ?_)
      refine lv_lload_n hx hb dX5_thinningOf_26 rfl (lv_at hl 0 rfl) ?_
      refine lv_aload_n hx hb dX5_thinningOf_27 rfl (lv_at hl 1 rfl) ?_
      refine lv_iload_n hx hb dX5_thinningOf_28 rfl (lv_at hl 2 rfl) ?_
      obtain ⟨r29, e29, h⟩ := kBd h
      refine kCallVI (As := [.int p1]) (rest := [.long y25]) (wc := wM ty adM vM) (w1 := wM ty adM vM) (wn := wM ty adM vM) ⟨hx, hb, hml, hown, hts⟩ (cX5_top_ok l D ty adM H.size vM p1 r29 e29) (cwV 1 hts gX5_thinningOf_X5_top rfl rfl rfl (by decide +kernel) ⟨Nat.le_of_ble_eq_true rfl, Nat.le_of_ble_eq_true rfl⟩) hP hK hD hS hA [0, 1, 2, 3, 4, 5, 6] (by decide) rfl 5 0 rfl rfl rfl rfl hl.1 rfl (Nat.le_of_ble_eq_true rfl) dX5_thinningOf_29 ⟨Nat.le_of_ble_eq_true rfl, Nat.le_of_ble_eq_true rfl⟩ rfl rfl (fun H locs hP hD hS => ?_)
      refine lv_i2l hx hb dX5_thinningOf_32 rfl ?_
      refine lv_lsub hx hb dX5_thinningOf_33 ?_
      refine lv_aload_n hx hb dX5_thinningOf_34 rfl (lv_at hl 1 rfl) ?_
      refine lv_iload_n hx hb dX5_thinningOf_35 rfl (lv_at hl 2 rfl) ?_
      refine lv_iconst (v := 5) hx hb dX5_thinningOf_36 (by decide) ?_
      obtain ⟨r37, e37, h⟩ := kBd h
      refine kCallVI (As := [.int p1, .int (5 : Int32)]) (rest := [.long (y25 - r29.toInt64)]) (wc := wM ty adM vM) (w1 := wM ty adM vM) (wn := wM ty adM vM) ⟨hx, hb, hml, hown, hts⟩ (cX5_of_ok l D ty adM H.size vM p1 (5 : Int32) r37 e37) (cwV 2 hts gX5_thinningOf_X5_of rfl rfl rfl (by decide +kernel) ⟨Nat.le_of_ble_eq_true rfl, Nat.le_of_ble_eq_true rfl⟩) hP hK hD hS hA [0, 1, 2, 3, 4, 5, 6] (by decide) rfl 5 0 rfl rfl rfl rfl hl.1 rfl (Nat.le_of_ble_eq_true rfl) dX5_thinningOf_37 ⟨Nat.le_of_ble_eq_true rfl, Nat.le_of_ble_eq_true rfl⟩ rfl rfl (fun H locs hP hD hS => ?_)
      refine lv_iconst (v := 2) hx hb dX5_thinningOf_40 (by decide) ?_
      refine lv_idiv hx hb dX5_thinningOf_41 (by decide) ?_
      refine lv_i2l hx hb dX5_thinningOf_42 rfl ?_
      refine lv_lsub hx hb dX5_thinningOf_43 ?_
      refine lv_topl (fun y44 ey44 => ?_)
      have h := kBs h ey44
      refine lv_lstore (lv' := [(4, .long y44), (2, .long y25), (0, .ref (adM 0)), (1, .int p1)]) hx hb dX5_thinningOf_44 hl (by decide) rfl (fun ls hl => ?_)
      refine lv_lload_n hx hb dX5_thinningOf_46 rfl (lv_at hl 1 rfl) ?_
      refine lv_aload_n hx hb dX5_thinningOf_47 rfl (lv_at hl 2 rfl) ?_
      refine va_get (D := D) (ci := 5) (v := .ref (adM 1)) (C := RX5) (T := TX5) (N := 12) hx hb hts hinX5 hown hK.1 hP 0 rfl rfl 0 (by decide) wf1 (fun _ h9 => h9) rfl dX5_thinningOf_48 ?_
      refine lv_iconst (v := 3) hx hb dX5_thinningOf_51 (by decide) ?_
      obtain ⟨b52, h⟩ := kIf h
      refine va_iald (f := vM.2.2.2.2.2.2.1) (n := 133) hx hb hK.1 hP 1 0 rfl rfl (kIn_ok b52) dX5_thinningOf_52 ?_
      refine lv_i2l hx hb dX5_thinningOf_53 rfl ?_
      refine lv_lmul hx hb dX5_thinningOf_54 ?_
      refine lv_ldc2 hx hb hown wf3 dX5_thinningOf_55 ?_
      refine lv_ldiv hx hb dX5_thinningOf_58 (by decide) ?_
      refine lv_topl (fun y59 ey59 => ?_)
      have h := kBs h ey59
      refine lv_lstore (lv' := [(6, .long y59), (4, .long y44), (2, .long y25), (0, .ref (adM 0)), (1, .int p1)]) hx hb dX5_thinningOf_59 hl (by decide) rfl (fun ls hl => ?_)
      refine lv_aload_n hx hb dX5_thinningOf_61 rfl (lv_at hl 3 rfl) ?_
      refine va_get (D := D) (ci := 5) (v := .ref (adM 1)) (C := RX5) (T := TX5) (N := 12) hx hb hts hinX5 hown hK.1 hP 0 rfl rfl 0 (by decide) wf1 (fun _ h9 => h9) rfl dX5_thinningOf_62 ?_
      refine lv_iconst (v := 2) hx hb dX5_thinningOf_65 (by decide) ?_
      obtain ⟨b66, h⟩ := kIf h
      refine va_iald (f := vM.2.2.2.2.2.2.1) (n := 133) hx hb hK.1 hP 1 0 rfl rfl (kIn_ok b66) dX5_thinningOf_66 ?_
      refine lv_if_ne (tgt := 81) hx hb dX5_thinningOf_67 (by decide) (fun c67 => ?_) (fun c67 => ?_)
      · have h := kT h c67
        refine lv_lload hx hb dX5_thinningOf_81 (lv_at hl 1 rfl) ?_
        refine lv_lload hx hb dX5_thinningOf_83 (lv_at hl 0 rfl) ?_
        refine W.lcmp hx hb dX5_thinningOf_85 ?_
        refine lv_if_lt (tgt := 114) hx hb dX5_thinningOf_86 (by decide) (fun c86 => ?_) (fun c86 => ?_)
        · have h := kT h ((lg_cmp_lt _ _).mp c86)
          refine lv_ldc2 hx hb hown wf3 dX5_thinningOf_114 ?_
          refine lv_lload hx hb dX5_thinningOf_117 (lv_at hl 1 rfl) ?_
          refine lv_lmul hx hb dX5_thinningOf_119 ?_
          refine lv_lload hx hb dX5_thinningOf_120 (lv_at hl 1 rfl) ?_
          refine lv_lmul hx hb dX5_thinningOf_122 ?_
          refine lv_lload hx hb dX5_thinningOf_123 (lv_at hl 0 rfl) ?_
          refine lv_ldc2 hx hb hown wf4 dX5_thinningOf_125 ?_
          refine lv_lload_n hx hb dX5_thinningOf_128 rfl (lv_at hl 2 rfl) ?_
          refine lv_lmul hx hb dX5_thinningOf_129 ?_
          refine lv_lload hx hb dX5_thinningOf_130 (lv_at hl 0 rfl) ?_
          refine lv_lsub hx hb dX5_thinningOf_132 ?_
          refine lv_lmul hx hb dX5_thinningOf_133 ?_
          obtain ⟨b134, h⟩ := kIf h
          refine lv_ldiv hx hb dX5_thinningOf_134 b134 ?_
          exact J135 ((((1000 : Int64) * y44) * y44) / (y59 * (((2 : Int64) * y25) - y59))) h H locs ls hP hD hS (lv_sub hl [] rfl)
        · have h := kF h (fun z => c86 ((lg_cmp_lt _ _).mpr z))
          refine lv_ldc2 hx hb hown wf3 dX5_thinningOf_89 ?_
          refine lv_ldc2 hx hb hown wf4 dX5_thinningOf_92 ?_
          refine lv_lload hx hb dX5_thinningOf_95 (lv_at hl 1 rfl) ?_
          refine lv_lmul hx hb dX5_thinningOf_97 ?_
          refine lv_lload hx hb dX5_thinningOf_98 (lv_at hl 0 rfl) ?_
          refine lv_lsub hx hb dX5_thinningOf_100 ?_
          refine lv_lmul hx hb dX5_thinningOf_101 ?_
          refine lv_ldc2 hx hb hown wf4 dX5_thinningOf_102 ?_
          refine lv_lload_n hx hb dX5_thinningOf_105 rfl (lv_at hl 2 rfl) ?_
          refine lv_lmul hx hb dX5_thinningOf_106 ?_
          refine lv_lload hx hb dX5_thinningOf_107 (lv_at hl 0 rfl) ?_
          refine lv_lsub hx hb dX5_thinningOf_109 ?_
          obtain ⟨b110, h⟩ := kIf h
          refine lv_ldiv hx hb dX5_thinningOf_110 b110 ?_
          refine lv_goto (tgt := 135) hx hb dX5_thinningOf_111 (by decide) ?_
          exact J135 (((1000 : Int64) * (((2 : Int64) * y44) - y59)) / (((2 : Int64) * y25) - y59)) h H locs ls hP hD hS (lv_sub hl [] rfl)
      · have h := kF h (fun z => z c67)
        refine lv_ldc2 hx hb hown wf3 dX5_thinningOf_70 ?_
        refine lv_lload hx hb dX5_thinningOf_73 (lv_at hl 1 rfl) ?_
        refine lv_lmul hx hb dX5_thinningOf_75 ?_
        refine lv_lload_n hx hb dX5_thinningOf_76 rfl (lv_at hl 2 rfl) ?_
        obtain ⟨b77, h⟩ := kIf h
        refine lv_ldiv hx hb dX5_thinningOf_77 b77 ?_
        refine lv_goto (tgt := 135) hx hb dX5_thinningOf_78 (by decide) ?_
        exact J135 (((1000 : Int64) * y44) / y25) h H locs ls hP hD hS (lv_sub hl [] rfl)
    · have h := kF h (fun z => z c7)
      refine lv_aload_n hx hb dX5_thinningOf_10 rfl (lv_at hl 0 rfl) ?_
      refine lv_iload_n hx hb dX5_thinningOf_11 rfl (lv_at hl 1 rfl) ?_
      refine lv_bipush (v := 8) hx hb dX5_thinningOf_12 (by decide) ?_
      obtain ⟨r14, e14, h⟩ := kBd h
      refine kCallVI (As := [.int p1, .int (8 : Int32)]) (rest := []) (wc := wM ty adM vM) (w1 := wM ty adM vM) (wn := wM ty adM vM) ⟨hx, hb, hml, hown, hts⟩ (cX5_of_ok l D ty adM H.size vM p1 (8 : Int32) r14 e14) (cwV 2 hts gX5_thinningOf_X5_of rfl rfl rfl (by decide +kernel) ⟨Nat.le_of_ble_eq_true rfl, Nat.le_of_ble_eq_true rfl⟩) hP hK hD hS hA [0, 1, 2, 3, 4, 5, 6] (by decide) rfl 5 0 rfl rfl rfl rfl hl.1 rfl (Nat.le_of_ble_eq_true rfl) dX5_thinningOf_14 ⟨Nat.le_of_ble_eq_true rfl, Nat.le_of_ble_eq_true rfl⟩ rfl rfl (fun H locs hP hD hS => ?_)
      obtain rfl := Option.some.inj h
      subst hQ
      exact W.iret (v := r14) hx hb hr (fun t ht hW => ⟨⟨r14, (), rfl, rfl, kEnd ht hP⟩, hS.F ht⟩) hS.2.2 dX5_thinningOf_17
  exact E0 s.heap [] ls hP hD hS hl
def fX5_yearsBy (p0 : Int64) (p2 : Int64) (p4 : Int64) (p6 : Int64) : Option (Int32) := if ¬ ((p2 * p4) * p6) = 0 then (some ((((10000000 : Int64) * p0) / ((p2 * p4) * p6)).toInt32)) else none
set_option maxHeartbeats 4000000 in
set_option maxRecDepth 100000 in
theorem cX5_yearsBy_ok (l : Launch) (D : va_G) (ty : kTy)  (sz : Nat) (p0 : Int64) (p2 : Int64) (p4 : Int64) (p6 : Int64) (res : Int32) (h : fX5_yearsBy p0 p2 p4 p6 = some res) : kMI l yX5_yearsBy wsX5_yearsBy { frames := 0, cells := 0, slots := 0, locals := 0 } [.long p0, .long p2, .long p4, .long p6] D ty (([] : va_W)) sz res (([] : va_W)) := by
  refine Met.ofW (cc := cX5_yearsBy) (maxL := 8) (ret := (some .int)) (by decide) rfl ?_
  intro p e s m args below meth c s₁ B hml hv
  obtain ⟨rfl, hsz, hP, hK, hD0⟩ := hv
  have hx := B.exec
  have hb := B.bytes
  have hr := B.returns
  have hts := atoms_spec (ws := wsX5_yearsBy) B.pre
  have hown : s.vm.findClass RX5 = some m.cls := findClass_of_methodNamed B.named
  have hlocks := B.notSynchronized
  subst hsz
  have hD := hD0.self (sz := s.heap.size)
  generalize hAe : va_A (([] : va_W)) s.heap.size = A at hD ⊢
  have hA : ∀ q : Nat, s.heap.size ≤ q → A q := fun q h => by rw [← hAe]; exact Or.inr h
  have hS : va_S A s.heap s.heap [] := va_S.rf
  refine kGenW (fun Q hQ => ?_)
  have wf0 := hts (.constantLong RX5 63 (10000000)) (by decide +kernel)
  have hl := lv_entry ([.long p0, .long p2, .long p4, .long p6]) (n := 8) (Nat.le_of_ble_eq_true rfl)
  rw [lg_entry_eq]
  generalize (lg_sl ([.long p0, .long p2, .long p4, .long p6]) ++ List.replicate (8 - (lg_sl ([.long p0, .long p2, .long p4, .long p6])).length) Slot.unset).toArray = ls at hl ⊢
  have hl : lv_has ls 8 [(0, .long p0), (2, .long p2), (4, .long p4), (6, .long p6)] := hl
  unfold fX5_yearsBy at h
  have E0 : ∀ (H : Heap) (locs : List Loc) (ls : Array Slot), va_P D vwCl (([] : va_W)) H → va_D A (([] : va_W)) → va_S A s.heap H locs → lv_has ls 8 [(0, .long p0), (2, .long p2), (4, .long p4), (6, .long p6)] → W p l e (headSpec wsX5_yearsBy { frames := 0, cells := 0, slots := 0, locals := 0 }).room s m ([.long p0, .long p2, .long p4, .long p6] : List Value).toArray below meth c H locs 0 0 Q (F0 m 0 ls []) := by
    intro H locs ls hP hD hS hl
    refine lv_ldc2 hx hb hown wf0 dX5_yearsBy_0 ?_
    refine lv_lload_n hx hb dX5_yearsBy_3 rfl (lv_at hl 0 rfl) ?_
    refine lv_lmul hx hb dX5_yearsBy_4 ?_
    refine lv_lload_n hx hb dX5_yearsBy_5 rfl (lv_at hl 1 rfl) ?_
    refine lv_lload hx hb dX5_yearsBy_6 (lv_at hl 2 rfl) ?_
    refine lv_lmul hx hb dX5_yearsBy_8 ?_
    refine lv_lload hx hb dX5_yearsBy_9 (lv_at hl 3 rfl) ?_
    refine lv_lmul hx hb dX5_yearsBy_11 ?_
    obtain ⟨b12, h⟩ := kIf h
    refine lv_ldiv hx hb dX5_yearsBy_12 b12 ?_
    refine lv_l2i hx hb dX5_yearsBy_13 rfl ?_
    obtain rfl := Option.some.inj h
    subst hQ
    exact W.iret (v := (((10000000 : Int64) * p0) / ((p2 * p4) * p6)).toInt32) hx hb hr (fun t ht hW => ⟨⟨(((10000000 : Int64) * p0) / ((p2 * p4) * p6)).toInt32, (), rfl, rfl, kEnd ht hP⟩, hS.F ht⟩) hS.2.2 dX5_yearsBy_14
  exact E0 s.heap [] ls hP hD hS hl
def fX5_yearsOf (vM : KM) (p1 : Int32) : Option (Int32) := (fX5_of vM p1 (5 : Int32)).bind fun r3 => (fX5_of vM p1 (6 : Int32)).bind fun r11 => (fX5_of vM p1 (7 : Int32)).bind fun r19 => (fX5_thinningOf vM p1).bind fun r25 => (fX5_yearsBy r3.toInt64 r11.toInt64 r19.toInt64 r25.toInt64).bind fun r29 => some r29
set_option maxHeartbeats 4000000 in
set_option maxRecDepth 100000 in
theorem cX5_yearsOf_ok (l : Launch) (D : va_G) (ty : kTy) (adM : Nat → Nat) (sz : Nat) (vM : KM) (p1 : Int32) (res : Int32) (h : fX5_yearsOf vM p1 = some res) : kMI l yX5_yearsOf wsX5_yearsOf { frames := 3, cells := 0, slots := 0, locals := 74 } [.ref (adM 0), .int p1] D ty (wM ty adM vM) sz res (wM ty adM vM) := by
  refine Met.ofW (cc := cX5_yearsOf) (maxL := 2) (ret := (some .int)) (by decide) rfl ?_
  intro p e s m args below meth c s₁ B hml hv
  obtain ⟨rfl, hsz, hP, hK, hD0⟩ := hv
  have hx := B.exec
  have hb := B.bytes
  have hr := B.returns
  have hts := atoms_spec (ws := wsX5_yearsOf) B.pre
  have hown : s.vm.findClass RX5 = some m.cls := findClass_of_methodNamed B.named
  have hlocks := B.notSynchronized
  subst hsz
  have hD := hD0.self (sz := s.heap.size)
  generalize hAe : va_A (wM ty adM vM) s.heap.size = A at hD ⊢
  have hA : ∀ q : Nat, s.heap.size ≤ q → A q := fun q h => by rw [← hAe]; exact Or.inr h
  have hS : va_S A s.heap s.heap [] := va_S.rf
  refine kGenW (fun Q hQ => ?_)
  have hl := lv_entry ([.ref (adM 0), .int p1]) (n := 2) (Nat.le_of_ble_eq_true rfl)
  rw [lg_entry_eq]
  generalize (lg_sl ([.ref (adM 0), .int p1]) ++ List.replicate (2 - (lg_sl ([.ref (adM 0), .int p1])).length) Slot.unset).toArray = ls at hl ⊢
  have hl : lv_has ls 2 [(0, .ref (adM 0)), (1, .int p1)] := hl
  unfold fX5_yearsOf at h
  have E0 : ∀ (H : Heap) (locs : List Loc) (ls : Array Slot), va_P D vwCl (wM ty adM vM) H → va_D A (wM ty adM vM) → va_S A s.heap H locs → lv_has ls 2 [(0, .ref (adM 0)), (1, .int p1)] → W p l e (headSpec wsX5_yearsOf { frames := 3, cells := 0, slots := 0, locals := 74 }).room s m ([.ref (adM 0), .int p1] : List Value).toArray below meth c H locs 0 0 Q (F0 m 0 ls []) := by
    intro H locs ls hP hD hS hl
    refine lv_aload_n hx hb dX5_yearsOf_0 rfl (lv_at hl 0 rfl) ?_
    refine lv_iload_n hx hb dX5_yearsOf_1 rfl (lv_at hl 1 rfl) ?_
    refine lv_iconst (v := 5) hx hb dX5_yearsOf_2 (by decide) ?_
    obtain ⟨r3, e3, h⟩ := kBd h
    refine kCallVI (As := [.int p1, .int (5 : Int32)]) (rest := []) (wc := wM ty adM vM) (w1 := wM ty adM vM) (wn := wM ty adM vM) ⟨hx, hb, hml, hown, hts⟩ (cX5_of_ok l D ty adM H.size vM p1 (5 : Int32) r3 e3) (cwV 2 hts gX5_yearsOf_X5_of rfl rfl rfl (by decide +kernel) ⟨Nat.le_of_ble_eq_true rfl, Nat.le_of_ble_eq_true rfl⟩) hP hK hD hS hA [0, 1, 2, 3, 4, 5, 6] (by decide) rfl 5 0 rfl rfl rfl rfl hl.1 rfl (Nat.le_of_ble_eq_true rfl) dX5_yearsOf_3 ⟨Nat.le_of_ble_eq_true rfl, Nat.le_of_ble_eq_true rfl⟩ rfl rfl (fun H locs hP hD hS => ?_)
    refine lv_i2l hx hb dX5_yearsOf_6 rfl ?_
    refine lv_aload_n hx hb dX5_yearsOf_7 rfl (lv_at hl 0 rfl) ?_
    refine lv_iload_n hx hb dX5_yearsOf_8 rfl (lv_at hl 1 rfl) ?_
    refine lv_bipush (v := 6) hx hb dX5_yearsOf_9 (by decide) ?_
    obtain ⟨r11, e11, h⟩ := kBd h
    refine kCallVI (As := [.int p1, .int (6 : Int32)]) (rest := [.long r3.toInt64]) (wc := wM ty adM vM) (w1 := wM ty adM vM) (wn := wM ty adM vM) ⟨hx, hb, hml, hown, hts⟩ (cX5_of_ok l D ty adM H.size vM p1 (6 : Int32) r11 e11) (cwV 2 hts gX5_yearsOf_X5_of rfl rfl rfl (by decide +kernel) ⟨Nat.le_of_ble_eq_true rfl, Nat.le_of_ble_eq_true rfl⟩) hP hK hD hS hA [0, 1, 2, 3, 4, 5, 6] (by decide) rfl 5 0 rfl rfl rfl rfl hl.1 rfl (Nat.le_of_ble_eq_true rfl) dX5_yearsOf_11 ⟨Nat.le_of_ble_eq_true rfl, Nat.le_of_ble_eq_true rfl⟩ rfl rfl (fun H locs hP hD hS => ?_)
    refine lv_i2l hx hb dX5_yearsOf_14 rfl ?_
    refine lv_aload_n hx hb dX5_yearsOf_15 rfl (lv_at hl 0 rfl) ?_
    refine lv_iload_n hx hb dX5_yearsOf_16 rfl (lv_at hl 1 rfl) ?_
    refine lv_bipush (v := 7) hx hb dX5_yearsOf_17 (by decide) ?_
    obtain ⟨r19, e19, h⟩ := kBd h
    refine kCallVI (As := [.int p1, .int (7 : Int32)]) (rest := [.long r11.toInt64, .long r3.toInt64]) (wc := wM ty adM vM) (w1 := wM ty adM vM) (wn := wM ty adM vM) ⟨hx, hb, hml, hown, hts⟩ (cX5_of_ok l D ty adM H.size vM p1 (7 : Int32) r19 e19) (cwV 2 hts gX5_yearsOf_X5_of rfl rfl rfl (by decide +kernel) ⟨Nat.le_of_ble_eq_true rfl, Nat.le_of_ble_eq_true rfl⟩) hP hK hD hS hA [0, 1, 2, 3, 4, 5, 6] (by decide) rfl 5 0 rfl rfl rfl rfl hl.1 rfl (Nat.le_of_ble_eq_true rfl) dX5_yearsOf_19 ⟨Nat.le_of_ble_eq_true rfl, Nat.le_of_ble_eq_true rfl⟩ rfl rfl (fun H locs hP hD hS => ?_)
    refine lv_i2l hx hb dX5_yearsOf_22 rfl ?_
    refine lv_aload_n hx hb dX5_yearsOf_23 rfl (lv_at hl 0 rfl) ?_
    refine lv_iload_n hx hb dX5_yearsOf_24 rfl (lv_at hl 1 rfl) ?_
    obtain ⟨r25, e25, h⟩ := kBd h
    refine kCallVI (As := [.int p1]) (rest := [.long r19.toInt64, .long r11.toInt64, .long r3.toInt64]) (wc := wM ty adM vM) (w1 := wM ty adM vM) (wn := wM ty adM vM) ⟨hx, hb, hml, hown, hts⟩ (cX5_thinningOf_ok l D ty adM H.size vM p1 r25 e25) (cwV 1 hts gX5_yearsOf_X5_thinningOf rfl rfl rfl (by decide +kernel) ⟨Nat.le_of_ble_eq_true rfl, Nat.le_of_ble_eq_true rfl⟩) hP hK hD hS hA [0, 1, 2, 3, 4, 5, 6] (by decide) rfl 5 0 rfl rfl rfl rfl hl.1 rfl (Nat.le_of_ble_eq_true rfl) dX5_yearsOf_25 ⟨Nat.le_of_ble_eq_true rfl, Nat.le_of_ble_eq_true rfl⟩ rfl rfl (fun H locs hP hD hS => ?_)
    refine lv_i2l hx hb dX5_yearsOf_28 rfl ?_
    obtain ⟨r29, e29, h⟩ := kBd h
    refine kCallSI (As := [.long r3.toInt64, .long r11.toInt64, .long r19.toInt64, .long r25.toInt64]) (rest := []) ⟨hx, hb, hml, hown, hts⟩ (cX5_yearsBy_ok l D ty  H.size r3.toInt64 r11.toInt64 r19.toInt64 r25.toInt64 r29 e29) (va_cwS 4 hts gX5_yearsOf_X5_yearsBy rfl rfl rfl (by decide +kernel) ⟨Nat.le_of_ble_eq_true rfl, Nat.le_of_ble_eq_true rfl⟩) hP hK hD hS hA rfl hl.1 rfl (Nat.le_of_ble_eq_true rfl) dX5_yearsOf_29 ⟨Nat.le_of_ble_eq_true rfl, Nat.le_of_ble_eq_true rfl⟩ (fun H locs hP hS => ?_)
    obtain rfl := Option.some.inj h
    subst hQ
    exact W.iret (v := r29) hx hb hr (fun t ht hW => ⟨⟨r29, (), rfl, rfl, kEnd ht hP⟩, hS.F ht⟩) hS.2.2 dX5_yearsOf_32
  exact E0 s.heap [] ls hP hD hS hl
def fX5_ageAtTop_c4 (vM : KM) (x1 : Int32) (x2 : Int32) (x3 : Int32) (nx4 : Int32 × Int32 → Option (Int32)) : Option (Int32) := if x1 ≤ x3 then some x2 else ((fX5_yearsOf vM x3).bind fun r12 => nx4 ((x2 + r12), (x3 + 1)))
def fX5_ageAtTop (vM : KM) (p1 : Int32) : Option (Int32) := kLoopC kFu (fun q nx4 => fX5_ageAtTop_c4 vM p1 q.1 q.2 nx4) ((0 : Int32), (0 : Int32))
set_option maxHeartbeats 4000000 in
set_option maxRecDepth 100000 in
theorem cX5_ageAtTop_ok (l : Launch) (D : va_G) (ty : kTy) (adM : Nat → Nat) (sz : Nat) (vM : KM) (p1 : Int32) (res : Int32) (h : fX5_ageAtTop vM p1 = some res) : kMI l yX5_ageAtTop wsX5_ageAtTop { frames := 4, cells := 0, slots := 0, locals := 95 } [.ref (adM 0), .int p1] D ty (wM ty adM vM) sz res (wM ty adM vM) := by
  refine Met.ofW (cc := cX5_ageAtTop) (maxL := 4) (ret := (some .int)) (by decide) rfl ?_
  intro p e s m args below meth c s₁ B hml hv
  obtain ⟨rfl, hsz, hP, hK, hD0⟩ := hv
  have hx := B.exec
  have hb := B.bytes
  have hr := B.returns
  have hts := atoms_spec (ws := wsX5_ageAtTop) B.pre
  have hown : s.vm.findClass RX5 = some m.cls := findClass_of_methodNamed B.named
  have hlocks := B.notSynchronized
  subst hsz
  have hD := hD0.self (sz := s.heap.size)
  generalize hAe : va_A (wM ty adM vM) s.heap.size = A at hD ⊢
  have hA : ∀ q : Nat, s.heap.size ≤ q → A q := fun q h => by rw [← hAe]; exact Or.inr h
  have hS : va_S A s.heap s.heap [] := va_S.rf
  refine kGenW (fun Q hQ => ?_)
  have B4 : ∀ (x1 : Int32) (nx4 : Int32 × Int32 → Option (Int32)) (hn4 : ∀ (x2 : Int32) (x3 : Int32), nx4 (x2, x3) = some res → ∀ (H : Heap) (locs : List Loc) (ls : Array Slot), va_P D vwCl (wM ty adM vM) H → va_D A (wM ty adM vM) → va_S A s.heap H locs → lv_has ls 4 [(0, .ref (adM 0)), (1, .int x1), (2, .int x2), (3, .int x3)] → W p l e (headSpec wsX5_ageAtTop { frames := 4, cells := 0, slots := 0, locals := 95 }).room s m ([.ref (adM 0), .int p1] : List Value).toArray below meth c H locs 0 0 Q (F0 m 4 ls [])) (x2 : Int32) (x3 : Int32), fX5_ageAtTop_c4 vM x1 x2 x3 nx4 = some res → ∀ (H : Heap) (locs : List Loc) (ls : Array Slot), va_P D vwCl (wM ty adM vM) H → va_D A (wM ty adM vM) → va_S A s.heap H locs → lv_has ls 4 [(0, .ref (adM 0)), (1, .int x1), (2, .int x2), (3, .int x3)] → W p l e (headSpec wsX5_ageAtTop { frames := 4, cells := 0, slots := 0, locals := 95 }).room s m ([.ref (adM 0), .int p1] : List Value).toArray below meth c H locs 0 0 Q (F0 m 4 ls []) := by
    intro x1 nx4 hn4 x2 x3 h H locs ls hP hD hS hl
    unfold fX5_ageAtTop_c4 at h
    refine lv_iload_n hx hb dX5_ageAtTop_4 rfl (lv_at hl 3 rfl) ?_
    refine lv_iload_n hx hb dX5_ageAtTop_5 rfl (lv_at hl 1 rfl) ?_
    refine lv_icmp_ge (tgt := 23) hx hb dX5_ageAtTop_6 (by decide) (fun c6 => ?_) (fun c6 => ?_)
    · have h := kT h c6
      refine lv_iload_n hx hb dX5_ageAtTop_23 rfl (lv_at hl 2 rfl) ?_
      obtain rfl := Option.some.inj h
      subst hQ
      exact W.iret (v := x2) hx hb hr (fun t ht hW => ⟨⟨x2, (), rfl, rfl, kEnd ht hP⟩, hS.F ht⟩) hS.2.2 dX5_ageAtTop_24
    · have h := kF h c6
      refine lv_iload_n hx hb dX5_ageAtTop_9 rfl (lv_at hl 2 rfl) ?_
      refine lv_aload_n hx hb dX5_ageAtTop_10 rfl (lv_at hl 0 rfl) ?_
      refine lv_iload_n hx hb dX5_ageAtTop_11 rfl (lv_at hl 3 rfl) ?_
      obtain ⟨r12, e12, h⟩ := kBd h
      refine kCallVI (As := [.int x3]) (rest := [.int x2]) (wc := wM ty adM vM) (w1 := wM ty adM vM) (wn := wM ty adM vM) ⟨hx, hb, hml, hown, hts⟩ (cX5_yearsOf_ok l D ty adM H.size vM x3 r12 e12) (cwV 1 hts gX5_ageAtTop_X5_yearsOf rfl rfl rfl (by decide +kernel) ⟨Nat.le_of_ble_eq_true rfl, Nat.le_of_ble_eq_true rfl⟩) hP hK hD hS hA [0, 1, 2, 3, 4, 5, 6] (by decide) rfl 5 0 rfl rfl rfl rfl hl.1 rfl (Nat.le_of_ble_eq_true rfl) dX5_ageAtTop_12 ⟨Nat.le_of_ble_eq_true rfl, Nat.le_of_ble_eq_true rfl⟩ rfl rfl (fun H locs hP hD hS => ?_)
      refine lv_iadd hx hb dX5_ageAtTop_15 ?_
      refine lv_istore_n (lv' := [(2, .int (x2 + r12)), (0, .ref (adM 0)), (1, .int x1), (3, .int x3)]) hx hb dX5_ageAtTop_16 rfl hl (by decide) rfl (fun ls hl => ?_)
      refine lv_iinc (v := (x3 + 1)) (lv' := [(3, .int (x3 + 1)), (2, .int (x2 + r12)), (0, .ref (adM 0)), (1, .int x1)]) hx hb dX5_ageAtTop_17 hl (k := 3) rfl rfl (by decide) rfl (fun ls hl => ?_)
      refine lv_goto (tgt := 4) hx hb dX5_ageAtTop_20 (by decide) ?_
      exact hn4 (x2 + r12) (x3 + 1) h H locs ls hP hD hS (lv_sub hl [2, 3, 1, 0] rfl)
  have L4 : ∀ (x1 : Int32) (n : Nat) (x2 : Int32) (x3 : Int32), kLoopC n (fun q nx4 => fX5_ageAtTop_c4 vM x1 q.1 q.2 nx4) (x2, x3) = some res → ∀ (H : Heap) (locs : List Loc) (ls : Array Slot), va_P D vwCl (wM ty adM vM) H → va_D A (wM ty adM vM) → va_S A s.heap H locs → lv_has ls 4 [(0, .ref (adM 0)), (1, .int x1), (2, .int x2), (3, .int x3)] → W p l e (headSpec wsX5_ageAtTop { frames := 4, cells := 0, slots := 0, locals := 95 }).room s m ([.ref (adM 0), .int p1] : List Value).toArray below meth c H locs 0 0 Q (F0 m 4 ls []) := by
    intro x1 n
    induction n with
    | zero => intro x2 x3 h; exact absurd h (by simp [kLoopC])
    | succ n ih => intro x2 x3 h; exact B4 x1 (kLoopC n (fun q nx4 => fX5_ageAtTop_c4 vM x1 q.1 q.2 nx4)) ih x2 x3 h
  have hl := lv_entry ([.ref (adM 0), .int p1]) (n := 4) (Nat.le_of_ble_eq_true rfl)
  rw [lg_entry_eq]
  generalize (lg_sl ([.ref (adM 0), .int p1]) ++ List.replicate (4 - (lg_sl ([.ref (adM 0), .int p1])).length) Slot.unset).toArray = ls at hl ⊢
  have hl : lv_has ls 4 [(0, .ref (adM 0)), (1, .int p1)] := hl
  unfold fX5_ageAtTop at h
  have E0 : ∀ (H : Heap) (locs : List Loc) (ls : Array Slot), va_P D vwCl (wM ty adM vM) H → va_D A (wM ty adM vM) → va_S A s.heap H locs → lv_has ls 4 [(0, .ref (adM 0)), (1, .int p1)] → W p l e (headSpec wsX5_ageAtTop { frames := 4, cells := 0, slots := 0, locals := 95 }).room s m ([.ref (adM 0), .int p1] : List Value).toArray below meth c H locs 0 0 Q (F0 m 0 ls []) := by
    intro H locs ls hP hD hS hl
    refine lv_iconst (v := 0) hx hb dX5_ageAtTop_0 (by decide) ?_
    refine lv_istore_n (lv' := [(2, .int (0 : Int32)), (0, .ref (adM 0)), (1, .int p1)]) hx hb dX5_ageAtTop_1 rfl hl (by decide) rfl (fun ls hl => ?_)
    refine lv_iconst (v := 0) hx hb dX5_ageAtTop_2 (by decide) ?_
    refine lv_istore_n (lv' := [(3, .int (0 : Int32)), (2, .int (0 : Int32)), (0, .ref (adM 0)), (1, .int p1)]) hx hb dX5_ageAtTop_3 rfl hl (by decide) rfl (fun ls hl => ?_)
    exact L4 p1  kFu (0 : Int32) (0 : Int32) h H locs ls hP hD hS (lv_sub hl [2, 3, 1, 0] rfl)
  exact E0 s.heap [] ls hP hD hS hl
def fX5_delayOf (vM : KM) (p1 : Int32) : Option (Int32) := if kIn (4 : Int32) 133 = true then ((fX5_of vM p1 (6 : Int32)).bind fun r15 => (fX5_of vM p1 (7 : Int32)).bind fun r23 => if ¬ (r15.toInt64 * r23.toInt64) = 0 then (some ((((10000 : Int64) * (vM.2.2.2.2.2.2.1 (4 : Int32).toNatClampNeg).toInt64) / (r15.toInt64 * r23.toInt64)).toInt32)) else none) else none
set_option maxHeartbeats 4000000 in
set_option maxRecDepth 100000 in
theorem cX5_delayOf_ok (l : Launch) (D : va_G) (ty : kTy) (adM : Nat → Nat) (sz : Nat) (vM : KM) (p1 : Int32) (res : Int32) (h : fX5_delayOf vM p1 = some res) : kMI l yX5_delayOf wsX5_delayOf { frames := 1, cells := 0, slots := 0, locals := 22 } [.ref (adM 0), .int p1] D ty (wM ty adM vM) sz res (wM ty adM vM) := by
  refine Met.ofW (cc := cX5_delayOf) (maxL := 2) (ret := (some .int)) (by decide) rfl ?_
  intro p e s m args below meth c s₁ B hml hv
  obtain ⟨rfl, hsz, hP, hK, hD0⟩ := hv
  have hx := B.exec
  have hb := B.bytes
  have hr := B.returns
  have hts := atoms_spec (ws := wsX5_delayOf) B.pre
  have hown : s.vm.findClass RX5 = some m.cls := findClass_of_methodNamed B.named
  have hlocks := B.notSynchronized
  subst hsz
  have hD := hD0.self (sz := s.heap.size)
  generalize hAe : va_A (wM ty adM vM) s.heap.size = A at hD ⊢
  have hA : ∀ q : Nat, s.heap.size ≤ q → A q := fun q h => by rw [← hAe]; exact Or.inr h
  have hS : va_S A s.heap s.heap [] := va_S.rf
  refine kGenW (fun Q hQ => ?_)
  have wf0 := hts (.constantLong RX5 75 (10000)) (by decide +kernel)
  have wf1 := hts (.fieldLink RX5 7 "IceCoreDaterModel" "now" "[I") (by decide +kernel)
  have hinX5 : ∀ w ∈ wsX50, w ∈ wsX5_delayOf := by decide +kernel
  have hl := lv_entry ([.ref (adM 0), .int p1]) (n := 2) (Nat.le_of_ble_eq_true rfl)
  rw [lg_entry_eq]
  generalize (lg_sl ([.ref (adM 0), .int p1]) ++ List.replicate (2 - (lg_sl ([.ref (adM 0), .int p1])).length) Slot.unset).toArray = ls at hl ⊢
  have hl : lv_has ls 2 [(0, .ref (adM 0)), (1, .int p1)] := hl
  unfold fX5_delayOf at h
  have E0 : ∀ (H : Heap) (locs : List Loc) (ls : Array Slot), va_P D vwCl (wM ty adM vM) H → va_D A (wM ty adM vM) → va_S A s.heap H locs → lv_has ls 2 [(0, .ref (adM 0)), (1, .int p1)] → W p l e (headSpec wsX5_delayOf { frames := 1, cells := 0, slots := 0, locals := 22 }).room s m ([.ref (adM 0), .int p1] : List Value).toArray below meth c H locs 0 0 Q (F0 m 0 ls []) := by
    intro H locs ls hP hD hS hl
    refine lv_ldc2 hx hb hown wf0 dX5_delayOf_0 ?_
    refine lv_aload_n hx hb dX5_delayOf_3 rfl (lv_at hl 0 rfl) ?_
    refine va_get (D := D) (ci := 5) (v := .ref (adM 1)) (C := RX5) (T := TX5) (N := 12) hx hb hts hinX5 hown hK.1 hP 0 rfl rfl 0 (by decide) wf1 (fun _ h9 => h9) rfl dX5_delayOf_4 ?_
    refine lv_iconst (v := 4) hx hb dX5_delayOf_7 (by decide) ?_
    obtain ⟨b8, h⟩ := kIf h
    refine va_iald (f := vM.2.2.2.2.2.2.1) (n := 133) hx hb hK.1 hP 1 0 rfl rfl (kIn_ok b8) dX5_delayOf_8 ?_
    refine lv_i2l hx hb dX5_delayOf_9 rfl ?_
    refine lv_lmul hx hb dX5_delayOf_10 ?_
    refine lv_aload_n hx hb dX5_delayOf_11 rfl (lv_at hl 0 rfl) ?_
    refine lv_iload_n hx hb dX5_delayOf_12 rfl (lv_at hl 1 rfl) ?_
    refine lv_bipush (v := 6) hx hb dX5_delayOf_13 (by decide) ?_
    obtain ⟨r15, e15, h⟩ := kBd h
    refine kCallVI (As := [.int p1, .int (6 : Int32)]) (rest := [.long ((10000 : Int64) * (vM.2.2.2.2.2.2.1 (4 : Int32).toNatClampNeg).toInt64)]) (wc := wM ty adM vM) (w1 := wM ty adM vM) (wn := wM ty adM vM) ⟨hx, hb, hml, hown, hts⟩ (cX5_of_ok l D ty adM H.size vM p1 (6 : Int32) r15 e15) (cwV 2 hts gX5_delayOf_X5_of rfl rfl rfl (by decide +kernel) ⟨Nat.le_of_ble_eq_true rfl, Nat.le_of_ble_eq_true rfl⟩) hP hK hD hS hA [0, 1, 2, 3, 4, 5, 6] (by decide) rfl 5 0 rfl rfl rfl rfl hl.1 rfl (Nat.le_of_ble_eq_true rfl) dX5_delayOf_15 ⟨Nat.le_of_ble_eq_true rfl, Nat.le_of_ble_eq_true rfl⟩ rfl rfl (fun H locs hP hD hS => ?_)
    refine lv_i2l hx hb dX5_delayOf_18 rfl ?_
    refine lv_aload_n hx hb dX5_delayOf_19 rfl (lv_at hl 0 rfl) ?_
    refine lv_iload_n hx hb dX5_delayOf_20 rfl (lv_at hl 1 rfl) ?_
    refine lv_bipush (v := 7) hx hb dX5_delayOf_21 (by decide) ?_
    obtain ⟨r23, e23, h⟩ := kBd h
    refine kCallVI (As := [.int p1, .int (7 : Int32)]) (rest := [.long r15.toInt64, .long ((10000 : Int64) * (vM.2.2.2.2.2.2.1 (4 : Int32).toNatClampNeg).toInt64)]) (wc := wM ty adM vM) (w1 := wM ty adM vM) (wn := wM ty adM vM) ⟨hx, hb, hml, hown, hts⟩ (cX5_of_ok l D ty adM H.size vM p1 (7 : Int32) r23 e23) (cwV 2 hts gX5_delayOf_X5_of rfl rfl rfl (by decide +kernel) ⟨Nat.le_of_ble_eq_true rfl, Nat.le_of_ble_eq_true rfl⟩) hP hK hD hS hA [0, 1, 2, 3, 4, 5, 6] (by decide) rfl 5 0 rfl rfl rfl rfl hl.1 rfl (Nat.le_of_ble_eq_true rfl) dX5_delayOf_23 ⟨Nat.le_of_ble_eq_true rfl, Nat.le_of_ble_eq_true rfl⟩ rfl rfl (fun H locs hP hD hS => ?_)
    refine lv_i2l hx hb dX5_delayOf_26 rfl ?_
    refine lv_lmul hx hb dX5_delayOf_27 ?_
    obtain ⟨b28, h⟩ := kIf h
    refine lv_ldiv hx hb dX5_delayOf_28 b28 ?_
    refine lv_l2i hx hb dX5_delayOf_29 rfl ?_
    obtain rfl := Option.some.inj h
    subst hQ
    exact W.iret (v := (((10000 : Int64) * (vM.2.2.2.2.2.2.1 (4 : Int32).toNatClampNeg).toInt64) / (r15.toInt64 * r23.toInt64)).toInt32) hx hb hr (fun t ht hW => ⟨⟨(((10000 : Int64) * (vM.2.2.2.2.2.2.1 (4 : Int32).toNatClampNeg).toInt64) / (r15.toInt64 * r23.toInt64)).toInt32, (), rfl, rfl, kEnd ht hP⟩, hS.F ht⟩) hS.2.2 dX5_delayOf_30
  exact E0 s.heap [] ls hP hD hS hl
def fX5_layerAt_c2 (vM : KM) (x1 : Int32) (x2 : Int32) (nx2 : Int32 → Option (Int32)) : Option (Int32) := (fX5_top vM (x2 + (1 : Int32))).bind fun r7 => if x1 ≤ r7 then some x2 else (nx2 (x2 + 1))
def fX5_layerAt (vM : KM) (p1 : Int32) : Option (Int32) := kLoopC kFu (fun q nx2 => fX5_layerAt_c2 vM p1 q nx2) (0 : Int32)
set_option maxHeartbeats 4000000 in
set_option maxRecDepth 100000 in
theorem cX5_layerAt_ok (l : Launch) (D : va_G) (ty : kTy) (adM : Nat → Nat) (sz : Nat) (vM : KM) (p1 : Int32) (res : Int32) (h : fX5_layerAt vM p1 = some res) : kMI l yX5_layerAt wsX5_layerAt { frames := 2, cells := 0, slots := 0, locals := 45 } [.ref (adM 0), .int p1] D ty (wM ty adM vM) sz res (wM ty adM vM) := by
  refine Met.ofW (cc := cX5_layerAt) (maxL := 3) (ret := (some .int)) (by decide) rfl ?_
  intro p e s m args below meth c s₁ B hml hv
  obtain ⟨rfl, hsz, hP, hK, hD0⟩ := hv
  have hx := B.exec
  have hb := B.bytes
  have hr := B.returns
  have hts := atoms_spec (ws := wsX5_layerAt) B.pre
  have hown : s.vm.findClass RX5 = some m.cls := findClass_of_methodNamed B.named
  have hlocks := B.notSynchronized
  subst hsz
  have hD := hD0.self (sz := s.heap.size)
  generalize hAe : va_A (wM ty adM vM) s.heap.size = A at hD ⊢
  have hA : ∀ q : Nat, s.heap.size ≤ q → A q := fun q h => by rw [← hAe]; exact Or.inr h
  have hS : va_S A s.heap s.heap [] := va_S.rf
  refine kGenW (fun Q hQ => ?_)
  have B2 : ∀ (x1 : Int32) (nx2 : Int32 → Option (Int32)) (hn2 : ∀ (x2 : Int32), nx2 x2 = some res → ∀ (H : Heap) (locs : List Loc) (ls : Array Slot), va_P D vwCl (wM ty adM vM) H → va_D A (wM ty adM vM) → va_S A s.heap H locs → lv_has ls 3 [(0, .ref (adM 0)), (1, .int x1), (2, .int x2)] → W p l e (headSpec wsX5_layerAt { frames := 2, cells := 0, slots := 0, locals := 45 }).room s m ([.ref (adM 0), .int p1] : List Value).toArray below meth c H locs 0 0 Q (F0 m 2 ls [])) (x2 : Int32), fX5_layerAt_c2 vM x1 x2 nx2 = some res → ∀ (H : Heap) (locs : List Loc) (ls : Array Slot), va_P D vwCl (wM ty adM vM) H → va_D A (wM ty adM vM) → va_S A s.heap H locs → lv_has ls 3 [(0, .ref (adM 0)), (1, .int x1), (2, .int x2)] → W p l e (headSpec wsX5_layerAt { frames := 2, cells := 0, slots := 0, locals := 45 }).room s m ([.ref (adM 0), .int p1] : List Value).toArray below meth c H locs 0 0 Q (F0 m 2 ls []) := by
    intro x1 nx2 hn2 x2 h H locs ls hP hD hS hl
    unfold fX5_layerAt_c2 at h
    refine lv_iload_n hx hb dX5_layerAt_2 rfl (lv_at hl 1 rfl) ?_
    refine lv_aload_n hx hb dX5_layerAt_3 rfl (lv_at hl 0 rfl) ?_
    refine lv_iload_n hx hb dX5_layerAt_4 rfl (lv_at hl 2 rfl) ?_
    refine lv_iconst (v := 1) hx hb dX5_layerAt_5 (by decide) ?_
    refine lv_iadd hx hb dX5_layerAt_6 ?_
    obtain ⟨r7, e7, h⟩ := kBd h
    refine kCallVI (As := [.int (x2 + (1 : Int32))]) (rest := [.int x1]) (wc := wM ty adM vM) (w1 := wM ty adM vM) (wn := wM ty adM vM) ⟨hx, hb, hml, hown, hts⟩ (cX5_top_ok l D ty adM H.size vM (x2 + (1 : Int32)) r7 e7) (cwV 1 hts gX5_layerAt_X5_top rfl rfl rfl (by decide +kernel) ⟨Nat.le_of_ble_eq_true rfl, Nat.le_of_ble_eq_true rfl⟩) hP hK hD hS hA [0, 1, 2, 3, 4, 5, 6] (by decide) rfl 5 0 rfl rfl rfl rfl hl.1 rfl (Nat.le_of_ble_eq_true rfl) dX5_layerAt_7 ⟨Nat.le_of_ble_eq_true rfl, Nat.le_of_ble_eq_true rfl⟩ rfl rfl (fun H locs hP hD hS => ?_)
    refine lv_icmp_le (tgt := 19) hx hb dX5_layerAt_10 (by decide) (fun c10 => ?_) (fun c10 => ?_)
    · have h := kT h c10
      refine lv_iload_n hx hb dX5_layerAt_19 rfl (lv_at hl 2 rfl) ?_
      obtain rfl := Option.some.inj h
      subst hQ
      exact W.iret (v := x2) hx hb hr (fun t ht hW => ⟨⟨x2, (), rfl, rfl, kEnd ht hP⟩, hS.F ht⟩) hS.2.2 dX5_layerAt_20
    · have h := kF h c10
      refine lv_iinc (v := (x2 + 1)) (lv' := [(2, .int (x2 + 1)), (0, .ref (adM 0)), (1, .int x1)]) hx hb dX5_layerAt_13 hl (k := 2) rfl rfl (by decide) rfl (fun ls hl => ?_)
      refine lv_goto (tgt := 2) hx hb dX5_layerAt_16 (by decide) ?_
      exact hn2 (x2 + 1) h H locs ls hP hD hS (lv_sub hl [1, 2, 0] rfl)
  have L2 : ∀ (x1 : Int32) (n : Nat) (x2 : Int32), kLoopC n (fun q nx2 => fX5_layerAt_c2 vM x1 q nx2) x2 = some res → ∀ (H : Heap) (locs : List Loc) (ls : Array Slot), va_P D vwCl (wM ty adM vM) H → va_D A (wM ty adM vM) → va_S A s.heap H locs → lv_has ls 3 [(0, .ref (adM 0)), (1, .int x1), (2, .int x2)] → W p l e (headSpec wsX5_layerAt { frames := 2, cells := 0, slots := 0, locals := 45 }).room s m ([.ref (adM 0), .int p1] : List Value).toArray below meth c H locs 0 0 Q (F0 m 2 ls []) := by
    intro x1 n
    induction n with
    | zero => intro x2 h; exact absurd h (by simp [kLoopC])
    | succ n ih => intro x2 h; exact B2 x1 (kLoopC n (fun q nx2 => fX5_layerAt_c2 vM x1 q nx2)) ih x2 h
  have hl := lv_entry ([.ref (adM 0), .int p1]) (n := 3) (Nat.le_of_ble_eq_true rfl)
  rw [lg_entry_eq]
  generalize (lg_sl ([.ref (adM 0), .int p1]) ++ List.replicate (3 - (lg_sl ([.ref (adM 0), .int p1])).length) Slot.unset).toArray = ls at hl ⊢
  have hl : lv_has ls 3 [(0, .ref (adM 0)), (1, .int p1)] := hl
  unfold fX5_layerAt at h
  have E0 : ∀ (H : Heap) (locs : List Loc) (ls : Array Slot), va_P D vwCl (wM ty adM vM) H → va_D A (wM ty adM vM) → va_S A s.heap H locs → lv_has ls 3 [(0, .ref (adM 0)), (1, .int p1)] → W p l e (headSpec wsX5_layerAt { frames := 2, cells := 0, slots := 0, locals := 45 }).room s m ([.ref (adM 0), .int p1] : List Value).toArray below meth c H locs 0 0 Q (F0 m 0 ls []) := by
    intro H locs ls hP hD hS hl
    refine lv_iconst (v := 0) hx hb dX5_layerAt_0 (by decide) ?_
    refine lv_istore_n (lv' := [(2, .int (0 : Int32)), (0, .ref (adM 0)), (1, .int p1)]) hx hb dX5_layerAt_1 rfl hl (by decide) rfl (fun ls hl => ?_)
    exact L2 p1  kFu (0 : Int32) h H locs ls hP hD hS (lv_sub hl [1, 2, 0] rfl)
  exact E0 s.heap [] ls hP hD hS hl
def fX5_part (p0 : Int32) (p1 : Int32) (p2 : Int32) : Option (Int32) := if ¬ p2.toInt64 = 0 then (some (((p0.toInt64 * p1.toInt64) / p2.toInt64).toInt32)) else none
set_option maxHeartbeats 4000000 in
set_option maxRecDepth 100000 in
theorem cX5_part_ok (l : Launch) (D : va_G) (ty : kTy)  (sz : Nat) (p0 : Int32) (p1 : Int32) (p2 : Int32) (res : Int32) (h : fX5_part p0 p1 p2 = some res) : kMI l yX5_part wsX5_part { frames := 0, cells := 0, slots := 0, locals := 0 } [.int p0, .int p1, .int p2] D ty (([] : va_W)) sz res (([] : va_W)) := by
  refine Met.ofW (cc := cX5_part) (maxL := 3) (ret := (some .int)) (by decide) rfl ?_
  intro p e s m args below meth c s₁ B hml hv
  obtain ⟨rfl, hsz, hP, hK, hD0⟩ := hv
  have hx := B.exec
  have hb := B.bytes
  have hr := B.returns
  have hts := atoms_spec (ws := wsX5_part) B.pre
  have hown : s.vm.findClass RX5 = some m.cls := findClass_of_methodNamed B.named
  have hlocks := B.notSynchronized
  subst hsz
  have hD := hD0.self (sz := s.heap.size)
  generalize hAe : va_A (([] : va_W)) s.heap.size = A at hD ⊢
  have hA : ∀ q : Nat, s.heap.size ≤ q → A q := fun q h => by rw [← hAe]; exact Or.inr h
  have hS : va_S A s.heap s.heap [] := va_S.rf
  refine kGenW (fun Q hQ => ?_)
  have hl := lv_entry ([.int p0, .int p1, .int p2]) (n := 3) (Nat.le_of_ble_eq_true rfl)
  rw [lg_entry_eq]
  generalize (lg_sl ([.int p0, .int p1, .int p2]) ++ List.replicate (3 - (lg_sl ([.int p0, .int p1, .int p2])).length) Slot.unset).toArray = ls at hl ⊢
  have hl : lv_has ls 3 [(0, .int p0), (1, .int p1), (2, .int p2)] := hl
  unfold fX5_part at h
  have E0 : ∀ (H : Heap) (locs : List Loc) (ls : Array Slot), va_P D vwCl (([] : va_W)) H → va_D A (([] : va_W)) → va_S A s.heap H locs → lv_has ls 3 [(0, .int p0), (1, .int p1), (2, .int p2)] → W p l e (headSpec wsX5_part { frames := 0, cells := 0, slots := 0, locals := 0 }).room s m ([.int p0, .int p1, .int p2] : List Value).toArray below meth c H locs 0 0 Q (F0 m 0 ls []) := by
    intro H locs ls hP hD hS hl
    refine lv_iload_n hx hb dX5_part_0 rfl (lv_at hl 0 rfl) ?_
    refine lv_i2l hx hb dX5_part_1 rfl ?_
    refine lv_iload_n hx hb dX5_part_2 rfl (lv_at hl 1 rfl) ?_
    refine lv_i2l hx hb dX5_part_3 rfl ?_
    refine lv_lmul hx hb dX5_part_4 ?_
    refine lv_iload_n hx hb dX5_part_5 rfl (lv_at hl 2 rfl) ?_
    refine lv_i2l hx hb dX5_part_6 rfl ?_
    obtain ⟨b7, h⟩ := kIf h
    refine lv_ldiv hx hb dX5_part_7 b7 ?_
    refine lv_l2i hx hb dX5_part_8 rfl ?_
    obtain rfl := Option.some.inj h
    subst hQ
    exact W.iret (v := ((p0.toInt64 * p1.toInt64) / p2.toInt64).toInt32) hx hb hr (fun t ht hW => ⟨⟨((p0.toInt64 * p1.toInt64) / p2.toInt64).toInt32, (), rfl, rfl, kEnd ht hP⟩, hS.F ht⟩) hS.2.2 dX5_part_9
  exact E0 s.heap [] ls hP hD hS hl
def fX5_ageAt (vM : KM) (p1 : Int32) : Option (Int32) := (fX5_layerAt vM p1).bind fun r2 => (fX5_ageAtTop vM r2).bind fun r8 => (fX5_yearsOf vM r2).bind fun r13 => (fX5_top vM r2).bind fun r19 => (fX5_of vM r2 (5 : Int32)).bind fun r26 => (fX5_part r13 (p1 - r19) r26).bind fun r29 => some (r8 + r29)
set_option maxHeartbeats 4000000 in
set_option maxRecDepth 100000 in
theorem cX5_ageAt_ok (l : Launch) (D : va_G) (ty : kTy) (adM : Nat → Nat) (sz : Nat) (vM : KM) (p1 : Int32) (res : Int32) (h : fX5_ageAt vM p1 = some res) : kMI l yX5_ageAt wsX5_ageAt { frames := 5, cells := 0, slots := 0, locals := 118 } [.ref (adM 0), .int p1] D ty (wM ty adM vM) sz res (wM ty adM vM) := by
  refine Met.ofW (cc := cX5_ageAt) (maxL := 3) (ret := (some .int)) (by decide) rfl ?_
  intro p e s m args below meth c s₁ B hml hv
  obtain ⟨rfl, hsz, hP, hK, hD0⟩ := hv
  have hx := B.exec
  have hb := B.bytes
  have hr := B.returns
  have hts := atoms_spec (ws := wsX5_ageAt) B.pre
  have hown : s.vm.findClass RX5 = some m.cls := findClass_of_methodNamed B.named
  have hlocks := B.notSynchronized
  subst hsz
  have hD := hD0.self (sz := s.heap.size)
  generalize hAe : va_A (wM ty adM vM) s.heap.size = A at hD ⊢
  have hA : ∀ q : Nat, s.heap.size ≤ q → A q := fun q h => by rw [← hAe]; exact Or.inr h
  have hS : va_S A s.heap s.heap [] := va_S.rf
  refine kGenW (fun Q hQ => ?_)
  have hl := lv_entry ([.ref (adM 0), .int p1]) (n := 3) (Nat.le_of_ble_eq_true rfl)
  rw [lg_entry_eq]
  generalize (lg_sl ([.ref (adM 0), .int p1]) ++ List.replicate (3 - (lg_sl ([.ref (adM 0), .int p1])).length) Slot.unset).toArray = ls at hl ⊢
  have hl : lv_has ls 3 [(0, .ref (adM 0)), (1, .int p1)] := hl
  unfold fX5_ageAt at h
  have E0 : ∀ (H : Heap) (locs : List Loc) (ls : Array Slot), va_P D vwCl (wM ty adM vM) H → va_D A (wM ty adM vM) → va_S A s.heap H locs → lv_has ls 3 [(0, .ref (adM 0)), (1, .int p1)] → W p l e (headSpec wsX5_ageAt { frames := 5, cells := 0, slots := 0, locals := 118 }).room s m ([.ref (adM 0), .int p1] : List Value).toArray below meth c H locs 0 0 Q (F0 m 0 ls []) := by
    intro H locs ls hP hD hS hl
    refine lv_aload_n hx hb dX5_ageAt_0 rfl (lv_at hl 0 rfl) ?_
    refine lv_iload_n hx hb dX5_ageAt_1 rfl (lv_at hl 1 rfl) ?_
    obtain ⟨r2, e2, h⟩ := kBd h
    refine kCallVI (As := [.int p1]) (rest := []) (wc := wM ty adM vM) (w1 := wM ty adM vM) (wn := wM ty adM vM) ⟨hx, hb, hml, hown, hts⟩ (cX5_layerAt_ok l D ty adM H.size vM p1 r2 e2) (cwV 1 hts gX5_ageAt_X5_layerAt rfl rfl rfl (by decide +kernel) ⟨Nat.le_of_ble_eq_true rfl, Nat.le_of_ble_eq_true rfl⟩) hP hK hD hS hA [0, 1, 2, 3, 4, 5, 6] (by decide) rfl 5 0 rfl rfl rfl rfl hl.1 rfl (Nat.le_of_ble_eq_true rfl) dX5_ageAt_2 ⟨Nat.le_of_ble_eq_true rfl, Nat.le_of_ble_eq_true rfl⟩ rfl rfl (fun H locs hP hD hS => ?_)
    refine lv_istore_n (lv' := [(2, .int r2), (0, .ref (adM 0)), (1, .int p1)]) hx hb dX5_ageAt_5 rfl hl (by decide) rfl (fun ls hl => ?_)
    refine lv_aload_n hx hb dX5_ageAt_6 rfl (lv_at hl 1 rfl) ?_
    refine lv_iload_n hx hb dX5_ageAt_7 rfl (lv_at hl 0 rfl) ?_
    obtain ⟨r8, e8, h⟩ := kBd h
    refine kCallVI (As := [.int r2]) (rest := []) (wc := wM ty adM vM) (w1 := wM ty adM vM) (wn := wM ty adM vM) ⟨hx, hb, hml, hown, hts⟩ (cX5_ageAtTop_ok l D ty adM H.size vM r2 r8 e8) (cwV 1 hts gX5_ageAt_X5_ageAtTop rfl rfl rfl (by decide +kernel) ⟨Nat.le_of_ble_eq_true rfl, Nat.le_of_ble_eq_true rfl⟩) hP hK hD hS hA [0, 1, 2, 3, 4, 5, 6] (by decide) rfl 5 0 rfl rfl rfl rfl hl.1 rfl (Nat.le_of_ble_eq_true rfl) dX5_ageAt_8 ⟨Nat.le_of_ble_eq_true rfl, Nat.le_of_ble_eq_true rfl⟩ rfl rfl (fun H locs hP hD hS => ?_)
    refine lv_aload_n hx hb dX5_ageAt_11 rfl (lv_at hl 1 rfl) ?_
    refine lv_iload_n hx hb dX5_ageAt_12 rfl (lv_at hl 0 rfl) ?_
    obtain ⟨r13, e13, h⟩ := kBd h
    refine kCallVI (As := [.int r2]) (rest := [.int r8]) (wc := wM ty adM vM) (w1 := wM ty adM vM) (wn := wM ty adM vM) ⟨hx, hb, hml, hown, hts⟩ (cX5_yearsOf_ok l D ty adM H.size vM r2 r13 e13) (cwV 1 hts gX5_ageAt_X5_yearsOf rfl rfl rfl (by decide +kernel) ⟨Nat.le_of_ble_eq_true rfl, Nat.le_of_ble_eq_true rfl⟩) hP hK hD hS hA [0, 1, 2, 3, 4, 5, 6] (by decide) rfl 5 0 rfl rfl rfl rfl hl.1 rfl (Nat.le_of_ble_eq_true rfl) dX5_ageAt_13 ⟨Nat.le_of_ble_eq_true rfl, Nat.le_of_ble_eq_true rfl⟩ rfl rfl (fun H locs hP hD hS => ?_)
    refine lv_iload_n hx hb dX5_ageAt_16 rfl (lv_at hl 2 rfl) ?_
    refine lv_aload_n hx hb dX5_ageAt_17 rfl (lv_at hl 1 rfl) ?_
    refine lv_iload_n hx hb dX5_ageAt_18 rfl (lv_at hl 0 rfl) ?_
    obtain ⟨r19, e19, h⟩ := kBd h
    refine kCallVI (As := [.int r2]) (rest := [.int p1, .int r13, .int r8]) (wc := wM ty adM vM) (w1 := wM ty adM vM) (wn := wM ty adM vM) ⟨hx, hb, hml, hown, hts⟩ (cX5_top_ok l D ty adM H.size vM r2 r19 e19) (cwV 1 hts gX5_ageAt_X5_top rfl rfl rfl (by decide +kernel) ⟨Nat.le_of_ble_eq_true rfl, Nat.le_of_ble_eq_true rfl⟩) hP hK hD hS hA [0, 1, 2, 3, 4, 5, 6] (by decide) rfl 5 0 rfl rfl rfl rfl hl.1 rfl (Nat.le_of_ble_eq_true rfl) dX5_ageAt_19 ⟨Nat.le_of_ble_eq_true rfl, Nat.le_of_ble_eq_true rfl⟩ rfl rfl (fun H locs hP hD hS => ?_)
    refine lv_isub hx hb dX5_ageAt_22 ?_
    refine lv_aload_n hx hb dX5_ageAt_23 rfl (lv_at hl 1 rfl) ?_
    refine lv_iload_n hx hb dX5_ageAt_24 rfl (lv_at hl 0 rfl) ?_
    refine lv_iconst (v := 5) hx hb dX5_ageAt_25 (by decide) ?_
    obtain ⟨r26, e26, h⟩ := kBd h
    refine kCallVI (As := [.int r2, .int (5 : Int32)]) (rest := [.int (p1 - r19), .int r13, .int r8]) (wc := wM ty adM vM) (w1 := wM ty adM vM) (wn := wM ty adM vM) ⟨hx, hb, hml, hown, hts⟩ (cX5_of_ok l D ty adM H.size vM r2 (5 : Int32) r26 e26) (cwV 2 hts gX5_ageAt_X5_of rfl rfl rfl (by decide +kernel) ⟨Nat.le_of_ble_eq_true rfl, Nat.le_of_ble_eq_true rfl⟩) hP hK hD hS hA [0, 1, 2, 3, 4, 5, 6] (by decide) rfl 5 0 rfl rfl rfl rfl hl.1 rfl (Nat.le_of_ble_eq_true rfl) dX5_ageAt_26 ⟨Nat.le_of_ble_eq_true rfl, Nat.le_of_ble_eq_true rfl⟩ rfl rfl (fun H locs hP hD hS => ?_)
    obtain ⟨r29, e29, h⟩ := kBd h
    refine kCallSI (As := [.int r13, .int (p1 - r19), .int r26]) (rest := [.int r8]) ⟨hx, hb, hml, hown, hts⟩ (cX5_part_ok l D ty  H.size r13 (p1 - r19) r26 r29 e29) (va_cwS 3 hts gX5_ageAt_X5_part rfl rfl rfl (by decide +kernel) ⟨Nat.le_of_ble_eq_true rfl, Nat.le_of_ble_eq_true rfl⟩) hP hK hD hS hA rfl hl.1 rfl (Nat.le_of_ble_eq_true rfl) dX5_ageAt_29 ⟨Nat.le_of_ble_eq_true rfl, Nat.le_of_ble_eq_true rfl⟩ (fun H locs hP hS => ?_)
    refine lv_iadd hx hb dX5_ageAt_32 ?_
    obtain rfl := Option.some.inj h
    subst hQ
    exact W.iret (v := (r8 + r29)) hx hb hr (fun t ht hW => ⟨⟨(r8 + r29), (), rfl, rfl, kEnd ht hP⟩, hS.F ht⟩) hS.2.2 dX5_ageAt_33
  exact E0 s.heap [] ls hP hD hS hl
def fX5_gasAgeAt (vM : KM) (p1 : Int32) : Option (Int32) := (fX5_ageAt vM p1).bind fun r2 => (fX5_layerAt vM p1).bind fun r8 => (fX5_delayOf vM r8).bind fun r11 => if (0 : Int32) ≤ (r2 - r11) then (some (r2 - r11)) else (some (0 : Int32))
set_option maxHeartbeats 4000000 in
set_option maxRecDepth 100000 in
theorem cX5_gasAgeAt_ok (l : Launch) (D : va_G) (ty : kTy) (adM : Nat → Nat) (sz : Nat) (vM : KM) (p1 : Int32) (res : Int32) (h : fX5_gasAgeAt vM p1 = some res) : kMI l yX5_gasAgeAt wsX5_gasAgeAt { frames := 6, cells := 0, slots := 0, locals := 140 } [.ref (adM 0), .int p1] D ty (wM ty adM vM) sz res (wM ty adM vM) := by
  refine Met.ofW (cc := cX5_gasAgeAt) (maxL := 3) (ret := (some .int)) (by decide) rfl ?_
  intro p e s m args below meth c s₁ B hml hv
  obtain ⟨rfl, hsz, hP, hK, hD0⟩ := hv
  have hx := B.exec
  have hb := B.bytes
  have hr := B.returns
  have hts := atoms_spec (ws := wsX5_gasAgeAt) B.pre
  have hown : s.vm.findClass RX5 = some m.cls := findClass_of_methodNamed B.named
  have hlocks := B.notSynchronized
  subst hsz
  have hD := hD0.self (sz := s.heap.size)
  generalize hAe : va_A (wM ty adM vM) s.heap.size = A at hD ⊢
  have hA : ∀ q : Nat, s.heap.size ≤ q → A q := fun q h => by rw [← hAe]; exact Or.inr h
  have hS : va_S A s.heap s.heap [] := va_S.rf
  refine kGenW (fun Q hQ => ?_)
  have hl := lv_entry ([.ref (adM 0), .int p1]) (n := 3) (Nat.le_of_ble_eq_true rfl)
  rw [lg_entry_eq]
  generalize (lg_sl ([.ref (adM 0), .int p1]) ++ List.replicate (3 - (lg_sl ([.ref (adM 0), .int p1])).length) Slot.unset).toArray = ls at hl ⊢
  have hl : lv_has ls 3 [(0, .ref (adM 0)), (1, .int p1)] := hl
  unfold fX5_gasAgeAt at h
  have E0 : ∀ (H : Heap) (locs : List Loc) (ls : Array Slot), va_P D vwCl (wM ty adM vM) H → va_D A (wM ty adM vM) → va_S A s.heap H locs → lv_has ls 3 [(0, .ref (adM 0)), (1, .int p1)] → W p l e (headSpec wsX5_gasAgeAt { frames := 6, cells := 0, slots := 0, locals := 140 }).room s m ([.ref (adM 0), .int p1] : List Value).toArray below meth c H locs 0 0 Q (F0 m 0 ls []) := by
    intro H locs ls hP hD hS hl
    refine lv_aload_n hx hb dX5_gasAgeAt_0 rfl (lv_at hl 0 rfl) ?_
    refine lv_iload_n hx hb dX5_gasAgeAt_1 rfl (lv_at hl 1 rfl) ?_
    obtain ⟨r2, e2, h⟩ := kBd h
    refine kCallVI (As := [.int p1]) (rest := []) (wc := wM ty adM vM) (w1 := wM ty adM vM) (wn := wM ty adM vM) ⟨hx, hb, hml, hown, hts⟩ (cX5_ageAt_ok l D ty adM H.size vM p1 r2 e2) (cwV 1 hts gX5_gasAgeAt_X5_ageAt rfl rfl rfl (by decide +kernel) ⟨Nat.le_of_ble_eq_true rfl, Nat.le_of_ble_eq_true rfl⟩) hP hK hD hS hA [0, 1, 2, 3, 4, 5, 6] (by decide) rfl 5 0 rfl rfl rfl rfl hl.1 rfl (Nat.le_of_ble_eq_true rfl) dX5_gasAgeAt_2 ⟨Nat.le_of_ble_eq_true rfl, Nat.le_of_ble_eq_true rfl⟩ rfl rfl (fun H locs hP hD hS => ?_)
    refine lv_aload_n hx hb dX5_gasAgeAt_5 rfl (lv_at hl 0 rfl) ?_
    refine lv_aload_n hx hb dX5_gasAgeAt_6 rfl (lv_at hl 0 rfl) ?_
    refine lv_iload_n hx hb dX5_gasAgeAt_7 rfl (lv_at hl 1 rfl) ?_
    obtain ⟨r8, e8, h⟩ := kBd h
    refine kCallVI (As := [.int p1]) (rest := [.ref (adM 0), .int r2]) (wc := wM ty adM vM) (w1 := wM ty adM vM) (wn := wM ty adM vM) ⟨hx, hb, hml, hown, hts⟩ (cX5_layerAt_ok l D ty adM H.size vM p1 r8 e8) (cwV 1 hts gX5_gasAgeAt_X5_layerAt rfl rfl rfl (by decide +kernel) ⟨Nat.le_of_ble_eq_true rfl, Nat.le_of_ble_eq_true rfl⟩) hP hK hD hS hA [0, 1, 2, 3, 4, 5, 6] (by decide) rfl 5 0 rfl rfl rfl rfl hl.1 rfl (Nat.le_of_ble_eq_true rfl) dX5_gasAgeAt_8 ⟨Nat.le_of_ble_eq_true rfl, Nat.le_of_ble_eq_true rfl⟩ rfl rfl (fun H locs hP hD hS => ?_)
    obtain ⟨r11, e11, h⟩ := kBd h
    refine kCallVI (As := [.int r8]) (rest := [.int r2]) (wc := wM ty adM vM) (w1 := wM ty adM vM) (wn := wM ty adM vM) ⟨hx, hb, hml, hown, hts⟩ (cX5_delayOf_ok l D ty adM H.size vM r8 r11 e11) (cwV 1 hts gX5_gasAgeAt_X5_delayOf rfl rfl rfl (by decide +kernel) ⟨Nat.le_of_ble_eq_true rfl, Nat.le_of_ble_eq_true rfl⟩) hP hK hD hS hA [0, 1, 2, 3, 4, 5, 6] (by decide) rfl 5 0 rfl rfl rfl rfl hl.1 rfl (Nat.le_of_ble_eq_true rfl) dX5_gasAgeAt_11 ⟨Nat.le_of_ble_eq_true rfl, Nat.le_of_ble_eq_true rfl⟩ rfl rfl (fun H locs hP hD hS => ?_)
    refine lv_isub hx hb dX5_gasAgeAt_14 ?_
    refine lv_istore_n (lv' := [(2, .int (r2 - r11)), (0, .ref (adM 0)), (1, .int p1)]) hx hb dX5_gasAgeAt_15 rfl hl (by decide) rfl (fun ls hl => ?_)
    refine lv_iload_n hx hb dX5_gasAgeAt_16 rfl (lv_at hl 0 rfl) ?_
    refine lv_if_ge (tgt := 24) hx hb dX5_gasAgeAt_17 (by decide) (fun c17 => ?_) (fun c17 => ?_)
    · have h := kT h c17
      refine lv_iload_n hx hb dX5_gasAgeAt_24 rfl (lv_at hl 0 rfl) ?_
      obtain rfl := Option.some.inj h
      subst hQ
      exact W.iret (v := (r2 - r11)) hx hb hr (fun t ht hW => ⟨⟨(r2 - r11), (), rfl, rfl, kEnd ht hP⟩, hS.F ht⟩) hS.2.2 dX5_gasAgeAt_25
    · have h := kF h c17
      refine lv_iconst (v := 0) hx hb dX5_gasAgeAt_20 (by decide) ?_
      refine lv_goto (tgt := 25) hx hb dX5_gasAgeAt_21 (by decide) ?_
      obtain rfl := Option.some.inj h
      subst hQ
      exact W.iret (v := (0 : Int32)) hx hb hr (fun t ht hW => ⟨⟨(0 : Int32), (), rfl, rfl, kEnd ht hP⟩, hS.F ht⟩) hS.2.2 dX5_gasAgeAt_25
  exact E0 s.heap [] ls hP hD hS hl
def fX5_bottom (vM : KM) : Option (Int32) := if kIn (0 : Int32) 133 = true then ((fX5_top vM (vM.2.2.2.2.2.2.1 (0 : Int32).toNatClampNeg)).bind fun r7 => some r7) else none
set_option maxHeartbeats 4000000 in
set_option maxRecDepth 100000 in
theorem cX5_bottom_ok (l : Launch) (D : va_G) (ty : kTy) (adM : Nat → Nat) (sz : Nat) (vM : KM) (res : Int32) (h : fX5_bottom vM = some res) : kMI l yX5_bottom wsX5_bottom { frames := 2, cells := 0, slots := 0, locals := 45 } [.ref (adM 0)] D ty (wM ty adM vM) sz res (wM ty adM vM) := by
  refine Met.ofW (cc := cX5_bottom) (maxL := 1) (ret := (some .int)) (by decide) rfl ?_
  intro p e s m args below meth c s₁ B hml hv
  obtain ⟨rfl, hsz, hP, hK, hD0⟩ := hv
  have hx := B.exec
  have hb := B.bytes
  have hr := B.returns
  have hts := atoms_spec (ws := wsX5_bottom) B.pre
  have hown : s.vm.findClass RX5 = some m.cls := findClass_of_methodNamed B.named
  have hlocks := B.notSynchronized
  subst hsz
  have hD := hD0.self (sz := s.heap.size)
  generalize hAe : va_A (wM ty adM vM) s.heap.size = A at hD ⊢
  have hA : ∀ q : Nat, s.heap.size ≤ q → A q := fun q h => by rw [← hAe]; exact Or.inr h
  have hS : va_S A s.heap s.heap [] := va_S.rf
  refine kGenW (fun Q hQ => ?_)
  have wf0 := hts (.fieldLink RX5 7 "IceCoreDaterModel" "now" "[I") (by decide +kernel)
  have hinX5 : ∀ w ∈ wsX50, w ∈ wsX5_bottom := by decide +kernel
  have hl := lv_entry ([.ref (adM 0)]) (n := 1) (Nat.le_of_ble_eq_true rfl)
  rw [lg_entry_eq]
  generalize (lg_sl ([.ref (adM 0)]) ++ List.replicate (1 - (lg_sl ([.ref (adM 0)])).length) Slot.unset).toArray = ls at hl ⊢
  have hl : lv_has ls 1 [(0, .ref (adM 0))] := hl
  unfold fX5_bottom at h
  have E0 : ∀ (H : Heap) (locs : List Loc) (ls : Array Slot), va_P D vwCl (wM ty adM vM) H → va_D A (wM ty adM vM) → va_S A s.heap H locs → lv_has ls 1 [(0, .ref (adM 0))] → W p l e (headSpec wsX5_bottom { frames := 2, cells := 0, slots := 0, locals := 45 }).room s m ([.ref (adM 0)] : List Value).toArray below meth c H locs 0 0 Q (F0 m 0 ls []) := by
    intro H locs ls hP hD hS hl
    refine lv_aload_n hx hb dX5_bottom_0 rfl (lv_at hl 0 rfl) ?_
    refine lv_aload_n hx hb dX5_bottom_1 rfl (lv_at hl 0 rfl) ?_
    refine va_get (D := D) (ci := 5) (v := .ref (adM 1)) (C := RX5) (T := TX5) (N := 12) hx hb hts hinX5 hown hK.1 hP 0 rfl rfl 0 (by decide) wf0 (fun _ h9 => h9) rfl dX5_bottom_2 ?_
    refine lv_iconst (v := 0) hx hb dX5_bottom_5 (by decide) ?_
    obtain ⟨b6, h⟩ := kIf h
    refine va_iald (f := vM.2.2.2.2.2.2.1) (n := 133) hx hb hK.1 hP 1 0 rfl rfl (kIn_ok b6) dX5_bottom_6 ?_
    obtain ⟨r7, e7, h⟩ := kBd h
    refine kCallVI (As := [.int (vM.2.2.2.2.2.2.1 (0 : Int32).toNatClampNeg)]) (rest := []) (wc := wM ty adM vM) (w1 := wM ty adM vM) (wn := wM ty adM vM) ⟨hx, hb, hml, hown, hts⟩ (cX5_top_ok l D ty adM H.size vM (vM.2.2.2.2.2.2.1 (0 : Int32).toNatClampNeg) r7 e7) (cwV 1 hts gX5_bottom_X5_top rfl rfl rfl (by decide +kernel) ⟨Nat.le_of_ble_eq_true rfl, Nat.le_of_ble_eq_true rfl⟩) hP hK hD hS hA [0, 1, 2, 3, 4, 5, 6] (by decide) rfl 5 0 rfl rfl rfl rfl hl.1 rfl (Nat.le_of_ble_eq_true rfl) dX5_bottom_7 ⟨Nat.le_of_ble_eq_true rfl, Nat.le_of_ble_eq_true rfl⟩ rfl rfl (fun H locs hP hD hS => ?_)
    obtain rfl := Option.some.inj h
    subst hQ
    exact W.iret (v := r7) hx hb hr (fun t ht hW => ⟨⟨r7, (), rfl, rfl, kEnd ht hP⟩, hS.F ht⟩) hS.2.2 dX5_bottom_10
  exact E0 s.heap [] ls hP hD hS hl
def fX5_residualOf (vM : KM) (p1 : Int32) : Option (Int32) := (fX5_ageAtTop vM (p1 + (1 : Int32))).bind fun r4 => (fX5_of vM p1 (10 : Int32)).bind fun r11 => some (r4 - r11)
set_option maxHeartbeats 4000000 in
set_option maxRecDepth 100000 in
theorem cX5_residualOf_ok (l : Launch) (D : va_G) (ty : kTy) (adM : Nat → Nat) (sz : Nat) (vM : KM) (p1 : Int32) (res : Int32) (h : fX5_residualOf vM p1 = some res) : kMI l yX5_residualOf wsX5_residualOf { frames := 5, cells := 0, slots := 0, locals := 118 } [.ref (adM 0), .int p1] D ty (wM ty adM vM) sz res (wM ty adM vM) := by
  refine Met.ofW (cc := cX5_residualOf) (maxL := 2) (ret := (some .int)) (by decide) rfl ?_
  intro p e s m args below meth c s₁ B hml hv
  obtain ⟨rfl, hsz, hP, hK, hD0⟩ := hv
  have hx := B.exec
  have hb := B.bytes
  have hr := B.returns
  have hts := atoms_spec (ws := wsX5_residualOf) B.pre
  have hown : s.vm.findClass RX5 = some m.cls := findClass_of_methodNamed B.named
  have hlocks := B.notSynchronized
  subst hsz
  have hD := hD0.self (sz := s.heap.size)
  generalize hAe : va_A (wM ty adM vM) s.heap.size = A at hD ⊢
  have hA : ∀ q : Nat, s.heap.size ≤ q → A q := fun q h => by rw [← hAe]; exact Or.inr h
  have hS : va_S A s.heap s.heap [] := va_S.rf
  refine kGenW (fun Q hQ => ?_)
  have hl := lv_entry ([.ref (adM 0), .int p1]) (n := 2) (Nat.le_of_ble_eq_true rfl)
  rw [lg_entry_eq]
  generalize (lg_sl ([.ref (adM 0), .int p1]) ++ List.replicate (2 - (lg_sl ([.ref (adM 0), .int p1])).length) Slot.unset).toArray = ls at hl ⊢
  have hl : lv_has ls 2 [(0, .ref (adM 0)), (1, .int p1)] := hl
  unfold fX5_residualOf at h
  have E0 : ∀ (H : Heap) (locs : List Loc) (ls : Array Slot), va_P D vwCl (wM ty adM vM) H → va_D A (wM ty adM vM) → va_S A s.heap H locs → lv_has ls 2 [(0, .ref (adM 0)), (1, .int p1)] → W p l e (headSpec wsX5_residualOf { frames := 5, cells := 0, slots := 0, locals := 118 }).room s m ([.ref (adM 0), .int p1] : List Value).toArray below meth c H locs 0 0 Q (F0 m 0 ls []) := by
    intro H locs ls hP hD hS hl
    refine lv_aload_n hx hb dX5_residualOf_0 rfl (lv_at hl 0 rfl) ?_
    refine lv_iload_n hx hb dX5_residualOf_1 rfl (lv_at hl 1 rfl) ?_
    refine lv_iconst (v := 1) hx hb dX5_residualOf_2 (by decide) ?_
    refine lv_iadd hx hb dX5_residualOf_3 ?_
    obtain ⟨r4, e4, h⟩ := kBd h
    refine kCallVI (As := [.int (p1 + (1 : Int32))]) (rest := []) (wc := wM ty adM vM) (w1 := wM ty adM vM) (wn := wM ty adM vM) ⟨hx, hb, hml, hown, hts⟩ (cX5_ageAtTop_ok l D ty adM H.size vM (p1 + (1 : Int32)) r4 e4) (cwV 1 hts gX5_residualOf_X5_ageAtTop rfl rfl rfl (by decide +kernel) ⟨Nat.le_of_ble_eq_true rfl, Nat.le_of_ble_eq_true rfl⟩) hP hK hD hS hA [0, 1, 2, 3, 4, 5, 6] (by decide) rfl 5 0 rfl rfl rfl rfl hl.1 rfl (Nat.le_of_ble_eq_true rfl) dX5_residualOf_4 ⟨Nat.le_of_ble_eq_true rfl, Nat.le_of_ble_eq_true rfl⟩ rfl rfl (fun H locs hP hD hS => ?_)
    refine lv_aload_n hx hb dX5_residualOf_7 rfl (lv_at hl 0 rfl) ?_
    refine lv_iload_n hx hb dX5_residualOf_8 rfl (lv_at hl 1 rfl) ?_
    refine lv_bipush (v := 10) hx hb dX5_residualOf_9 (by decide) ?_
    obtain ⟨r11, e11, h⟩ := kBd h
    refine kCallVI (As := [.int p1, .int (10 : Int32)]) (rest := [.int r4]) (wc := wM ty adM vM) (w1 := wM ty adM vM) (wn := wM ty adM vM) ⟨hx, hb, hml, hown, hts⟩ (cX5_of_ok l D ty adM H.size vM p1 (10 : Int32) r11 e11) (cwV 2 hts gX5_residualOf_X5_of rfl rfl rfl (by decide +kernel) ⟨Nat.le_of_ble_eq_true rfl, Nat.le_of_ble_eq_true rfl⟩) hP hK hD hS hA [0, 1, 2, 3, 4, 5, 6] (by decide) rfl 5 0 rfl rfl rfl rfl hl.1 rfl (Nat.le_of_ble_eq_true rfl) dX5_residualOf_11 ⟨Nat.le_of_ble_eq_true rfl, Nat.le_of_ble_eq_true rfl⟩ rfl rfl (fun H locs hP hD hS => ?_)
    refine lv_isub hx hb dX5_residualOf_14 ?_
    obtain rfl := Option.some.inj h
    subst hQ
    exact W.iret (v := (r4 - r11)) hx hb hr (fun t ht hW => ⟨⟨(r4 - r11), (), rfl, rfl, kEnd ht hP⟩, hS.F ht⟩) hS.2.2 dX5_residualOf_15
  exact E0 s.heap [] ls hP hD hS hl
def fX5_ashes_c4 (vM : KM) (x1 : Int32) (x2 : Int32) (nx4 : Int32 × Int32 → Option (Int32)) : Option (Int32) := if kIn (0 : Int32) 133 = true then (if (vM.2.2.2.2.2.2.1 (0 : Int32).toNatClampNeg) ≤ x2 then some x1 else ((fX5_of vM x2 (9 : Int32)).bind fun r19 => nx4 ((x1 + r19), (x2 + 1)))) else none
def fX5_ashes (vM : KM) : Option (Int32) := kLoopC kFu (fun q nx4 => fX5_ashes_c4 vM q.1 q.2 nx4) ((0 : Int32), (0 : Int32))
set_option maxHeartbeats 4000000 in
set_option maxRecDepth 100000 in
theorem cX5_ashes_ok (l : Launch) (D : va_G) (ty : kTy) (adM : Nat → Nat) (sz : Nat) (vM : KM) (res : Int32) (h : fX5_ashes vM = some res) : kMI l yX5_ashes wsX5_ashes { frames := 1, cells := 0, slots := 0, locals := 22 } [.ref (adM 0)] D ty (wM ty adM vM) sz res (wM ty adM vM) := by
  refine Met.ofW (cc := cX5_ashes) (maxL := 3) (ret := (some .int)) (by decide) rfl ?_
  intro p e s m args below meth c s₁ B hml hv
  obtain ⟨rfl, hsz, hP, hK, hD0⟩ := hv
  have hx := B.exec
  have hb := B.bytes
  have hr := B.returns
  have hts := atoms_spec (ws := wsX5_ashes) B.pre
  have hown : s.vm.findClass RX5 = some m.cls := findClass_of_methodNamed B.named
  have hlocks := B.notSynchronized
  subst hsz
  have hD := hD0.self (sz := s.heap.size)
  generalize hAe : va_A (wM ty adM vM) s.heap.size = A at hD ⊢
  have hA : ∀ q : Nat, s.heap.size ≤ q → A q := fun q h => by rw [← hAe]; exact Or.inr h
  have hS : va_S A s.heap s.heap [] := va_S.rf
  refine kGenW (fun Q hQ => ?_)
  have wf0 := hts (.fieldLink RX5 7 "IceCoreDaterModel" "now" "[I") (by decide +kernel)
  have hinX5 : ∀ w ∈ wsX50, w ∈ wsX5_ashes := by decide +kernel
  have B4 : ∀ (nx4 : Int32 × Int32 → Option (Int32)) (hn4 : ∀ (x1 : Int32) (x2 : Int32), nx4 (x1, x2) = some res → ∀ (H : Heap) (locs : List Loc) (ls : Array Slot), va_P D vwCl (wM ty adM vM) H → va_D A (wM ty adM vM) → va_S A s.heap H locs → lv_has ls 3 [(0, .ref (adM 0)), (1, .int x1), (2, .int x2)] → W p l e (headSpec wsX5_ashes { frames := 1, cells := 0, slots := 0, locals := 22 }).room s m ([.ref (adM 0)] : List Value).toArray below meth c H locs 0 0 Q (F0 m 4 ls [])) (x1 : Int32) (x2 : Int32), fX5_ashes_c4 vM x1 x2 nx4 = some res → ∀ (H : Heap) (locs : List Loc) (ls : Array Slot), va_P D vwCl (wM ty adM vM) H → va_D A (wM ty adM vM) → va_S A s.heap H locs → lv_has ls 3 [(0, .ref (adM 0)), (1, .int x1), (2, .int x2)] → W p l e (headSpec wsX5_ashes { frames := 1, cells := 0, slots := 0, locals := 22 }).room s m ([.ref (adM 0)] : List Value).toArray below meth c H locs 0 0 Q (F0 m 4 ls []) := by
    intro  nx4 hn4 x1 x2 h H locs ls hP hD hS hl
    unfold fX5_ashes_c4 at h
    refine lv_iload_n hx hb dX5_ashes_4 rfl (lv_at hl 2 rfl) ?_
    refine lv_aload_n hx hb dX5_ashes_5 rfl (lv_at hl 0 rfl) ?_
    refine va_get (D := D) (ci := 5) (v := .ref (adM 1)) (C := RX5) (T := TX5) (N := 12) hx hb hts hinX5 hown hK.1 hP 0 rfl rfl 0 (by decide) wf0 (fun _ h9 => h9) rfl dX5_ashes_6 ?_
    refine lv_iconst (v := 0) hx hb dX5_ashes_9 (by decide) ?_
    obtain ⟨b10, h⟩ := kIf h
    refine va_iald (f := vM.2.2.2.2.2.2.1) (n := 133) hx hb hK.1 hP 1 0 rfl rfl (kIn_ok b10) dX5_ashes_10 ?_
    refine lv_icmp_ge (tgt := 30) hx hb dX5_ashes_11 (by decide) (fun c11 => ?_) (fun c11 => ?_)
    · have h := kT h c11
      refine lv_iload_n hx hb dX5_ashes_30 rfl (lv_at hl 1 rfl) ?_
      obtain rfl := Option.some.inj h
      subst hQ
      exact W.iret (v := x1) hx hb hr (fun t ht hW => ⟨⟨x1, (), rfl, rfl, kEnd ht hP⟩, hS.F ht⟩) hS.2.2 dX5_ashes_31
    · have h := kF h c11
      refine lv_iload_n hx hb dX5_ashes_14 rfl (lv_at hl 1 rfl) ?_
      refine lv_aload_n hx hb dX5_ashes_15 rfl (lv_at hl 0 rfl) ?_
      refine lv_iload_n hx hb dX5_ashes_16 rfl (lv_at hl 2 rfl) ?_
      refine lv_bipush (v := 9) hx hb dX5_ashes_17 (by decide) ?_
      obtain ⟨r19, e19, h⟩ := kBd h
      refine kCallVI (As := [.int x2, .int (9 : Int32)]) (rest := [.int x1]) (wc := wM ty adM vM) (w1 := wM ty adM vM) (wn := wM ty adM vM) ⟨hx, hb, hml, hown, hts⟩ (cX5_of_ok l D ty adM H.size vM x2 (9 : Int32) r19 e19) (cwV 2 hts gX5_ashes_X5_of rfl rfl rfl (by decide +kernel) ⟨Nat.le_of_ble_eq_true rfl, Nat.le_of_ble_eq_true rfl⟩) hP hK hD hS hA [0, 1, 2, 3, 4, 5, 6] (by decide) rfl 5 0 rfl rfl rfl rfl hl.1 rfl (Nat.le_of_ble_eq_true rfl) dX5_ashes_19 ⟨Nat.le_of_ble_eq_true rfl, Nat.le_of_ble_eq_true rfl⟩ rfl rfl (fun H locs hP hD hS => ?_)
      refine lv_iadd hx hb dX5_ashes_22 ?_
      refine lv_istore_n (lv' := [(1, .int (x1 + r19)), (0, .ref (adM 0)), (2, .int x2)]) hx hb dX5_ashes_23 rfl hl (by decide) rfl (fun ls hl => ?_)
      refine lv_iinc (v := (x2 + 1)) (lv' := [(2, .int (x2 + 1)), (1, .int (x1 + r19)), (0, .ref (adM 0))]) hx hb dX5_ashes_24 hl (k := 2) rfl rfl (by decide) rfl (fun ls hl => ?_)
      refine lv_goto (tgt := 4) hx hb dX5_ashes_27 (by decide) ?_
      exact hn4 (x1 + r19) (x2 + 1) h H locs ls hP hD hS (lv_sub hl [2, 1, 0] rfl)
  have L4 : ∀  (n : Nat) (x1 : Int32) (x2 : Int32), kLoopC n (fun q nx4 => fX5_ashes_c4 vM q.1 q.2 nx4) (x1, x2) = some res → ∀ (H : Heap) (locs : List Loc) (ls : Array Slot), va_P D vwCl (wM ty adM vM) H → va_D A (wM ty adM vM) → va_S A s.heap H locs → lv_has ls 3 [(0, .ref (adM 0)), (1, .int x1), (2, .int x2)] → W p l e (headSpec wsX5_ashes { frames := 1, cells := 0, slots := 0, locals := 22 }).room s m ([.ref (adM 0)] : List Value).toArray below meth c H locs 0 0 Q (F0 m 4 ls []) := by
    intro  n
    induction n with
    | zero => intro x1 x2 h; exact absurd h (by simp [kLoopC])
    | succ n ih => intro x1 x2 h; exact B4  (kLoopC n (fun q nx4 => fX5_ashes_c4 vM q.1 q.2 nx4)) ih x1 x2 h
  have hl := lv_entry ([.ref (adM 0)]) (n := 3) (Nat.le_of_ble_eq_true rfl)
  rw [lg_entry_eq]
  generalize (lg_sl ([.ref (adM 0)]) ++ List.replicate (3 - (lg_sl ([.ref (adM 0)])).length) Slot.unset).toArray = ls at hl ⊢
  have hl : lv_has ls 3 [(0, .ref (adM 0))] := hl
  unfold fX5_ashes at h
  have E0 : ∀ (H : Heap) (locs : List Loc) (ls : Array Slot), va_P D vwCl (wM ty adM vM) H → va_D A (wM ty adM vM) → va_S A s.heap H locs → lv_has ls 3 [(0, .ref (adM 0))] → W p l e (headSpec wsX5_ashes { frames := 1, cells := 0, slots := 0, locals := 22 }).room s m ([.ref (adM 0)] : List Value).toArray below meth c H locs 0 0 Q (F0 m 0 ls []) := by
    intro H locs ls hP hD hS hl
    refine lv_iconst (v := 0) hx hb dX5_ashes_0 (by decide) ?_
    refine lv_istore_n (lv' := [(1, .int (0 : Int32)), (0, .ref (adM 0))]) hx hb dX5_ashes_1 rfl hl (by decide) rfl (fun ls hl => ?_)
    refine lv_iconst (v := 0) hx hb dX5_ashes_2 (by decide) ?_
    refine lv_istore_n (lv' := [(2, .int (0 : Int32)), (1, .int (0 : Int32)), (0, .ref (adM 0))]) hx hb dX5_ashes_3 rfl hl (by decide) rfl (fun ls hl => ?_)
    exact L4   kFu (0 : Int32) (0 : Int32) h H locs ls hP hD hS (lv_sub hl [2, 1, 0] rfl)
  exact E0 s.heap [] ls hP hD hS hl
def fX5_fits_c4 (vM : KM) (x1 : Int32) (x2 : Int32) (nx4 : Int32 × Int32 → Option (Int32)) : Option (Int32) := if kIn (0 : Int32) 133 = true then (if (vM.2.2.2.2.2.2.1 (0 : Int32).toNatClampNeg) ≤ x2 then some x1 else ((fX5_of vM x2 (9 : Int32)).bind fun r19 => if ¬ r19 = (1 : Int32) then (nx4 ((x1 + (0 : Int32)), (x2 + 1))) else ((fX5_residualOf vM x2).bind fun r28 => (fX5_size r28.toInt64).bind fun r32 => (fX5_of vM x2 (11 : Int32)).bind fun r39 => if r39.toInt64 < r32 then (nx4 ((x1 + (0 : Int32)), (x2 + 1))) else (nx4 ((x1 + (1 : Int32)), (x2 + 1)))))) else none
def fX5_fits (vM : KM) : Option (Int32) := kLoopC kFu (fun q nx4 => fX5_fits_c4 vM q.1 q.2 nx4) ((0 : Int32), (0 : Int32))
set_option maxHeartbeats 4000000 in
set_option maxRecDepth 100000 in
theorem cX5_fits_ok (l : Launch) (D : va_G) (ty : kTy) (adM : Nat → Nat) (sz : Nat) (vM : KM) (res : Int32) (h : fX5_fits vM = some res) : kMI l yX5_fits wsX5_fits { frames := 6, cells := 0, slots := 0, locals := 139 } [.ref (adM 0)] D ty (wM ty adM vM) sz res (wM ty adM vM) := by
  refine Met.ofW (cc := cX5_fits) (maxL := 3) (ret := (some .int)) (by decide) rfl ?_
  intro p e s m args below meth c s₁ B hml hv
  obtain ⟨rfl, hsz, hP, hK, hD0⟩ := hv
  have hx := B.exec
  have hb := B.bytes
  have hr := B.returns
  have hts := atoms_spec (ws := wsX5_fits) B.pre
  have hown : s.vm.findClass RX5 = some m.cls := findClass_of_methodNamed B.named
  have hlocks := B.notSynchronized
  subst hsz
  have hD := hD0.self (sz := s.heap.size)
  generalize hAe : va_A (wM ty adM vM) s.heap.size = A at hD ⊢
  have hA : ∀ q : Nat, s.heap.size ≤ q → A q := fun q h => by rw [← hAe]; exact Or.inr h
  have hS : va_S A s.heap s.heap [] := va_S.rf
  refine kGenW (fun Q hQ => ?_)
  have wf0 := hts (.fieldLink RX5 7 "IceCoreDaterModel" "now" "[I") (by decide +kernel)
  have hinX5 : ∀ w ∈ wsX50, w ∈ wsX5_fits := by decide +kernel
  have B4 : ∀ (nx4 : Int32 × Int32 → Option (Int32)) (hn4 : ∀ (x1 : Int32) (x2 : Int32), nx4 (x1, x2) = some res → ∀ (H : Heap) (locs : List Loc) (ls : Array Slot), va_P D vwCl (wM ty adM vM) H → va_D A (wM ty adM vM) → va_S A s.heap H locs → lv_has ls 3 [(0, .ref (adM 0)), (1, .int x1), (2, .int x2)] → W p l e (headSpec wsX5_fits { frames := 6, cells := 0, slots := 0, locals := 139 }).room s m ([.ref (adM 0)] : List Value).toArray below meth c H locs 0 0 Q (F0 m 4 ls [])) (x1 : Int32) (x2 : Int32), fX5_fits_c4 vM x1 x2 nx4 = some res → ∀ (H : Heap) (locs : List Loc) (ls : Array Slot), va_P D vwCl (wM ty adM vM) H → va_D A (wM ty adM vM) → va_S A s.heap H locs → lv_has ls 3 [(0, .ref (adM 0)), (1, .int x1), (2, .int x2)] → W p l e (headSpec wsX5_fits { frames := 6, cells := 0, slots := 0, locals := 139 }).room s m ([.ref (adM 0)] : List Value).toArray below meth c H locs 0 0 Q (F0 m 4 ls []) := by
    intro  nx4 hn4 x1 x2 h H locs ls hP hD hS hl
    unfold fX5_fits_c4 at h
    refine lv_iload_n hx hb dX5_fits_4 rfl (lv_at hl 2 rfl) ?_
    refine lv_aload_n hx hb dX5_fits_5 rfl (lv_at hl 0 rfl) ?_
    refine va_get (D := D) (ci := 5) (v := .ref (adM 1)) (C := RX5) (T := TX5) (N := 12) hx hb hts hinX5 hown hK.1 hP 0 rfl rfl 0 (by decide) wf0 (fun _ h9 => h9) rfl dX5_fits_6 ?_
    refine lv_iconst (v := 0) hx hb dX5_fits_9 (by decide) ?_
    obtain ⟨b10, h⟩ := kIf h
    refine va_iald (f := vM.2.2.2.2.2.2.1) (n := 133) hx hb hK.1 hP 1 0 rfl rfl (kIn_ok b10) dX5_fits_10 ?_
    refine lv_icmp_ge (tgt := 60) hx hb dX5_fits_11 (by decide) (fun c11 => ?_) (fun c11 => ?_)
    · have h := kT h c11
      refine lv_iload_n hx hb dX5_fits_60 rfl (lv_at hl 1 rfl) ?_
      obtain rfl := Option.some.inj h
      subst hQ
      exact W.iret (v := x1) hx hb hr (fun t ht hW => ⟨⟨x1, (), rfl, rfl, kEnd ht hP⟩, hS.F ht⟩) hS.2.2 dX5_fits_61
    · have h := kF h c11
      refine lv_iload_n hx hb dX5_fits_14 rfl (lv_at hl 1 rfl) ?_
      refine lv_aload_n hx hb dX5_fits_15 rfl (lv_at hl 0 rfl) ?_
      refine lv_iload_n hx hb dX5_fits_16 rfl (lv_at hl 2 rfl) ?_
      refine lv_bipush (v := 9) hx hb dX5_fits_17 (by decide) ?_
      obtain ⟨r19, e19, h⟩ := kBd h
      refine kCallVI (As := [.int x2, .int (9 : Int32)]) (rest := [.int x1]) (wc := wM ty adM vM) (w1 := wM ty adM vM) (wn := wM ty adM vM) ⟨hx, hb, hml, hown, hts⟩ (cX5_of_ok l D ty adM H.size vM x2 (9 : Int32) r19 e19) (cwV 2 hts gX5_fits_X5_of rfl rfl rfl (by decide +kernel) ⟨Nat.le_of_ble_eq_true rfl, Nat.le_of_ble_eq_true rfl⟩) hP hK hD hS hA [0, 1, 2, 3, 4, 5, 6] (by decide) rfl 5 0 rfl rfl rfl rfl hl.1 rfl (Nat.le_of_ble_eq_true rfl) dX5_fits_19 ⟨Nat.le_of_ble_eq_true rfl, Nat.le_of_ble_eq_true rfl⟩ rfl rfl (fun H locs hP hD hS => ?_)
      refine lv_iconst (v := 1) hx hb dX5_fits_22 (by decide) ?_
      refine lv_icmp_ne (tgt := 51) hx hb dX5_fits_23 (by decide) (fun c23 => ?_) (fun c23 => ?_)
      · have h := kT h c23
        refine lv_iconst (v := 0) hx hb dX5_fits_51 (by decide) ?_
        refine lv_iadd hx hb dX5_fits_52 ?_
        refine lv_istore_n (lv' := [(1, .int (x1 + (0 : Int32))), (0, .ref (adM 0)), (2, .int x2)]) hx hb dX5_fits_53 rfl hl (by decide) rfl (fun ls hl => ?_)
        refine lv_iinc (v := (x2 + 1)) (lv' := [(2, .int (x2 + 1)), (1, .int (x1 + (0 : Int32))), (0, .ref (adM 0))]) hx hb dX5_fits_54 hl (k := 2) rfl rfl (by decide) rfl (fun ls hl => ?_)
        refine lv_goto (tgt := 4) hx hb dX5_fits_57 (by decide) ?_
        exact hn4 (x1 + (0 : Int32)) (x2 + 1) h H locs ls hP hD hS (lv_sub hl [2, 1, 0] rfl)
      · have h := kF h (fun z => z c23)
        refine lv_aload_n hx hb dX5_fits_26 rfl (lv_at hl 0 rfl) ?_
        refine lv_iload_n hx hb dX5_fits_27 rfl (lv_at hl 2 rfl) ?_
        obtain ⟨r28, e28, h⟩ := kBd h
        refine kCallVI (As := [.int x2]) (rest := [.int x1]) (wc := wM ty adM vM) (w1 := wM ty adM vM) (wn := wM ty adM vM) ⟨hx, hb, hml, hown, hts⟩ (cX5_residualOf_ok l D ty adM H.size vM x2 r28 e28) (cwV 1 hts gX5_fits_X5_residualOf rfl rfl rfl (by decide +kernel) ⟨Nat.le_of_ble_eq_true rfl, Nat.le_of_ble_eq_true rfl⟩) hP hK hD hS hA [0, 1, 2, 3, 4, 5, 6] (by decide) rfl 5 0 rfl rfl rfl rfl hl.1 rfl (Nat.le_of_ble_eq_true rfl) dX5_fits_28 ⟨Nat.le_of_ble_eq_true rfl, Nat.le_of_ble_eq_true rfl⟩ rfl rfl (fun H locs hP hD hS => ?_)
        refine lv_i2l hx hb dX5_fits_31 rfl ?_
        obtain ⟨r32, e32, h⟩ := kBd h
        refine kCallSL (As := [.long r28.toInt64]) (rest := [.int x1]) ⟨hx, hb, hml, hown, hts⟩ (cX5_size_ok l D ty  H.size r28.toInt64 r32 e32) (va_cwS 1 hts gX5_fits_X5_size rfl rfl rfl (by decide +kernel) ⟨Nat.le_of_ble_eq_true rfl, Nat.le_of_ble_eq_true rfl⟩) hP hK hD hS hA rfl hl.1 rfl (Nat.le_of_ble_eq_true rfl) dX5_fits_32 ⟨Nat.le_of_ble_eq_true rfl, Nat.le_of_ble_eq_true rfl⟩ (fun H locs hP hS => ?_)
        refine lv_aload_n hx hb dX5_fits_35 rfl (lv_at hl 0 rfl) ?_
        refine lv_iload_n hx hb dX5_fits_36 rfl (lv_at hl 2 rfl) ?_
        refine lv_bipush (v := 11) hx hb dX5_fits_37 (by decide) ?_
        obtain ⟨r39, e39, h⟩ := kBd h
        refine kCallVI (As := [.int x2, .int (11 : Int32)]) (rest := [.long r32, .int x1]) (wc := wM ty adM vM) (w1 := wM ty adM vM) (wn := wM ty adM vM) ⟨hx, hb, hml, hown, hts⟩ (cX5_of_ok l D ty adM H.size vM x2 (11 : Int32) r39 e39) (cwV 2 hts gX5_fits_X5_of rfl rfl rfl (by decide +kernel) ⟨Nat.le_of_ble_eq_true rfl, Nat.le_of_ble_eq_true rfl⟩) hP hK hD hS hA [0, 1, 2, 3, 4, 5, 6] (by decide) rfl 5 0 rfl rfl rfl rfl hl.1 rfl (Nat.le_of_ble_eq_true rfl) dX5_fits_39 ⟨Nat.le_of_ble_eq_true rfl, Nat.le_of_ble_eq_true rfl⟩ rfl rfl (fun H locs hP hD hS => ?_)
        refine lv_i2l hx hb dX5_fits_42 rfl ?_
        refine W.lcmp hx hb dX5_fits_43 ?_
        refine lv_if_gt (tgt := 51) hx hb dX5_fits_44 (by decide) (fun c44 => ?_) (fun c44 => ?_)
        · have h := kT h ((lg_cmp_gt _ _).mp c44)
          refine lv_iconst (v := 0) hx hb dX5_fits_51 (by decide) ?_
          refine lv_iadd hx hb dX5_fits_52 ?_
          refine lv_istore_n (lv' := [(1, .int (x1 + (0 : Int32))), (0, .ref (adM 0)), (2, .int x2)]) hx hb dX5_fits_53 rfl hl (by decide) rfl (fun ls hl => ?_)
          refine lv_iinc (v := (x2 + 1)) (lv' := [(2, .int (x2 + 1)), (1, .int (x1 + (0 : Int32))), (0, .ref (adM 0))]) hx hb dX5_fits_54 hl (k := 2) rfl rfl (by decide) rfl (fun ls hl => ?_)
          refine lv_goto (tgt := 4) hx hb dX5_fits_57 (by decide) ?_
          exact hn4 (x1 + (0 : Int32)) (x2 + 1) h H locs ls hP hD hS (lv_sub hl [2, 1, 0] rfl)
        · have h := kF h (fun z => c44 ((lg_cmp_gt _ _).mpr z))
          refine lv_iconst (v := 1) hx hb dX5_fits_47 (by decide) ?_
          refine lv_goto (tgt := 52) hx hb dX5_fits_48 (by decide) ?_
          refine lv_iadd hx hb dX5_fits_52 ?_
          refine lv_istore_n (lv' := [(1, .int (x1 + (1 : Int32))), (0, .ref (adM 0)), (2, .int x2)]) hx hb dX5_fits_53 rfl hl (by decide) rfl (fun ls hl => ?_)
          refine lv_iinc (v := (x2 + 1)) (lv' := [(2, .int (x2 + 1)), (1, .int (x1 + (1 : Int32))), (0, .ref (adM 0))]) hx hb dX5_fits_54 hl (k := 2) rfl rfl (by decide) rfl (fun ls hl => ?_)
          refine lv_goto (tgt := 4) hx hb dX5_fits_57 (by decide) ?_
          exact hn4 (x1 + (1 : Int32)) (x2 + 1) h H locs ls hP hD hS (lv_sub hl [2, 1, 0] rfl)
  have L4 : ∀  (n : Nat) (x1 : Int32) (x2 : Int32), kLoopC n (fun q nx4 => fX5_fits_c4 vM q.1 q.2 nx4) (x1, x2) = some res → ∀ (H : Heap) (locs : List Loc) (ls : Array Slot), va_P D vwCl (wM ty adM vM) H → va_D A (wM ty adM vM) → va_S A s.heap H locs → lv_has ls 3 [(0, .ref (adM 0)), (1, .int x1), (2, .int x2)] → W p l e (headSpec wsX5_fits { frames := 6, cells := 0, slots := 0, locals := 139 }).room s m ([.ref (adM 0)] : List Value).toArray below meth c H locs 0 0 Q (F0 m 4 ls []) := by
    intro  n
    induction n with
    | zero => intro x1 x2 h; exact absurd h (by simp [kLoopC])
    | succ n ih => intro x1 x2 h; exact B4  (kLoopC n (fun q nx4 => fX5_fits_c4 vM q.1 q.2 nx4)) ih x1 x2 h
  have hl := lv_entry ([.ref (adM 0)]) (n := 3) (Nat.le_of_ble_eq_true rfl)
  rw [lg_entry_eq]
  generalize (lg_sl ([.ref (adM 0)]) ++ List.replicate (3 - (lg_sl ([.ref (adM 0)])).length) Slot.unset).toArray = ls at hl ⊢
  have hl : lv_has ls 3 [(0, .ref (adM 0))] := hl
  unfold fX5_fits at h
  have E0 : ∀ (H : Heap) (locs : List Loc) (ls : Array Slot), va_P D vwCl (wM ty adM vM) H → va_D A (wM ty adM vM) → va_S A s.heap H locs → lv_has ls 3 [(0, .ref (adM 0))] → W p l e (headSpec wsX5_fits { frames := 6, cells := 0, slots := 0, locals := 139 }).room s m ([.ref (adM 0)] : List Value).toArray below meth c H locs 0 0 Q (F0 m 0 ls []) := by
    intro H locs ls hP hD hS hl
    refine lv_iconst (v := 0) hx hb dX5_fits_0 (by decide) ?_
    refine lv_istore_n (lv' := [(1, .int (0 : Int32)), (0, .ref (adM 0))]) hx hb dX5_fits_1 rfl hl (by decide) rfl (fun ls hl => ?_)
    refine lv_iconst (v := 0) hx hb dX5_fits_2 (by decide) ?_
    refine lv_istore_n (lv' := [(2, .int (0 : Int32)), (1, .int (0 : Int32)), (0, .ref (adM 0))]) hx hb dX5_fits_3 rfl hl (by decide) rfl (fun ls hl => ?_)
    exact L4   kFu (0 : Int32) (0 : Int32) h H locs ls hP hD hS (lv_sub hl [2, 1, 0] rfl)
  exact E0 s.heap [] ls hP hD hS hl
def fX5_addLayer_c119 (uM : KM) (x3 : Int32) (x4 : Int32) (nx119 : KM × Int32 → Option (Int32 × KM)) : Option (Int32 × KM) := if (12 : Int32) < x4 then (if kIn (0 : Int32) 133 = true then (if kIn (0 : Int32) 133 = true then (if kIn (0 : Int32) 133 = true then (some ((((upd uM.2.2.2.2.2.2.1 (0 : Int32).toNatClampNeg ((uM.2.2.2.2.2.2.1 (0 : Int32).toNatClampNeg) + (1 : Int32))) (0 : Int32).toNatClampNeg) - (1 : Int32)), (uM.1, uM.2.1, uM.2.2.1, uM.2.2.2.1, uM.2.2.2.2.1, uM.2.2.2.2.2.1, (upd uM.2.2.2.2.2.2.1 (0 : Int32).toNatClampNeg ((uM.2.2.2.2.2.2.1 (0 : Int32).toNatClampNeg) + (1 : Int32))), uM.2.2.2.2.2.2.2))) else none) else none) else none) else (if kIn (x3 + x4) 133 = true then (nx119 ((uM.1, uM.2.1, uM.2.2.1, uM.2.2.2.1, uM.2.2.2.2.1, uM.2.2.2.2.2.1, (upd uM.2.2.2.2.2.2.1 (x3 + x4).toNatClampNeg (0 : Int32)), uM.2.2.2.2.2.2.2), (x4 + 1))) else none)
def fX5_addLayer (vM : KM) (p1 : Int32) (p2 : Int32) : Option (Int32 × KM) := (fX5_in p1 (1 : Int32) (5000 : Int32)).bind fun r5 => if r5 = (0 : Int32) then (some ((-1000000002 : Int32), vM)) else ((fX5_in p2 (10 : Int32) (2000 : Int32)).bind fun r17 => if ¬ r17 = (0 : Int32) then ((fX5_bottom vM).bind fun r27 => if kIn (1 : Int32) 133 = true then (if (r27 + p1) ≤ (vM.2.2.2.2.2.2.1 (1 : Int32).toNatClampNeg) then (if kIn (0 : Int32) 133 = true then (if ¬ (vM.2.2.2.2.2.2.1 (0 : Int32).toNatClampNeg) = (16 : Int32) then ((fX5_record vM).bind fun r59 => if kIn (0 : Int32) 133 = true then ((some ((8 : Int32) * (r59.2.2.2.2.2.2.1 (0 : Int32).toNatClampNeg))).bind fun y71 => if kIn (y71 + (5 : Int32)) 133 = true then (if kIn (y71 + (6 : Int32)) 133 = true then (if kIn (y71 + (7 : Int32)) 133 = true then (if kIn (y71 + (8 : Int32)) 133 = true then (kLoopC kFu (fun q nx119 => fX5_addLayer_c119 q.1 y71 q.2 nx119) ((r59.1, r59.2.1, r59.2.2.1, r59.2.2.2.1, r59.2.2.2.2.1, r59.2.2.2.2.2.1, (upd (upd (upd (upd r59.2.2.2.2.2.2.1 (y71 + (5 : Int32)).toNatClampNeg p1) (y71 + (6 : Int32)).toNatClampNeg p2) (y71 + (7 : Int32)).toNatClampNeg (1000 : Int32)) (y71 + (8 : Int32)).toNatClampNeg (1000 : Int32)), r59.2.2.2.2.2.2.2), (9 : Int32))) else none) else none) else none) else none) else none) else (some ((-1000000004 : Int32), vM))) else none) else (some ((-1000000003 : Int32), vM))) else none) else (some ((-1000000002 : Int32), vM)))
set_option maxHeartbeats 4000000 in
set_option maxRecDepth 100000 in
theorem cX5_addLayer_ok (l : Launch) (D : va_G) (ty : kTy) (adM : Nat → Nat) (sz : Nat) (vM : KM) (p1 : Int32) (p2 : Int32) (res : Int32 × KM) (h : fX5_addLayer vM p1 p2 = some res) : kMI l yX5_addLayer wsX5_addLayer { frames := 3, cells := 0, slots := 0, locals := 65 } [.ref (adM 0), .int p1, .int p2] D ty (wM ty adM vM) sz res.1 (wM ty adM res.2) := by
  refine Met.ofW (cc := cX5_addLayer) (maxL := 5) (ret := (some .int)) (by decide) rfl ?_
  intro p e s m args below meth c s₁ B hml hv
  obtain ⟨rfl, hsz, hP, hK, hD0⟩ := hv
  have hx := B.exec
  have hb := B.bytes
  have hr := B.returns
  have hts := atoms_spec (ws := wsX5_addLayer) B.pre
  have hown : s.vm.findClass RX5 = some m.cls := findClass_of_methodNamed B.named
  have hlocks := B.notSynchronized
  subst hsz
  have hD := hD0.self (sz := s.heap.size)
  generalize hAe : va_A (wM ty adM vM) s.heap.size = A at hD ⊢
  have hA : ∀ q : Nat, s.heap.size ≤ q → A q := fun q h => by rw [← hAe]; exact Or.inr h
  have hS : va_S A s.heap s.heap [] := va_S.rf
  refine kGenW (fun Q hQ => ?_)
  have wf0 := hts (.fieldLink RX5 7 "IceCoreDaterModel" "now" "[I") (by decide +kernel)
  have hinX5 : ∀ w ∈ wsX50, w ∈ wsX5_addLayer := by decide +kernel
  have wf2 := hts (.constant RX5 100 (-1000000002)) (by decide +kernel)
  have wf3 := hts (.constant RX5 106 (-1000000004)) (by decide +kernel)
  have wf4 := hts (.constant RX5 105 (-1000000003)) (by decide +kernel)
  have B119 : ∀ (x3 : Int32) (nx119 : KM × Int32 → Option (Int32 × KM)) (hn119 : ∀ (uM : KM) (x4 : Int32), nx119 (uM, x4) = some res → ∀ (H : Heap) (locs : List Loc) (ls : Array Slot), va_P D vwCl (wM ty adM uM) H → va_D A (wM ty adM uM) → va_S A s.heap H locs → lv_has ls 5 [(0, .ref (adM 0)), (3, .int x3), (4, .int x4)] → W p l e (headSpec wsX5_addLayer { frames := 3, cells := 0, slots := 0, locals := 65 }).room s m ([.ref (adM 0), .int p1, .int p2] : List Value).toArray below meth c H locs 0 0 Q (F0 m 119 ls [])) (uM : KM) (x4 : Int32), fX5_addLayer_c119 uM x3 x4 nx119 = some res → ∀ (H : Heap) (locs : List Loc) (ls : Array Slot), va_P D vwCl (wM ty adM uM) H → va_D A (wM ty adM uM) → va_S A s.heap H locs → lv_has ls 5 [(0, .ref (adM 0)), (3, .int x3), (4, .int x4)] → W p l e (headSpec wsX5_addLayer { frames := 3, cells := 0, slots := 0, locals := 65 }).room s m ([.ref (adM 0), .int p1, .int p2] : List Value).toArray below meth c H locs 0 0 Q (F0 m 119 ls []) := by
    intro x3 nx119 hn119 uM x4 h H locs ls hP hD hS hl
    unfold fX5_addLayer_c119 at h
    refine lv_iload hx hb dX5_addLayer_119 (lv_at hl 2 rfl) ?_
    refine lv_bipush (v := 12) hx hb dX5_addLayer_121 (by decide) ?_
    refine lv_icmp_gt (tgt := 142) hx hb dX5_addLayer_123 (by decide) (fun c123 => ?_) (fun c123 => ?_)
    · have h := kT h c123
      refine lv_aload_n hx hb dX5_addLayer_142 rfl (lv_at hl 0 rfl) ?_
      refine va_get (D := D) (ci := 5) (v := .ref (adM 1)) (C := RX5) (T := TX5) (N := 12) hx hb hts hinX5 hown hK.1 hP 0 rfl rfl 0 (by decide) wf0 (fun _ h9 => h9) rfl dX5_addLayer_143 ?_
      refine lv_iconst (v := 0) hx hb dX5_addLayer_146 (by decide) ?_
      refine lv_dup2_11 hx hb dX5_addLayer_147 rfl rfl ?_
      obtain ⟨b148, h⟩ := kIf h
      refine va_iald (f := uM.2.2.2.2.2.2.1) (n := 133) hx hb hK.1 hP 1 0 rfl rfl (kIn_ok b148) dX5_addLayer_148 ?_
      refine lv_iconst (v := 1) hx hb dX5_addLayer_149 (by decide) ?_
      refine lv_iadd hx hb dX5_addLayer_150 ?_
      obtain ⟨b151, h⟩ := kIf h
      refine va_iast (f := uM.2.2.2.2.2.2.1) (n := 133) hx hb hK.1 hP hD hS 1 0 rfl rfl (kIn_ok b151) dX5_addLayer_151 (fun H locs hP hD hS => ?_)
      have hP : va_P D vwCl (wM ty adM (uM.1, uM.2.1, uM.2.2.1, uM.2.2.2.1, uM.2.2.2.2.1, uM.2.2.2.2.2.1, (upd uM.2.2.2.2.2.2.1 (0 : Int32).toNatClampNeg ((uM.2.2.2.2.2.2.1 (0 : Int32).toNatClampNeg) + (1 : Int32))), uM.2.2.2.2.2.2.2)) H := hP
      have hD : va_D A (wM ty adM (uM.1, uM.2.1, uM.2.2.1, uM.2.2.2.1, uM.2.2.2.2.1, uM.2.2.2.2.2.1, (upd uM.2.2.2.2.2.2.1 (0 : Int32).toNatClampNeg ((uM.2.2.2.2.2.2.1 (0 : Int32).toNatClampNeg) + (1 : Int32))), uM.2.2.2.2.2.2.2)) := hD
      refine lv_aload_n hx hb dX5_addLayer_152 rfl (lv_at hl 0 rfl) ?_
      refine va_get (D := D) (ci := 5) (v := .ref (adM 1)) (C := RX5) (T := TX5) (N := 12) hx hb hts hinX5 hown hK.1 hP 0 rfl rfl 0 (by decide) wf0 (fun _ h9 => h9) rfl dX5_addLayer_153 ?_
      refine lv_iconst (v := 0) hx hb dX5_addLayer_156 (by decide) ?_
      obtain ⟨b157, h⟩ := kIf h
      refine va_iald (f := (upd uM.2.2.2.2.2.2.1 (0 : Int32).toNatClampNeg ((uM.2.2.2.2.2.2.1 (0 : Int32).toNatClampNeg) + (1 : Int32)))) (n := 133) hx hb hK.1 hP 1 0 rfl rfl (kIn_ok b157) dX5_addLayer_157 ?_
      refine lv_iconst (v := 1) hx hb dX5_addLayer_158 (by decide) ?_
      refine lv_isub hx hb dX5_addLayer_159 ?_
      obtain rfl := Option.some.inj h
      subst hQ
      exact W.iret (v := (((upd uM.2.2.2.2.2.2.1 (0 : Int32).toNatClampNeg ((uM.2.2.2.2.2.2.1 (0 : Int32).toNatClampNeg) + (1 : Int32))) (0 : Int32).toNatClampNeg) - (1 : Int32))) hx hb hr (fun t ht hW => ⟨⟨(((upd uM.2.2.2.2.2.2.1 (0 : Int32).toNatClampNeg ((uM.2.2.2.2.2.2.1 (0 : Int32).toNatClampNeg) + (1 : Int32))) (0 : Int32).toNatClampNeg) - (1 : Int32)), (), rfl, rfl, kEnd ht hP⟩, hS.F ht⟩) hS.2.2 dX5_addLayer_160
    · have h := kF h c123
      refine lv_aload_n hx hb dX5_addLayer_126 rfl (lv_at hl 0 rfl) ?_
      refine va_get (D := D) (ci := 5) (v := .ref (adM 1)) (C := RX5) (T := TX5) (N := 12) hx hb hts hinX5 hown hK.1 hP 0 rfl rfl 0 (by decide) wf0 (fun _ h9 => h9) rfl dX5_addLayer_127 ?_
      refine lv_iload_n hx hb dX5_addLayer_130 rfl (lv_at hl 1 rfl) ?_
      refine lv_iload hx hb dX5_addLayer_131 (lv_at hl 2 rfl) ?_
      refine lv_iadd hx hb dX5_addLayer_133 ?_
      refine lv_iconst (v := 0) hx hb dX5_addLayer_134 (by decide) ?_
      obtain ⟨b135, h⟩ := kIf h
      refine va_iast (f := uM.2.2.2.2.2.2.1) (n := 133) hx hb hK.1 hP hD hS 1 0 rfl rfl (kIn_ok b135) dX5_addLayer_135 (fun H locs hP hD hS => ?_)
      have hP : va_P D vwCl (wM ty adM (uM.1, uM.2.1, uM.2.2.1, uM.2.2.2.1, uM.2.2.2.2.1, uM.2.2.2.2.2.1, (upd uM.2.2.2.2.2.2.1 (x3 + x4).toNatClampNeg (0 : Int32)), uM.2.2.2.2.2.2.2)) H := hP
      have hD : va_D A (wM ty adM (uM.1, uM.2.1, uM.2.2.1, uM.2.2.2.1, uM.2.2.2.2.1, uM.2.2.2.2.2.1, (upd uM.2.2.2.2.2.2.1 (x3 + x4).toNatClampNeg (0 : Int32)), uM.2.2.2.2.2.2.2)) := hD
      refine lv_iinc (v := (x4 + 1)) (lv' := [(4, .int (x4 + 1)), (0, .ref (adM 0)), (3, .int x3)]) hx hb dX5_addLayer_136 hl (k := 2) rfl rfl (by decide) rfl (fun ls hl => ?_)
      refine lv_goto (tgt := 119) hx hb dX5_addLayer_139 (by decide) ?_
      exact hn119 (uM.1, uM.2.1, uM.2.2.1, uM.2.2.2.1, uM.2.2.2.2.1, uM.2.2.2.2.2.1, (upd uM.2.2.2.2.2.2.1 (x3 + x4).toNatClampNeg (0 : Int32)), uM.2.2.2.2.2.2.2) (x4 + 1) h H locs ls hP hD hS (lv_sub hl [1, 2, 0] rfl)
  have L119 : ∀ (x3 : Int32) (n : Nat) (uM : KM) (x4 : Int32), kLoopC n (fun q nx119 => fX5_addLayer_c119 q.1 x3 q.2 nx119) (uM, x4) = some res → ∀ (H : Heap) (locs : List Loc) (ls : Array Slot), va_P D vwCl (wM ty adM uM) H → va_D A (wM ty adM uM) → va_S A s.heap H locs → lv_has ls 5 [(0, .ref (adM 0)), (3, .int x3), (4, .int x4)] → W p l e (headSpec wsX5_addLayer { frames := 3, cells := 0, slots := 0, locals := 65 }).room s m ([.ref (adM 0), .int p1, .int p2] : List Value).toArray below meth c H locs 0 0 Q (F0 m 119 ls []) := by
    intro x3 n
    induction n with
    | zero => intro uM x4 h; exact absurd h (by simp [kLoopC])
    | succ n ih => intro uM x4 h; exact B119 x3 (kLoopC n (fun q nx119 => fX5_addLayer_c119 q.1 x3 q.2 nx119)) ih uM x4 h
  have hl := lv_entry ([.ref (adM 0), .int p1, .int p2]) (n := 5) (Nat.le_of_ble_eq_true rfl)
  rw [lg_entry_eq]
  generalize (lg_sl ([.ref (adM 0), .int p1, .int p2]) ++ List.replicate (5 - (lg_sl ([.ref (adM 0), .int p1, .int p2])).length) Slot.unset).toArray = ls at hl ⊢
  have hl : lv_has ls 5 [(0, .ref (adM 0)), (1, .int p1), (2, .int p2)] := hl
  unfold fX5_addLayer at h
  have E0 : ∀ (H : Heap) (locs : List Loc) (ls : Array Slot), va_P D vwCl (wM ty adM vM) H → va_D A (wM ty adM vM) → va_S A s.heap H locs → lv_has ls 5 [(0, .ref (adM 0)), (1, .int p1), (2, .int p2)] → W p l e (headSpec wsX5_addLayer { frames := 3, cells := 0, slots := 0, locals := 65 }).room s m ([.ref (adM 0), .int p1, .int p2] : List Value).toArray below meth c H locs 0 0 Q (F0 m 0 ls []) := by
    intro H locs ls hP hD hS hl
    refine lv_iload_n hx hb dX5_addLayer_0 rfl (lv_at hl 1 rfl) ?_
    refine lv_iconst (v := 1) hx hb dX5_addLayer_1 (by decide) ?_
    refine lv_sipush (v := 5000) hx hb dX5_addLayer_2 (by decide) ?_
    obtain ⟨r5, e5, h⟩ := kBd h
    refine kCallSI (As := [.int p1, .int (1 : Int32), .int (5000 : Int32)]) (rest := []) ⟨hx, hb, hml, hown, hts⟩ (cX5_in_ok l D ty  H.size p1 (1 : Int32) (5000 : Int32) r5 e5) (va_cwS 3 hts gX5_addLayer_X5_in rfl rfl rfl (by decide +kernel) ⟨Nat.le_of_ble_eq_true rfl, Nat.le_of_ble_eq_true rfl⟩) hP hK hD hS hA rfl hl.1 rfl (Nat.le_of_ble_eq_true rfl) dX5_addLayer_5 ⟨Nat.le_of_ble_eq_true rfl, Nat.le_of_ble_eq_true rfl⟩ (fun H locs hP hS => ?_)
    refine lv_if_eq (tgt := 23) hx hb dX5_addLayer_8 (by decide) (fun c8 => ?_) (fun c8 => ?_)
    · have h := kT h c8
      refine lv_ldc hx hb hown wf2 dX5_addLayer_23 ?_
      obtain rfl := Option.some.inj h
      subst hQ
      exact W.iret (v := (-1000000002 : Int32)) hx hb hr (fun t ht hW => ⟨⟨(-1000000002 : Int32), (), rfl, rfl, kEnd ht hP⟩, hS.F ht⟩) hS.2.2 dX5_addLayer_25
    · have h := kF h c8
      refine lv_iload_n hx hb dX5_addLayer_11 rfl (lv_at hl 2 rfl) ?_
      refine lv_bipush (v := 10) hx hb dX5_addLayer_12 (by decide) ?_
      refine lv_sipush (v := 2000) hx hb dX5_addLayer_14 (by decide) ?_
      obtain ⟨r17, e17, h⟩ := kBd h
      refine kCallSI (As := [.int p2, .int (10 : Int32), .int (2000 : Int32)]) (rest := []) ⟨hx, hb, hml, hown, hts⟩ (cX5_in_ok l D ty  H.size p2 (10 : Int32) (2000 : Int32) r17 e17) (va_cwS 3 hts gX5_addLayer_X5_in rfl rfl rfl (by decide +kernel) ⟨Nat.le_of_ble_eq_true rfl, Nat.le_of_ble_eq_true rfl⟩) hP hK hD hS hA rfl hl.1 rfl (Nat.le_of_ble_eq_true rfl) dX5_addLayer_17 ⟨Nat.le_of_ble_eq_true rfl, Nat.le_of_ble_eq_true rfl⟩ (fun H locs hP hS => ?_)
      refine lv_if_ne (tgt := 26) hx hb dX5_addLayer_20 (by decide) (fun c20 => ?_) (fun c20 => ?_)
      · have h := kT h c20
        refine lv_aload_n hx hb dX5_addLayer_26 rfl (lv_at hl 0 rfl) ?_
        obtain ⟨r27, e27, h⟩ := kBd h
        refine kCallVI (As := []) (rest := []) (wc := wM ty adM vM) (w1 := wM ty adM vM) (wn := wM ty adM vM) ⟨hx, hb, hml, hown, hts⟩ (cX5_bottom_ok l D ty adM H.size vM r27 e27) (cwV 0 hts gX5_addLayer_X5_bottom rfl rfl rfl (by decide +kernel) ⟨Nat.le_of_ble_eq_true rfl, Nat.le_of_ble_eq_true rfl⟩) hP hK hD hS hA [0, 1, 2, 3, 4, 5, 6] (by decide) rfl 5 0 rfl rfl rfl rfl hl.1 rfl (Nat.le_of_ble_eq_true rfl) dX5_addLayer_27 ⟨Nat.le_of_ble_eq_true rfl, Nat.le_of_ble_eq_true rfl⟩ rfl rfl (fun H locs hP hD hS => ?_)
        refine lv_iload_n hx hb dX5_addLayer_30 rfl (lv_at hl 1 rfl) ?_
        refine lv_iadd hx hb dX5_addLayer_31 ?_
        refine lv_aload_n hx hb dX5_addLayer_32 rfl (lv_at hl 0 rfl) ?_
        refine va_get (D := D) (ci := 5) (v := .ref (adM 1)) (C := RX5) (T := TX5) (N := 12) hx hb hts hinX5 hown hK.1 hP 0 rfl rfl 0 (by decide) wf0 (fun _ h9 => h9) rfl dX5_addLayer_33 ?_
        refine lv_iconst (v := 1) hx hb dX5_addLayer_36 (by decide) ?_
        obtain ⟨b37, h⟩ := kIf h
        refine va_iald (f := vM.2.2.2.2.2.2.1) (n := 133) hx hb hK.1 hP 1 0 rfl rfl (kIn_ok b37) dX5_addLayer_37 ?_
        refine lv_icmp_le (tgt := 44) hx hb dX5_addLayer_38 (by decide) (fun c38 => ?_) (fun c38 => ?_)
        · have h := kT h c38
          refine lv_aload_n hx hb dX5_addLayer_44 rfl (lv_at hl 0 rfl) ?_
          refine va_get (D := D) (ci := 5) (v := .ref (adM 1)) (C := RX5) (T := TX5) (N := 12) hx hb hts hinX5 hown hK.1 hP 0 rfl rfl 0 (by decide) wf0 (fun _ h9 => h9) rfl dX5_addLayer_45 ?_
          refine lv_iconst (v := 0) hx hb dX5_addLayer_48 (by decide) ?_
          obtain ⟨b49, h⟩ := kIf h
          refine va_iald (f := vM.2.2.2.2.2.2.1) (n := 133) hx hb hK.1 hP 1 0 rfl rfl (kIn_ok b49) dX5_addLayer_49 ?_
          refine lv_bipush (v := 16) hx hb dX5_addLayer_50 (by decide) ?_
          refine lv_icmp_ne (tgt := 58) hx hb dX5_addLayer_52 (by decide) (fun c52 => ?_) (fun c52 => ?_)
          · have h := kT h c52
            refine lv_aload_n hx hb dX5_addLayer_58 rfl (lv_at hl 0 rfl) ?_
            obtain ⟨r59, e59, h⟩ := kBd h
            refine kCallVV (As := []) (rest := []) (wc := wM ty adM vM) (w1 := wM ty adM r59) (wn := wM ty adM r59) ⟨hx, hb, hml, hown, hts⟩ (cX5_record_ok l D ty adM H.size vM r59 e59) (cwV 0 hts gX5_addLayer_X5_record rfl rfl rfl (by decide +kernel) ⟨Nat.le_of_ble_eq_true rfl, Nat.le_of_ble_eq_true rfl⟩) hP hK hD hS hA [0, 1, 2, 3, 4, 5, 6] (by decide) rfl 5 0 rfl rfl rfl rfl hl.1 rfl (Nat.le_of_ble_eq_true rfl) dX5_addLayer_59 ⟨Nat.le_of_ble_eq_true rfl, Nat.le_of_ble_eq_true rfl⟩ rfl rfl (fun H locs hP hD hS => ?_)
            refine lv_bipush (v := 8) hx hb dX5_addLayer_62 (by decide) ?_
            refine lv_aload_n hx hb dX5_addLayer_64 rfl (lv_at hl 0 rfl) ?_
            refine va_get (D := D) (ci := 5) (v := .ref (adM 1)) (C := RX5) (T := TX5) (N := 12) hx hb hts hinX5 hown hK.1 hP 0 rfl rfl 0 (by decide) wf0 (fun _ h9 => h9) rfl dX5_addLayer_65 ?_
            refine lv_iconst (v := 0) hx hb dX5_addLayer_68 (by decide) ?_
            obtain ⟨b69, h⟩ := kIf h
            refine va_iald (f := r59.2.2.2.2.2.2.1) (n := 133) hx hb hK.1 hP 1 0 rfl rfl (kIn_ok b69) dX5_addLayer_69 ?_
            refine lv_imul hx hb dX5_addLayer_70 ?_
            refine lv_topi (fun y71 ey71 => ?_)
            have h := kBs h ey71
            refine lv_istore_n (lv' := [(3, .int y71), (0, .ref (adM 0)), (1, .int p1), (2, .int p2)]) hx hb dX5_addLayer_71 rfl hl (by decide) rfl (fun ls hl => ?_)
            refine lv_aload_n hx hb dX5_addLayer_72 rfl (lv_at hl 1 rfl) ?_
            refine va_get (D := D) (ci := 5) (v := .ref (adM 1)) (C := RX5) (T := TX5) (N := 12) hx hb hts hinX5 hown hK.1 hP 0 rfl rfl 0 (by decide) wf0 (fun _ h9 => h9) rfl dX5_addLayer_73 ?_
            refine lv_iload_n hx hb dX5_addLayer_76 rfl (lv_at hl 0 rfl) ?_
            refine lv_iconst (v := 5) hx hb dX5_addLayer_77 (by decide) ?_
            refine lv_iadd hx hb dX5_addLayer_78 ?_
            refine lv_iload_n hx hb dX5_addLayer_79 rfl (lv_at hl 2 rfl) ?_
            obtain ⟨b80, h⟩ := kIf h
            refine va_iast (f := r59.2.2.2.2.2.2.1) (n := 133) hx hb hK.1 hP hD hS 1 0 rfl rfl (kIn_ok b80) dX5_addLayer_80 (fun H locs hP hD hS => ?_)
            have hP : va_P D vwCl (wM ty adM (r59.1, r59.2.1, r59.2.2.1, r59.2.2.2.1, r59.2.2.2.2.1, r59.2.2.2.2.2.1, (upd r59.2.2.2.2.2.2.1 (y71 + (5 : Int32)).toNatClampNeg p1), r59.2.2.2.2.2.2.2)) H := hP
            have hD : va_D A (wM ty adM (r59.1, r59.2.1, r59.2.2.1, r59.2.2.2.1, r59.2.2.2.2.1, r59.2.2.2.2.2.1, (upd r59.2.2.2.2.2.2.1 (y71 + (5 : Int32)).toNatClampNeg p1), r59.2.2.2.2.2.2.2)) := hD
            refine lv_aload_n hx hb dX5_addLayer_81 rfl (lv_at hl 1 rfl) ?_
            refine va_get (D := D) (ci := 5) (v := .ref (adM 1)) (C := RX5) (T := TX5) (N := 12) hx hb hts hinX5 hown hK.1 hP 0 rfl rfl 0 (by decide) wf0 (fun _ h9 => h9) rfl dX5_addLayer_82 ?_
            refine lv_iload_n hx hb dX5_addLayer_85 rfl (lv_at hl 0 rfl) ?_
            refine lv_bipush (v := 6) hx hb dX5_addLayer_86 (by decide) ?_
            refine lv_iadd hx hb dX5_addLayer_88 ?_
            refine lv_iload_n hx hb dX5_addLayer_89 rfl (lv_at hl 3 rfl) ?_
            obtain ⟨b90, h⟩ := kIf h
            refine va_iast (f := (upd r59.2.2.2.2.2.2.1 (y71 + (5 : Int32)).toNatClampNeg p1)) (n := 133) hx hb hK.1 hP hD hS 1 0 rfl rfl (kIn_ok b90) dX5_addLayer_90 (fun H locs hP hD hS => ?_)
            have hP : va_P D vwCl (wM ty adM (r59.1, r59.2.1, r59.2.2.1, r59.2.2.2.1, r59.2.2.2.2.1, r59.2.2.2.2.2.1, (upd (upd r59.2.2.2.2.2.2.1 (y71 + (5 : Int32)).toNatClampNeg p1) (y71 + (6 : Int32)).toNatClampNeg p2), r59.2.2.2.2.2.2.2)) H := hP
            have hD : va_D A (wM ty adM (r59.1, r59.2.1, r59.2.2.1, r59.2.2.2.1, r59.2.2.2.2.1, r59.2.2.2.2.2.1, (upd (upd r59.2.2.2.2.2.2.1 (y71 + (5 : Int32)).toNatClampNeg p1) (y71 + (6 : Int32)).toNatClampNeg p2), r59.2.2.2.2.2.2.2)) := hD
            refine lv_aload_n hx hb dX5_addLayer_91 rfl (lv_at hl 1 rfl) ?_
            refine va_get (D := D) (ci := 5) (v := .ref (adM 1)) (C := RX5) (T := TX5) (N := 12) hx hb hts hinX5 hown hK.1 hP 0 rfl rfl 0 (by decide) wf0 (fun _ h9 => h9) rfl dX5_addLayer_92 ?_
            refine lv_iload_n hx hb dX5_addLayer_95 rfl (lv_at hl 0 rfl) ?_
            refine lv_bipush (v := 7) hx hb dX5_addLayer_96 (by decide) ?_
            refine lv_iadd hx hb dX5_addLayer_98 ?_
            refine lv_sipush (v := 1000) hx hb dX5_addLayer_99 (by decide) ?_
            obtain ⟨b102, h⟩ := kIf h
            refine va_iast (f := (upd (upd r59.2.2.2.2.2.2.1 (y71 + (5 : Int32)).toNatClampNeg p1) (y71 + (6 : Int32)).toNatClampNeg p2)) (n := 133) hx hb hK.1 hP hD hS 1 0 rfl rfl (kIn_ok b102) dX5_addLayer_102 (fun H locs hP hD hS => ?_)
            have hP : va_P D vwCl (wM ty adM (r59.1, r59.2.1, r59.2.2.1, r59.2.2.2.1, r59.2.2.2.2.1, r59.2.2.2.2.2.1, (upd (upd (upd r59.2.2.2.2.2.2.1 (y71 + (5 : Int32)).toNatClampNeg p1) (y71 + (6 : Int32)).toNatClampNeg p2) (y71 + (7 : Int32)).toNatClampNeg (1000 : Int32)), r59.2.2.2.2.2.2.2)) H := hP
            have hD : va_D A (wM ty adM (r59.1, r59.2.1, r59.2.2.1, r59.2.2.2.1, r59.2.2.2.2.1, r59.2.2.2.2.2.1, (upd (upd (upd r59.2.2.2.2.2.2.1 (y71 + (5 : Int32)).toNatClampNeg p1) (y71 + (6 : Int32)).toNatClampNeg p2) (y71 + (7 : Int32)).toNatClampNeg (1000 : Int32)), r59.2.2.2.2.2.2.2)) := hD
            refine lv_aload_n hx hb dX5_addLayer_103 rfl (lv_at hl 1 rfl) ?_
            refine va_get (D := D) (ci := 5) (v := .ref (adM 1)) (C := RX5) (T := TX5) (N := 12) hx hb hts hinX5 hown hK.1 hP 0 rfl rfl 0 (by decide) wf0 (fun _ h9 => h9) rfl dX5_addLayer_104 ?_
            refine lv_iload_n hx hb dX5_addLayer_107 rfl (lv_at hl 0 rfl) ?_
            refine lv_bipush (v := 8) hx hb dX5_addLayer_108 (by decide) ?_
            refine lv_iadd hx hb dX5_addLayer_110 ?_
            refine lv_sipush (v := 1000) hx hb dX5_addLayer_111 (by decide) ?_
            obtain ⟨b114, h⟩ := kIf h
            refine va_iast (f := (upd (upd (upd r59.2.2.2.2.2.2.1 (y71 + (5 : Int32)).toNatClampNeg p1) (y71 + (6 : Int32)).toNatClampNeg p2) (y71 + (7 : Int32)).toNatClampNeg (1000 : Int32))) (n := 133) hx hb hK.1 hP hD hS 1 0 rfl rfl (kIn_ok b114) dX5_addLayer_114 (fun H locs hP hD hS => ?_)
            have hP : va_P D vwCl (wM ty adM (r59.1, r59.2.1, r59.2.2.1, r59.2.2.2.1, r59.2.2.2.2.1, r59.2.2.2.2.2.1, (upd (upd (upd (upd r59.2.2.2.2.2.2.1 (y71 + (5 : Int32)).toNatClampNeg p1) (y71 + (6 : Int32)).toNatClampNeg p2) (y71 + (7 : Int32)).toNatClampNeg (1000 : Int32)) (y71 + (8 : Int32)).toNatClampNeg (1000 : Int32)), r59.2.2.2.2.2.2.2)) H := hP
            have hD : va_D A (wM ty adM (r59.1, r59.2.1, r59.2.2.1, r59.2.2.2.1, r59.2.2.2.2.1, r59.2.2.2.2.2.1, (upd (upd (upd (upd r59.2.2.2.2.2.2.1 (y71 + (5 : Int32)).toNatClampNeg p1) (y71 + (6 : Int32)).toNatClampNeg p2) (y71 + (7 : Int32)).toNatClampNeg (1000 : Int32)) (y71 + (8 : Int32)).toNatClampNeg (1000 : Int32)), r59.2.2.2.2.2.2.2)) := hD
            refine lv_bipush (v := 9) hx hb dX5_addLayer_115 (by decide) ?_
            refine lv_istore (lv' := [(4, .int (9 : Int32)), (3, .int y71), (0, .ref (adM 0)), (1, .int p1), (2, .int p2)]) hx hb dX5_addLayer_117 hl (by decide) rfl (fun ls hl => ?_)
            exact L119 y71  kFu (r59.1, r59.2.1, r59.2.2.1, r59.2.2.2.1, r59.2.2.2.2.1, r59.2.2.2.2.2.1, (upd (upd (upd (upd r59.2.2.2.2.2.2.1 (y71 + (5 : Int32)).toNatClampNeg p1) (y71 + (6 : Int32)).toNatClampNeg p2) (y71 + (7 : Int32)).toNatClampNeg (1000 : Int32)) (y71 + (8 : Int32)).toNatClampNeg (1000 : Int32)), r59.2.2.2.2.2.2.2) (9 : Int32) h H locs ls hP hD hS (lv_sub hl [2, 1, 0] rfl)
          · have h := kF h (fun z => z c52)
            refine lv_ldc hx hb hown wf3 dX5_addLayer_55 ?_
            obtain rfl := Option.some.inj h
            subst hQ
            exact W.iret (v := (-1000000004 : Int32)) hx hb hr (fun t ht hW => ⟨⟨(-1000000004 : Int32), (), rfl, rfl, kEnd ht hP⟩, hS.F ht⟩) hS.2.2 dX5_addLayer_57
        · have h := kF h c38
          refine lv_ldc hx hb hown wf4 dX5_addLayer_41 ?_
          obtain rfl := Option.some.inj h
          subst hQ
          exact W.iret (v := (-1000000003 : Int32)) hx hb hr (fun t ht hW => ⟨⟨(-1000000003 : Int32), (), rfl, rfl, kEnd ht hP⟩, hS.F ht⟩) hS.2.2 dX5_addLayer_43
      · have h := kF h (fun z => z c20)
        refine lv_ldc hx hb hown wf2 dX5_addLayer_23 ?_
        obtain rfl := Option.some.inj h
        subst hQ
        exact W.iret (v := (-1000000002 : Int32)) hx hb hr (fun t ht hW => ⟨⟨(-1000000002 : Int32), (), rfl, rfl, kEnd ht hP⟩, hS.F ht⟩) hS.2.2 dX5_addLayer_25
  exact E0 s.heap [] ls hP hD hS hl
def fX5_removeLowest (vM : KM) : Option (Int32 × KM) := if kIn (0 : Int32) 133 = true then (if ¬ (vM.2.2.2.2.2.2.1 (0 : Int32).toNatClampNeg) = (0 : Int32) then ((fX5_record vM).bind fun r13 => if kIn (0 : Int32) 133 = true then (if kIn (0 : Int32) 133 = true then (if kIn (0 : Int32) 133 = true then (some (((upd r13.2.2.2.2.2.2.1 (0 : Int32).toNatClampNeg ((r13.2.2.2.2.2.2.1 (0 : Int32).toNatClampNeg) - (1 : Int32))) (0 : Int32).toNatClampNeg), (r13.1, r13.2.1, r13.2.2.1, r13.2.2.2.1, r13.2.2.2.2.1, r13.2.2.2.2.2.1, (upd r13.2.2.2.2.2.2.1 (0 : Int32).toNatClampNeg ((r13.2.2.2.2.2.2.1 (0 : Int32).toNatClampNeg) - (1 : Int32))), r13.2.2.2.2.2.2.2))) else none) else none) else none) else (some ((-1000000003 : Int32), vM))) else none
set_option maxHeartbeats 4000000 in
set_option maxRecDepth 100000 in
theorem cX5_removeLowest_ok (l : Launch) (D : va_G) (ty : kTy) (adM : Nat → Nat) (sz : Nat) (vM : KM) (res : Int32 × KM) (h : fX5_removeLowest vM = some res) : kMI l yX5_removeLowest wsX5_removeLowest { frames := 1, cells := 0, slots := 0, locals := 21 } [.ref (adM 0)] D ty (wM ty adM vM) sz res.1 (wM ty adM res.2) := by
  refine Met.ofW (cc := cX5_removeLowest) (maxL := 1) (ret := (some .int)) (by decide) rfl ?_
  intro p e s m args below meth c s₁ B hml hv
  obtain ⟨rfl, hsz, hP, hK, hD0⟩ := hv
  have hx := B.exec
  have hb := B.bytes
  have hr := B.returns
  have hts := atoms_spec (ws := wsX5_removeLowest) B.pre
  have hown : s.vm.findClass RX5 = some m.cls := findClass_of_methodNamed B.named
  have hlocks := B.notSynchronized
  subst hsz
  have hD := hD0.self (sz := s.heap.size)
  generalize hAe : va_A (wM ty adM vM) s.heap.size = A at hD ⊢
  have hA : ∀ q : Nat, s.heap.size ≤ q → A q := fun q h => by rw [← hAe]; exact Or.inr h
  have hS : va_S A s.heap s.heap [] := va_S.rf
  refine kGenW (fun Q hQ => ?_)
  have wf0 := hts (.fieldLink RX5 7 "IceCoreDaterModel" "now" "[I") (by decide +kernel)
  have hinX5 : ∀ w ∈ wsX50, w ∈ wsX5_removeLowest := by decide +kernel
  have wf2 := hts (.constant RX5 105 (-1000000003)) (by decide +kernel)
  have hl := lv_entry ([.ref (adM 0)]) (n := 1) (Nat.le_of_ble_eq_true rfl)
  rw [lg_entry_eq]
  generalize (lg_sl ([.ref (adM 0)]) ++ List.replicate (1 - (lg_sl ([.ref (adM 0)])).length) Slot.unset).toArray = ls at hl ⊢
  have hl : lv_has ls 1 [(0, .ref (adM 0))] := hl
  unfold fX5_removeLowest at h
  have E0 : ∀ (H : Heap) (locs : List Loc) (ls : Array Slot), va_P D vwCl (wM ty adM vM) H → va_D A (wM ty adM vM) → va_S A s.heap H locs → lv_has ls 1 [(0, .ref (adM 0))] → W p l e (headSpec wsX5_removeLowest { frames := 1, cells := 0, slots := 0, locals := 21 }).room s m ([.ref (adM 0)] : List Value).toArray below meth c H locs 0 0 Q (F0 m 0 ls []) := by
    intro H locs ls hP hD hS hl
    refine lv_aload_n hx hb dX5_removeLowest_0 rfl (lv_at hl 0 rfl) ?_
    refine va_get (D := D) (ci := 5) (v := .ref (adM 1)) (C := RX5) (T := TX5) (N := 12) hx hb hts hinX5 hown hK.1 hP 0 rfl rfl 0 (by decide) wf0 (fun _ h9 => h9) rfl dX5_removeLowest_1 ?_
    refine lv_iconst (v := 0) hx hb dX5_removeLowest_4 (by decide) ?_
    obtain ⟨b5, h⟩ := kIf h
    refine va_iald (f := vM.2.2.2.2.2.2.1) (n := 133) hx hb hK.1 hP 1 0 rfl rfl (kIn_ok b5) dX5_removeLowest_5 ?_
    refine lv_if_ne (tgt := 12) hx hb dX5_removeLowest_6 (by decide) (fun c6 => ?_) (fun c6 => ?_)
    · have h := kT h c6
      refine lv_aload_n hx hb dX5_removeLowest_12 rfl (lv_at hl 0 rfl) ?_
      obtain ⟨r13, e13, h⟩ := kBd h
      refine kCallVV (As := []) (rest := []) (wc := wM ty adM vM) (w1 := wM ty adM r13) (wn := wM ty adM r13) ⟨hx, hb, hml, hown, hts⟩ (cX5_record_ok l D ty adM H.size vM r13 e13) (cwV 0 hts gX5_removeLowest_X5_record rfl rfl rfl (by decide +kernel) ⟨Nat.le_of_ble_eq_true rfl, Nat.le_of_ble_eq_true rfl⟩) hP hK hD hS hA [0, 1, 2, 3, 4, 5, 6] (by decide) rfl 5 0 rfl rfl rfl rfl hl.1 rfl (Nat.le_of_ble_eq_true rfl) dX5_removeLowest_13 ⟨Nat.le_of_ble_eq_true rfl, Nat.le_of_ble_eq_true rfl⟩ rfl rfl (fun H locs hP hD hS => ?_)
      refine lv_aload_n hx hb dX5_removeLowest_16 rfl (lv_at hl 0 rfl) ?_
      refine va_get (D := D) (ci := 5) (v := .ref (adM 1)) (C := RX5) (T := TX5) (N := 12) hx hb hts hinX5 hown hK.1 hP 0 rfl rfl 0 (by decide) wf0 (fun _ h9 => h9) rfl dX5_removeLowest_17 ?_
      refine lv_iconst (v := 0) hx hb dX5_removeLowest_20 (by decide) ?_
      refine lv_dup2_11 hx hb dX5_removeLowest_21 rfl rfl ?_
      obtain ⟨b22, h⟩ := kIf h
      refine va_iald (f := r13.2.2.2.2.2.2.1) (n := 133) hx hb hK.1 hP 1 0 rfl rfl (kIn_ok b22) dX5_removeLowest_22 ?_
      refine lv_iconst (v := 1) hx hb dX5_removeLowest_23 (by decide) ?_
      refine lv_isub hx hb dX5_removeLowest_24 ?_
      obtain ⟨b25, h⟩ := kIf h
      refine va_iast (f := r13.2.2.2.2.2.2.1) (n := 133) hx hb hK.1 hP hD hS 1 0 rfl rfl (kIn_ok b25) dX5_removeLowest_25 (fun H locs hP hD hS => ?_)
      have hP : va_P D vwCl (wM ty adM (r13.1, r13.2.1, r13.2.2.1, r13.2.2.2.1, r13.2.2.2.2.1, r13.2.2.2.2.2.1, (upd r13.2.2.2.2.2.2.1 (0 : Int32).toNatClampNeg ((r13.2.2.2.2.2.2.1 (0 : Int32).toNatClampNeg) - (1 : Int32))), r13.2.2.2.2.2.2.2)) H := hP
      have hD : va_D A (wM ty adM (r13.1, r13.2.1, r13.2.2.1, r13.2.2.2.1, r13.2.2.2.2.1, r13.2.2.2.2.2.1, (upd r13.2.2.2.2.2.2.1 (0 : Int32).toNatClampNeg ((r13.2.2.2.2.2.2.1 (0 : Int32).toNatClampNeg) - (1 : Int32))), r13.2.2.2.2.2.2.2)) := hD
      refine lv_aload_n hx hb dX5_removeLowest_26 rfl (lv_at hl 0 rfl) ?_
      refine va_get (D := D) (ci := 5) (v := .ref (adM 1)) (C := RX5) (T := TX5) (N := 12) hx hb hts hinX5 hown hK.1 hP 0 rfl rfl 0 (by decide) wf0 (fun _ h9 => h9) rfl dX5_removeLowest_27 ?_
      refine lv_iconst (v := 0) hx hb dX5_removeLowest_30 (by decide) ?_
      obtain ⟨b31, h⟩ := kIf h
      refine va_iald (f := (upd r13.2.2.2.2.2.2.1 (0 : Int32).toNatClampNeg ((r13.2.2.2.2.2.2.1 (0 : Int32).toNatClampNeg) - (1 : Int32)))) (n := 133) hx hb hK.1 hP 1 0 rfl rfl (kIn_ok b31) dX5_removeLowest_31 ?_
      obtain rfl := Option.some.inj h
      subst hQ
      exact W.iret (v := ((upd r13.2.2.2.2.2.2.1 (0 : Int32).toNatClampNeg ((r13.2.2.2.2.2.2.1 (0 : Int32).toNatClampNeg) - (1 : Int32))) (0 : Int32).toNatClampNeg)) hx hb hr (fun t ht hW => ⟨⟨((upd r13.2.2.2.2.2.2.1 (0 : Int32).toNatClampNeg ((r13.2.2.2.2.2.2.1 (0 : Int32).toNatClampNeg) - (1 : Int32))) (0 : Int32).toNatClampNeg), (), rfl, rfl, kEnd ht hP⟩, hS.F ht⟩) hS.2.2 dX5_removeLowest_32
    · have h := kF h (fun z => z c6)
      refine lv_ldc hx hb hown wf2 dX5_removeLowest_9 ?_
      obtain rfl := Option.some.inj h
      subst hQ
      exact W.iret (v := (-1000000003 : Int32)) hx hb hr (fun t ht hW => ⟨⟨(-1000000003 : Int32), (), rfl, rfl, kEnd ht hP⟩, hS.F ht⟩) hS.2.2 dX5_removeLowest_11
  exact E0 s.heap [] ls hP hD hS hl
def fX5_divide_c52 (uM : KM) (x1 : Int32) (x2 : Int32) (x3 : Int32) (nx52 : KM × Int32 → Option (Int32 × KM)) : Option (Int32 × KM) := if x3 < ((((8 : Int32) * x1) + (8 : Int32)) + (5 : Int32)) then (if kIn ((((8 : Int32) * x1) + (8 : Int32)) + (5 : Int32)) 133 = true then (if kIn ((((8 : Int32) * x1) + (8 : Int32)) + (5 : Int32)) 133 = true then (if kIn ((((8 : Int32) * x1) + (8 : Int32)) + (12 : Int32)) 133 = true then (if kIn (((8 : Int32) * x1) + (5 : Int32)) 133 = true then (if kIn (((8 : Int32) * x1) + (9 : Int32)) 133 = true then (if kIn (((8 : Int32) * x1) + (10 : Int32)) 133 = true then (if kIn (((8 : Int32) * x1) + (11 : Int32)) 133 = true then (if kIn (((8 : Int32) * x1) + (12 : Int32)) 133 = true then (if kIn (0 : Int32) 133 = true then (if kIn (0 : Int32) 133 = true then (if kIn (0 : Int32) 133 = true then (some (((upd (upd (upd (upd (upd (upd (upd (upd uM.2.2.2.2.2.2.1 ((((8 : Int32) * x1) + (8 : Int32)) + (5 : Int32)).toNatClampNeg ((uM.2.2.2.2.2.2.1 ((((8 : Int32) * x1) + (8 : Int32)) + (5 : Int32)).toNatClampNeg) - x2)) ((((8 : Int32) * x1) + (8 : Int32)) + (12 : Int32)).toNatClampNeg (0 : Int32)) (((8 : Int32) * x1) + (5 : Int32)).toNatClampNeg x2) (((8 : Int32) * x1) + (9 : Int32)).toNatClampNeg (0 : Int32)) (((8 : Int32) * x1) + (10 : Int32)).toNatClampNeg (0 : Int32)) (((8 : Int32) * x1) + (11 : Int32)).toNatClampNeg (0 : Int32)) (((8 : Int32) * x1) + (12 : Int32)).toNatClampNeg (0 : Int32)) (0 : Int32).toNatClampNeg (((upd (upd (upd (upd (upd (upd (upd uM.2.2.2.2.2.2.1 ((((8 : Int32) * x1) + (8 : Int32)) + (5 : Int32)).toNatClampNeg ((uM.2.2.2.2.2.2.1 ((((8 : Int32) * x1) + (8 : Int32)) + (5 : Int32)).toNatClampNeg) - x2)) ((((8 : Int32) * x1) + (8 : Int32)) + (12 : Int32)).toNatClampNeg (0 : Int32)) (((8 : Int32) * x1) + (5 : Int32)).toNatClampNeg x2) (((8 : Int32) * x1) + (9 : Int32)).toNatClampNeg (0 : Int32)) (((8 : Int32) * x1) + (10 : Int32)).toNatClampNeg (0 : Int32)) (((8 : Int32) * x1) + (11 : Int32)).toNatClampNeg (0 : Int32)) (((8 : Int32) * x1) + (12 : Int32)).toNatClampNeg (0 : Int32)) (0 : Int32).toNatClampNeg) + (1 : Int32))) (0 : Int32).toNatClampNeg), (uM.1, uM.2.1, uM.2.2.1, uM.2.2.2.1, uM.2.2.2.2.1, uM.2.2.2.2.2.1, (upd (upd (upd (upd (upd (upd (upd (upd uM.2.2.2.2.2.2.1 ((((8 : Int32) * x1) + (8 : Int32)) + (5 : Int32)).toNatClampNeg ((uM.2.2.2.2.2.2.1 ((((8 : Int32) * x1) + (8 : Int32)) + (5 : Int32)).toNatClampNeg) - x2)) ((((8 : Int32) * x1) + (8 : Int32)) + (12 : Int32)).toNatClampNeg (0 : Int32)) (((8 : Int32) * x1) + (5 : Int32)).toNatClampNeg x2) (((8 : Int32) * x1) + (9 : Int32)).toNatClampNeg (0 : Int32)) (((8 : Int32) * x1) + (10 : Int32)).toNatClampNeg (0 : Int32)) (((8 : Int32) * x1) + (11 : Int32)).toNatClampNeg (0 : Int32)) (((8 : Int32) * x1) + (12 : Int32)).toNatClampNeg (0 : Int32)) (0 : Int32).toNatClampNeg (((upd (upd (upd (upd (upd (upd (upd uM.2.2.2.2.2.2.1 ((((8 : Int32) * x1) + (8 : Int32)) + (5 : Int32)).toNatClampNeg ((uM.2.2.2.2.2.2.1 ((((8 : Int32) * x1) + (8 : Int32)) + (5 : Int32)).toNatClampNeg) - x2)) ((((8 : Int32) * x1) + (8 : Int32)) + (12 : Int32)).toNatClampNeg (0 : Int32)) (((8 : Int32) * x1) + (5 : Int32)).toNatClampNeg x2) (((8 : Int32) * x1) + (9 : Int32)).toNatClampNeg (0 : Int32)) (((8 : Int32) * x1) + (10 : Int32)).toNatClampNeg (0 : Int32)) (((8 : Int32) * x1) + (11 : Int32)).toNatClampNeg (0 : Int32)) (((8 : Int32) * x1) + (12 : Int32)).toNatClampNeg (0 : Int32)) (0 : Int32).toNatClampNeg) + (1 : Int32))), uM.2.2.2.2.2.2.2))) else none) else none) else none) else none) else none) else none) else none) else none) else none) else none) else none) else (if kIn (x3 - (8 : Int32)) 133 = true then (if kIn x3 133 = true then (nx52 ((uM.1, uM.2.1, uM.2.2.1, uM.2.2.2.1, uM.2.2.2.2.1, uM.2.2.2.2.2.1, (upd uM.2.2.2.2.2.2.1 x3.toNatClampNeg (uM.2.2.2.2.2.2.1 (x3 - (8 : Int32)).toNatClampNeg)), uM.2.2.2.2.2.2.2), (x3 + (-1)))) else none) else none)
def fX5_divide (vM : KM) (p1 : Int32) (p2 : Int32) : Option (Int32 × KM) := (fX5_isLayer vM p1).bind fun r2 => if ¬ r2 = (0 : Int32) then ((fX5_of vM p1 (5 : Int32)).bind fun r16 => (fX5_in p2 (1 : Int32) (r16 - (1 : Int32))).bind fun r21 => if ¬ r21 = (0 : Int32) then (if kIn (0 : Int32) 133 = true then (if ¬ (vM.2.2.2.2.2.2.1 (0 : Int32).toNatClampNeg) = (16 : Int32) then ((fX5_record vM).bind fun r45 => kLoopC kFu (fun q nx52 => fX5_divide_c52 q.1 p1 p2 q.2 nx52) (r45, (132 : Int32))) else (some ((-1000000004 : Int32), vM))) else none) else (some ((-1000000002 : Int32), vM))) else (some ((-1000000001 : Int32), vM))
set_option maxHeartbeats 4000000 in
set_option maxRecDepth 100000 in
theorem cX5_divide_ok (l : Launch) (D : va_G) (ty : kTy) (adM : Nat → Nat) (sz : Nat) (vM : KM) (p1 : Int32) (p2 : Int32) (res : Int32 × KM) (h : fX5_divide vM p1 p2 = some res) : kMI l yX5_divide wsX5_divide { frames := 2, cells := 0, slots := 0, locals := 43 } [.ref (adM 0), .int p1, .int p2] D ty (wM ty adM vM) sz res.1 (wM ty adM res.2) := by
  refine Met.ofW (cc := cX5_divide) (maxL := 4) (ret := (some .int)) (by decide) rfl ?_
  intro p e s m args below meth c s₁ B hml hv
  obtain ⟨rfl, hsz, hP, hK, hD0⟩ := hv
  have hx := B.exec
  have hb := B.bytes
  have hr := B.returns
  have hts := atoms_spec (ws := wsX5_divide) B.pre
  have hown : s.vm.findClass RX5 = some m.cls := findClass_of_methodNamed B.named
  have hlocks := B.notSynchronized
  subst hsz
  have hD := hD0.self (sz := s.heap.size)
  generalize hAe : va_A (wM ty adM vM) s.heap.size = A at hD ⊢
  have hA : ∀ q : Nat, s.heap.size ≤ q → A q := fun q h => by rw [← hAe]; exact Or.inr h
  have hS : va_S A s.heap s.heap [] := va_S.rf
  refine kGenW (fun Q hQ => ?_)
  have wf0 := hts (.fieldLink RX5 7 "IceCoreDaterModel" "now" "[I") (by decide +kernel)
  have hinX5 : ∀ w ∈ wsX50, w ∈ wsX5_divide := by decide +kernel
  have wf2 := hts (.constant RX5 106 (-1000000004)) (by decide +kernel)
  have wf3 := hts (.constant RX5 100 (-1000000002)) (by decide +kernel)
  have wf4 := hts (.constant RX5 114 (-1000000001)) (by decide +kernel)
  have B52 : ∀ (x1 : Int32) (x2 : Int32) (nx52 : KM × Int32 → Option (Int32 × KM)) (hn52 : ∀ (uM : KM) (x3 : Int32), nx52 (uM, x3) = some res → ∀ (H : Heap) (locs : List Loc) (ls : Array Slot), va_P D vwCl (wM ty adM uM) H → va_D A (wM ty adM uM) → va_S A s.heap H locs → lv_has ls 4 [(0, .ref (adM 0)), (1, .int x1), (2, .int x2), (3, .int x3)] → W p l e (headSpec wsX5_divide { frames := 2, cells := 0, slots := 0, locals := 43 }).room s m ([.ref (adM 0), .int p1, .int p2] : List Value).toArray below meth c H locs 0 0 Q (F0 m 52 ls [])) (uM : KM) (x3 : Int32), fX5_divide_c52 uM x1 x2 x3 nx52 = some res → ∀ (H : Heap) (locs : List Loc) (ls : Array Slot), va_P D vwCl (wM ty adM uM) H → va_D A (wM ty adM uM) → va_S A s.heap H locs → lv_has ls 4 [(0, .ref (adM 0)), (1, .int x1), (2, .int x2), (3, .int x3)] → W p l e (headSpec wsX5_divide { frames := 2, cells := 0, slots := 0, locals := 43 }).room s m ([.ref (adM 0), .int p1, .int p2] : List Value).toArray below meth c H locs 0 0 Q (F0 m 52 ls []) := by
    intro x1 x2 nx52 hn52 uM x3 h H locs ls hP hD hS hl
    unfold fX5_divide_c52 at h
    refine lv_iload_n hx hb dX5_divide_52 rfl (lv_at hl 3 rfl) ?_
    refine lv_bipush (v := 8) hx hb dX5_divide_53 (by decide) ?_
    refine lv_iload_n hx hb dX5_divide_55 rfl (lv_at hl 1 rfl) ?_
    refine lv_imul hx hb dX5_divide_56 ?_
    refine lv_bipush (v := 8) hx hb dX5_divide_57 (by decide) ?_
    refine lv_iadd hx hb dX5_divide_59 ?_
    refine lv_iconst (v := 5) hx hb dX5_divide_60 (by decide) ?_
    refine lv_iadd hx hb dX5_divide_61 ?_
    refine lv_icmp_lt (tgt := 86) hx hb dX5_divide_62 (by decide) (fun c62 => ?_) (fun c62 => ?_)
    · have h := kT h c62
      refine lv_bipush (v := 8) hx hb dX5_divide_86 (by decide) ?_
      refine lv_iload_n hx hb dX5_divide_88 rfl (lv_at hl 1 rfl) ?_
      refine lv_imul hx hb dX5_divide_89 ?_
      refine lv_istore_n (lv' := [(3, .int ((8 : Int32) * x1)), (0, .ref (adM 0)), (1, .int x1), (2, .int x2)]) hx hb dX5_divide_90 rfl hl (by decide) rfl (fun ls hl => ?_)
      refine lv_aload_n hx hb dX5_divide_91 rfl (lv_at hl 1 rfl) ?_
      refine va_get (D := D) (ci := 5) (v := .ref (adM 1)) (C := RX5) (T := TX5) (N := 12) hx hb hts hinX5 hown hK.1 hP 0 rfl rfl 0 (by decide) wf0 (fun _ h9 => h9) rfl dX5_divide_92 ?_
      refine lv_iload_n hx hb dX5_divide_95 rfl (lv_at hl 0 rfl) ?_
      refine lv_bipush (v := 8) hx hb dX5_divide_96 (by decide) ?_
      refine lv_iadd hx hb dX5_divide_98 ?_
      refine lv_iconst (v := 5) hx hb dX5_divide_99 (by decide) ?_
      refine lv_iadd hx hb dX5_divide_100 ?_
      refine lv_dup2_11 hx hb dX5_divide_101 rfl rfl ?_
      obtain ⟨b102, h⟩ := kIf h
      refine va_iald (f := uM.2.2.2.2.2.2.1) (n := 133) hx hb hK.1 hP 1 0 rfl rfl (kIn_ok b102) dX5_divide_102 ?_
      refine lv_iload_n hx hb dX5_divide_103 rfl (lv_at hl 3 rfl) ?_
      refine lv_isub hx hb dX5_divide_104 ?_
      obtain ⟨b105, h⟩ := kIf h
      refine va_iast (f := uM.2.2.2.2.2.2.1) (n := 133) hx hb hK.1 hP hD hS 1 0 rfl rfl (kIn_ok b105) dX5_divide_105 (fun H locs hP hD hS => ?_)
      have hP : va_P D vwCl (wM ty adM (uM.1, uM.2.1, uM.2.2.1, uM.2.2.2.1, uM.2.2.2.2.1, uM.2.2.2.2.2.1, (upd uM.2.2.2.2.2.2.1 ((((8 : Int32) * x1) + (8 : Int32)) + (5 : Int32)).toNatClampNeg ((uM.2.2.2.2.2.2.1 ((((8 : Int32) * x1) + (8 : Int32)) + (5 : Int32)).toNatClampNeg) - x2)), uM.2.2.2.2.2.2.2)) H := hP
      have hD : va_D A (wM ty adM (uM.1, uM.2.1, uM.2.2.1, uM.2.2.2.1, uM.2.2.2.2.1, uM.2.2.2.2.2.1, (upd uM.2.2.2.2.2.2.1 ((((8 : Int32) * x1) + (8 : Int32)) + (5 : Int32)).toNatClampNeg ((uM.2.2.2.2.2.2.1 ((((8 : Int32) * x1) + (8 : Int32)) + (5 : Int32)).toNatClampNeg) - x2)), uM.2.2.2.2.2.2.2)) := hD
      refine lv_aload_n hx hb dX5_divide_106 rfl (lv_at hl 1 rfl) ?_
      refine va_get (D := D) (ci := 5) (v := .ref (adM 1)) (C := RX5) (T := TX5) (N := 12) hx hb hts hinX5 hown hK.1 hP 0 rfl rfl 0 (by decide) wf0 (fun _ h9 => h9) rfl dX5_divide_107 ?_
      refine lv_iload_n hx hb dX5_divide_110 rfl (lv_at hl 0 rfl) ?_
      refine lv_bipush (v := 8) hx hb dX5_divide_111 (by decide) ?_
      refine lv_iadd hx hb dX5_divide_113 ?_
      refine lv_bipush (v := 12) hx hb dX5_divide_114 (by decide) ?_
      refine lv_iadd hx hb dX5_divide_116 ?_
      refine lv_iconst (v := 0) hx hb dX5_divide_117 (by decide) ?_
      obtain ⟨b118, h⟩ := kIf h
      refine va_iast (f := (upd uM.2.2.2.2.2.2.1 ((((8 : Int32) * x1) + (8 : Int32)) + (5 : Int32)).toNatClampNeg ((uM.2.2.2.2.2.2.1 ((((8 : Int32) * x1) + (8 : Int32)) + (5 : Int32)).toNatClampNeg) - x2))) (n := 133) hx hb hK.1 hP hD hS 1 0 rfl rfl (kIn_ok b118) dX5_divide_118 (fun H locs hP hD hS => ?_)
      have hP : va_P D vwCl (wM ty adM (uM.1, uM.2.1, uM.2.2.1, uM.2.2.2.1, uM.2.2.2.2.1, uM.2.2.2.2.2.1, (upd (upd uM.2.2.2.2.2.2.1 ((((8 : Int32) * x1) + (8 : Int32)) + (5 : Int32)).toNatClampNeg ((uM.2.2.2.2.2.2.1 ((((8 : Int32) * x1) + (8 : Int32)) + (5 : Int32)).toNatClampNeg) - x2)) ((((8 : Int32) * x1) + (8 : Int32)) + (12 : Int32)).toNatClampNeg (0 : Int32)), uM.2.2.2.2.2.2.2)) H := hP
      have hD : va_D A (wM ty adM (uM.1, uM.2.1, uM.2.2.1, uM.2.2.2.1, uM.2.2.2.2.1, uM.2.2.2.2.2.1, (upd (upd uM.2.2.2.2.2.2.1 ((((8 : Int32) * x1) + (8 : Int32)) + (5 : Int32)).toNatClampNeg ((uM.2.2.2.2.2.2.1 ((((8 : Int32) * x1) + (8 : Int32)) + (5 : Int32)).toNatClampNeg) - x2)) ((((8 : Int32) * x1) + (8 : Int32)) + (12 : Int32)).toNatClampNeg (0 : Int32)), uM.2.2.2.2.2.2.2)) := hD
      refine lv_aload_n hx hb dX5_divide_119 rfl (lv_at hl 1 rfl) ?_
      refine va_get (D := D) (ci := 5) (v := .ref (adM 1)) (C := RX5) (T := TX5) (N := 12) hx hb hts hinX5 hown hK.1 hP 0 rfl rfl 0 (by decide) wf0 (fun _ h9 => h9) rfl dX5_divide_120 ?_
      refine lv_iload_n hx hb dX5_divide_123 rfl (lv_at hl 0 rfl) ?_
      refine lv_iconst (v := 5) hx hb dX5_divide_124 (by decide) ?_
      refine lv_iadd hx hb dX5_divide_125 ?_
      refine lv_iload_n hx hb dX5_divide_126 rfl (lv_at hl 3 rfl) ?_
      obtain ⟨b127, h⟩ := kIf h
      refine va_iast (f := (upd (upd uM.2.2.2.2.2.2.1 ((((8 : Int32) * x1) + (8 : Int32)) + (5 : Int32)).toNatClampNeg ((uM.2.2.2.2.2.2.1 ((((8 : Int32) * x1) + (8 : Int32)) + (5 : Int32)).toNatClampNeg) - x2)) ((((8 : Int32) * x1) + (8 : Int32)) + (12 : Int32)).toNatClampNeg (0 : Int32))) (n := 133) hx hb hK.1 hP hD hS 1 0 rfl rfl (kIn_ok b127) dX5_divide_127 (fun H locs hP hD hS => ?_)
      have hP : va_P D vwCl (wM ty adM (uM.1, uM.2.1, uM.2.2.1, uM.2.2.2.1, uM.2.2.2.2.1, uM.2.2.2.2.2.1, (upd (upd (upd uM.2.2.2.2.2.2.1 ((((8 : Int32) * x1) + (8 : Int32)) + (5 : Int32)).toNatClampNeg ((uM.2.2.2.2.2.2.1 ((((8 : Int32) * x1) + (8 : Int32)) + (5 : Int32)).toNatClampNeg) - x2)) ((((8 : Int32) * x1) + (8 : Int32)) + (12 : Int32)).toNatClampNeg (0 : Int32)) (((8 : Int32) * x1) + (5 : Int32)).toNatClampNeg x2), uM.2.2.2.2.2.2.2)) H := hP
      have hD : va_D A (wM ty adM (uM.1, uM.2.1, uM.2.2.1, uM.2.2.2.1, uM.2.2.2.2.1, uM.2.2.2.2.2.1, (upd (upd (upd uM.2.2.2.2.2.2.1 ((((8 : Int32) * x1) + (8 : Int32)) + (5 : Int32)).toNatClampNeg ((uM.2.2.2.2.2.2.1 ((((8 : Int32) * x1) + (8 : Int32)) + (5 : Int32)).toNatClampNeg) - x2)) ((((8 : Int32) * x1) + (8 : Int32)) + (12 : Int32)).toNatClampNeg (0 : Int32)) (((8 : Int32) * x1) + (5 : Int32)).toNatClampNeg x2), uM.2.2.2.2.2.2.2)) := hD
      refine lv_aload_n hx hb dX5_divide_128 rfl (lv_at hl 1 rfl) ?_
      refine va_get (D := D) (ci := 5) (v := .ref (adM 1)) (C := RX5) (T := TX5) (N := 12) hx hb hts hinX5 hown hK.1 hP 0 rfl rfl 0 (by decide) wf0 (fun _ h9 => h9) rfl dX5_divide_129 ?_
      refine lv_iload_n hx hb dX5_divide_132 rfl (lv_at hl 0 rfl) ?_
      refine lv_bipush (v := 9) hx hb dX5_divide_133 (by decide) ?_
      refine lv_iadd hx hb dX5_divide_135 ?_
      refine lv_iconst (v := 0) hx hb dX5_divide_136 (by decide) ?_
      obtain ⟨b137, h⟩ := kIf h
      refine va_iast (f := (upd (upd (upd uM.2.2.2.2.2.2.1 ((((8 : Int32) * x1) + (8 : Int32)) + (5 : Int32)).toNatClampNeg ((uM.2.2.2.2.2.2.1 ((((8 : Int32) * x1) + (8 : Int32)) + (5 : Int32)).toNatClampNeg) - x2)) ((((8 : Int32) * x1) + (8 : Int32)) + (12 : Int32)).toNatClampNeg (0 : Int32)) (((8 : Int32) * x1) + (5 : Int32)).toNatClampNeg x2)) (n := 133) hx hb hK.1 hP hD hS 1 0 rfl rfl (kIn_ok b137) dX5_divide_137 (fun H locs hP hD hS => ?_)
      have hP : va_P D vwCl (wM ty adM (uM.1, uM.2.1, uM.2.2.1, uM.2.2.2.1, uM.2.2.2.2.1, uM.2.2.2.2.2.1, (upd (upd (upd (upd uM.2.2.2.2.2.2.1 ((((8 : Int32) * x1) + (8 : Int32)) + (5 : Int32)).toNatClampNeg ((uM.2.2.2.2.2.2.1 ((((8 : Int32) * x1) + (8 : Int32)) + (5 : Int32)).toNatClampNeg) - x2)) ((((8 : Int32) * x1) + (8 : Int32)) + (12 : Int32)).toNatClampNeg (0 : Int32)) (((8 : Int32) * x1) + (5 : Int32)).toNatClampNeg x2) (((8 : Int32) * x1) + (9 : Int32)).toNatClampNeg (0 : Int32)), uM.2.2.2.2.2.2.2)) H := hP
      have hD : va_D A (wM ty adM (uM.1, uM.2.1, uM.2.2.1, uM.2.2.2.1, uM.2.2.2.2.1, uM.2.2.2.2.2.1, (upd (upd (upd (upd uM.2.2.2.2.2.2.1 ((((8 : Int32) * x1) + (8 : Int32)) + (5 : Int32)).toNatClampNeg ((uM.2.2.2.2.2.2.1 ((((8 : Int32) * x1) + (8 : Int32)) + (5 : Int32)).toNatClampNeg) - x2)) ((((8 : Int32) * x1) + (8 : Int32)) + (12 : Int32)).toNatClampNeg (0 : Int32)) (((8 : Int32) * x1) + (5 : Int32)).toNatClampNeg x2) (((8 : Int32) * x1) + (9 : Int32)).toNatClampNeg (0 : Int32)), uM.2.2.2.2.2.2.2)) := hD
      refine lv_aload_n hx hb dX5_divide_138 rfl (lv_at hl 1 rfl) ?_
      refine va_get (D := D) (ci := 5) (v := .ref (adM 1)) (C := RX5) (T := TX5) (N := 12) hx hb hts hinX5 hown hK.1 hP 0 rfl rfl 0 (by decide) wf0 (fun _ h9 => h9) rfl dX5_divide_139 ?_
      refine lv_iload_n hx hb dX5_divide_142 rfl (lv_at hl 0 rfl) ?_
      refine lv_bipush (v := 10) hx hb dX5_divide_143 (by decide) ?_
      refine lv_iadd hx hb dX5_divide_145 ?_
      refine lv_iconst (v := 0) hx hb dX5_divide_146 (by decide) ?_
      obtain ⟨b147, h⟩ := kIf h
      refine va_iast (f := (upd (upd (upd (upd uM.2.2.2.2.2.2.1 ((((8 : Int32) * x1) + (8 : Int32)) + (5 : Int32)).toNatClampNeg ((uM.2.2.2.2.2.2.1 ((((8 : Int32) * x1) + (8 : Int32)) + (5 : Int32)).toNatClampNeg) - x2)) ((((8 : Int32) * x1) + (8 : Int32)) + (12 : Int32)).toNatClampNeg (0 : Int32)) (((8 : Int32) * x1) + (5 : Int32)).toNatClampNeg x2) (((8 : Int32) * x1) + (9 : Int32)).toNatClampNeg (0 : Int32))) (n := 133) hx hb hK.1 hP hD hS 1 0 rfl rfl (kIn_ok b147) dX5_divide_147 (fun H locs hP hD hS => ?_)
      have hP : va_P D vwCl (wM ty adM (uM.1, uM.2.1, uM.2.2.1, uM.2.2.2.1, uM.2.2.2.2.1, uM.2.2.2.2.2.1, (upd (upd (upd (upd (upd uM.2.2.2.2.2.2.1 ((((8 : Int32) * x1) + (8 : Int32)) + (5 : Int32)).toNatClampNeg ((uM.2.2.2.2.2.2.1 ((((8 : Int32) * x1) + (8 : Int32)) + (5 : Int32)).toNatClampNeg) - x2)) ((((8 : Int32) * x1) + (8 : Int32)) + (12 : Int32)).toNatClampNeg (0 : Int32)) (((8 : Int32) * x1) + (5 : Int32)).toNatClampNeg x2) (((8 : Int32) * x1) + (9 : Int32)).toNatClampNeg (0 : Int32)) (((8 : Int32) * x1) + (10 : Int32)).toNatClampNeg (0 : Int32)), uM.2.2.2.2.2.2.2)) H := hP
      have hD : va_D A (wM ty adM (uM.1, uM.2.1, uM.2.2.1, uM.2.2.2.1, uM.2.2.2.2.1, uM.2.2.2.2.2.1, (upd (upd (upd (upd (upd uM.2.2.2.2.2.2.1 ((((8 : Int32) * x1) + (8 : Int32)) + (5 : Int32)).toNatClampNeg ((uM.2.2.2.2.2.2.1 ((((8 : Int32) * x1) + (8 : Int32)) + (5 : Int32)).toNatClampNeg) - x2)) ((((8 : Int32) * x1) + (8 : Int32)) + (12 : Int32)).toNatClampNeg (0 : Int32)) (((8 : Int32) * x1) + (5 : Int32)).toNatClampNeg x2) (((8 : Int32) * x1) + (9 : Int32)).toNatClampNeg (0 : Int32)) (((8 : Int32) * x1) + (10 : Int32)).toNatClampNeg (0 : Int32)), uM.2.2.2.2.2.2.2)) := hD
      refine lv_aload_n hx hb dX5_divide_148 rfl (lv_at hl 1 rfl) ?_
      refine va_get (D := D) (ci := 5) (v := .ref (adM 1)) (C := RX5) (T := TX5) (N := 12) hx hb hts hinX5 hown hK.1 hP 0 rfl rfl 0 (by decide) wf0 (fun _ h9 => h9) rfl dX5_divide_149 ?_
      refine lv_iload_n hx hb dX5_divide_152 rfl (lv_at hl 0 rfl) ?_
      refine lv_bipush (v := 11) hx hb dX5_divide_153 (by decide) ?_
      refine lv_iadd hx hb dX5_divide_155 ?_
      refine lv_iconst (v := 0) hx hb dX5_divide_156 (by decide) ?_
      obtain ⟨b157, h⟩ := kIf h
      refine va_iast (f := (upd (upd (upd (upd (upd uM.2.2.2.2.2.2.1 ((((8 : Int32) * x1) + (8 : Int32)) + (5 : Int32)).toNatClampNeg ((uM.2.2.2.2.2.2.1 ((((8 : Int32) * x1) + (8 : Int32)) + (5 : Int32)).toNatClampNeg) - x2)) ((((8 : Int32) * x1) + (8 : Int32)) + (12 : Int32)).toNatClampNeg (0 : Int32)) (((8 : Int32) * x1) + (5 : Int32)).toNatClampNeg x2) (((8 : Int32) * x1) + (9 : Int32)).toNatClampNeg (0 : Int32)) (((8 : Int32) * x1) + (10 : Int32)).toNatClampNeg (0 : Int32))) (n := 133) hx hb hK.1 hP hD hS 1 0 rfl rfl (kIn_ok b157) dX5_divide_157 (fun H locs hP hD hS => ?_)
      have hP : va_P D vwCl (wM ty adM (uM.1, uM.2.1, uM.2.2.1, uM.2.2.2.1, uM.2.2.2.2.1, uM.2.2.2.2.2.1, (upd (upd (upd (upd (upd (upd uM.2.2.2.2.2.2.1 ((((8 : Int32) * x1) + (8 : Int32)) + (5 : Int32)).toNatClampNeg ((uM.2.2.2.2.2.2.1 ((((8 : Int32) * x1) + (8 : Int32)) + (5 : Int32)).toNatClampNeg) - x2)) ((((8 : Int32) * x1) + (8 : Int32)) + (12 : Int32)).toNatClampNeg (0 : Int32)) (((8 : Int32) * x1) + (5 : Int32)).toNatClampNeg x2) (((8 : Int32) * x1) + (9 : Int32)).toNatClampNeg (0 : Int32)) (((8 : Int32) * x1) + (10 : Int32)).toNatClampNeg (0 : Int32)) (((8 : Int32) * x1) + (11 : Int32)).toNatClampNeg (0 : Int32)), uM.2.2.2.2.2.2.2)) H := hP
      have hD : va_D A (wM ty adM (uM.1, uM.2.1, uM.2.2.1, uM.2.2.2.1, uM.2.2.2.2.1, uM.2.2.2.2.2.1, (upd (upd (upd (upd (upd (upd uM.2.2.2.2.2.2.1 ((((8 : Int32) * x1) + (8 : Int32)) + (5 : Int32)).toNatClampNeg ((uM.2.2.2.2.2.2.1 ((((8 : Int32) * x1) + (8 : Int32)) + (5 : Int32)).toNatClampNeg) - x2)) ((((8 : Int32) * x1) + (8 : Int32)) + (12 : Int32)).toNatClampNeg (0 : Int32)) (((8 : Int32) * x1) + (5 : Int32)).toNatClampNeg x2) (((8 : Int32) * x1) + (9 : Int32)).toNatClampNeg (0 : Int32)) (((8 : Int32) * x1) + (10 : Int32)).toNatClampNeg (0 : Int32)) (((8 : Int32) * x1) + (11 : Int32)).toNatClampNeg (0 : Int32)), uM.2.2.2.2.2.2.2)) := hD
      refine lv_aload_n hx hb dX5_divide_158 rfl (lv_at hl 1 rfl) ?_
      refine va_get (D := D) (ci := 5) (v := .ref (adM 1)) (C := RX5) (T := TX5) (N := 12) hx hb hts hinX5 hown hK.1 hP 0 rfl rfl 0 (by decide) wf0 (fun _ h9 => h9) rfl dX5_divide_159 ?_
      refine lv_iload_n hx hb dX5_divide_162 rfl (lv_at hl 0 rfl) ?_
      refine lv_bipush (v := 12) hx hb dX5_divide_163 (by decide) ?_
      refine lv_iadd hx hb dX5_divide_165 ?_
      refine lv_iconst (v := 0) hx hb dX5_divide_166 (by decide) ?_
      obtain ⟨b167, h⟩ := kIf h
      refine va_iast (f := (upd (upd (upd (upd (upd (upd uM.2.2.2.2.2.2.1 ((((8 : Int32) * x1) + (8 : Int32)) + (5 : Int32)).toNatClampNeg ((uM.2.2.2.2.2.2.1 ((((8 : Int32) * x1) + (8 : Int32)) + (5 : Int32)).toNatClampNeg) - x2)) ((((8 : Int32) * x1) + (8 : Int32)) + (12 : Int32)).toNatClampNeg (0 : Int32)) (((8 : Int32) * x1) + (5 : Int32)).toNatClampNeg x2) (((8 : Int32) * x1) + (9 : Int32)).toNatClampNeg (0 : Int32)) (((8 : Int32) * x1) + (10 : Int32)).toNatClampNeg (0 : Int32)) (((8 : Int32) * x1) + (11 : Int32)).toNatClampNeg (0 : Int32))) (n := 133) hx hb hK.1 hP hD hS 1 0 rfl rfl (kIn_ok b167) dX5_divide_167 (fun H locs hP hD hS => ?_)
      have hP : va_P D vwCl (wM ty adM (uM.1, uM.2.1, uM.2.2.1, uM.2.2.2.1, uM.2.2.2.2.1, uM.2.2.2.2.2.1, (upd (upd (upd (upd (upd (upd (upd uM.2.2.2.2.2.2.1 ((((8 : Int32) * x1) + (8 : Int32)) + (5 : Int32)).toNatClampNeg ((uM.2.2.2.2.2.2.1 ((((8 : Int32) * x1) + (8 : Int32)) + (5 : Int32)).toNatClampNeg) - x2)) ((((8 : Int32) * x1) + (8 : Int32)) + (12 : Int32)).toNatClampNeg (0 : Int32)) (((8 : Int32) * x1) + (5 : Int32)).toNatClampNeg x2) (((8 : Int32) * x1) + (9 : Int32)).toNatClampNeg (0 : Int32)) (((8 : Int32) * x1) + (10 : Int32)).toNatClampNeg (0 : Int32)) (((8 : Int32) * x1) + (11 : Int32)).toNatClampNeg (0 : Int32)) (((8 : Int32) * x1) + (12 : Int32)).toNatClampNeg (0 : Int32)), uM.2.2.2.2.2.2.2)) H := hP
      have hD : va_D A (wM ty adM (uM.1, uM.2.1, uM.2.2.1, uM.2.2.2.1, uM.2.2.2.2.1, uM.2.2.2.2.2.1, (upd (upd (upd (upd (upd (upd (upd uM.2.2.2.2.2.2.1 ((((8 : Int32) * x1) + (8 : Int32)) + (5 : Int32)).toNatClampNeg ((uM.2.2.2.2.2.2.1 ((((8 : Int32) * x1) + (8 : Int32)) + (5 : Int32)).toNatClampNeg) - x2)) ((((8 : Int32) * x1) + (8 : Int32)) + (12 : Int32)).toNatClampNeg (0 : Int32)) (((8 : Int32) * x1) + (5 : Int32)).toNatClampNeg x2) (((8 : Int32) * x1) + (9 : Int32)).toNatClampNeg (0 : Int32)) (((8 : Int32) * x1) + (10 : Int32)).toNatClampNeg (0 : Int32)) (((8 : Int32) * x1) + (11 : Int32)).toNatClampNeg (0 : Int32)) (((8 : Int32) * x1) + (12 : Int32)).toNatClampNeg (0 : Int32)), uM.2.2.2.2.2.2.2)) := hD
      refine lv_aload_n hx hb dX5_divide_168 rfl (lv_at hl 1 rfl) ?_
      refine va_get (D := D) (ci := 5) (v := .ref (adM 1)) (C := RX5) (T := TX5) (N := 12) hx hb hts hinX5 hown hK.1 hP 0 rfl rfl 0 (by decide) wf0 (fun _ h9 => h9) rfl dX5_divide_169 ?_
      refine lv_iconst (v := 0) hx hb dX5_divide_172 (by decide) ?_
      refine lv_dup2_11 hx hb dX5_divide_173 rfl rfl ?_
      obtain ⟨b174, h⟩ := kIf h
      refine va_iald (f := (upd (upd (upd (upd (upd (upd (upd uM.2.2.2.2.2.2.1 ((((8 : Int32) * x1) + (8 : Int32)) + (5 : Int32)).toNatClampNeg ((uM.2.2.2.2.2.2.1 ((((8 : Int32) * x1) + (8 : Int32)) + (5 : Int32)).toNatClampNeg) - x2)) ((((8 : Int32) * x1) + (8 : Int32)) + (12 : Int32)).toNatClampNeg (0 : Int32)) (((8 : Int32) * x1) + (5 : Int32)).toNatClampNeg x2) (((8 : Int32) * x1) + (9 : Int32)).toNatClampNeg (0 : Int32)) (((8 : Int32) * x1) + (10 : Int32)).toNatClampNeg (0 : Int32)) (((8 : Int32) * x1) + (11 : Int32)).toNatClampNeg (0 : Int32)) (((8 : Int32) * x1) + (12 : Int32)).toNatClampNeg (0 : Int32))) (n := 133) hx hb hK.1 hP 1 0 rfl rfl (kIn_ok b174) dX5_divide_174 ?_
      refine lv_iconst (v := 1) hx hb dX5_divide_175 (by decide) ?_
      refine lv_iadd hx hb dX5_divide_176 ?_
      obtain ⟨b177, h⟩ := kIf h
      refine va_iast (f := (upd (upd (upd (upd (upd (upd (upd uM.2.2.2.2.2.2.1 ((((8 : Int32) * x1) + (8 : Int32)) + (5 : Int32)).toNatClampNeg ((uM.2.2.2.2.2.2.1 ((((8 : Int32) * x1) + (8 : Int32)) + (5 : Int32)).toNatClampNeg) - x2)) ((((8 : Int32) * x1) + (8 : Int32)) + (12 : Int32)).toNatClampNeg (0 : Int32)) (((8 : Int32) * x1) + (5 : Int32)).toNatClampNeg x2) (((8 : Int32) * x1) + (9 : Int32)).toNatClampNeg (0 : Int32)) (((8 : Int32) * x1) + (10 : Int32)).toNatClampNeg (0 : Int32)) (((8 : Int32) * x1) + (11 : Int32)).toNatClampNeg (0 : Int32)) (((8 : Int32) * x1) + (12 : Int32)).toNatClampNeg (0 : Int32))) (n := 133) hx hb hK.1 hP hD hS 1 0 rfl rfl (kIn_ok b177) dX5_divide_177 (fun H locs hP hD hS => ?_)
      have hP : va_P D vwCl (wM ty adM (uM.1, uM.2.1, uM.2.2.1, uM.2.2.2.1, uM.2.2.2.2.1, uM.2.2.2.2.2.1, (upd (upd (upd (upd (upd (upd (upd (upd uM.2.2.2.2.2.2.1 ((((8 : Int32) * x1) + (8 : Int32)) + (5 : Int32)).toNatClampNeg ((uM.2.2.2.2.2.2.1 ((((8 : Int32) * x1) + (8 : Int32)) + (5 : Int32)).toNatClampNeg) - x2)) ((((8 : Int32) * x1) + (8 : Int32)) + (12 : Int32)).toNatClampNeg (0 : Int32)) (((8 : Int32) * x1) + (5 : Int32)).toNatClampNeg x2) (((8 : Int32) * x1) + (9 : Int32)).toNatClampNeg (0 : Int32)) (((8 : Int32) * x1) + (10 : Int32)).toNatClampNeg (0 : Int32)) (((8 : Int32) * x1) + (11 : Int32)).toNatClampNeg (0 : Int32)) (((8 : Int32) * x1) + (12 : Int32)).toNatClampNeg (0 : Int32)) (0 : Int32).toNatClampNeg (((upd (upd (upd (upd (upd (upd (upd uM.2.2.2.2.2.2.1 ((((8 : Int32) * x1) + (8 : Int32)) + (5 : Int32)).toNatClampNeg ((uM.2.2.2.2.2.2.1 ((((8 : Int32) * x1) + (8 : Int32)) + (5 : Int32)).toNatClampNeg) - x2)) ((((8 : Int32) * x1) + (8 : Int32)) + (12 : Int32)).toNatClampNeg (0 : Int32)) (((8 : Int32) * x1) + (5 : Int32)).toNatClampNeg x2) (((8 : Int32) * x1) + (9 : Int32)).toNatClampNeg (0 : Int32)) (((8 : Int32) * x1) + (10 : Int32)).toNatClampNeg (0 : Int32)) (((8 : Int32) * x1) + (11 : Int32)).toNatClampNeg (0 : Int32)) (((8 : Int32) * x1) + (12 : Int32)).toNatClampNeg (0 : Int32)) (0 : Int32).toNatClampNeg) + (1 : Int32))), uM.2.2.2.2.2.2.2)) H := hP
      have hD : va_D A (wM ty adM (uM.1, uM.2.1, uM.2.2.1, uM.2.2.2.1, uM.2.2.2.2.1, uM.2.2.2.2.2.1, (upd (upd (upd (upd (upd (upd (upd (upd uM.2.2.2.2.2.2.1 ((((8 : Int32) * x1) + (8 : Int32)) + (5 : Int32)).toNatClampNeg ((uM.2.2.2.2.2.2.1 ((((8 : Int32) * x1) + (8 : Int32)) + (5 : Int32)).toNatClampNeg) - x2)) ((((8 : Int32) * x1) + (8 : Int32)) + (12 : Int32)).toNatClampNeg (0 : Int32)) (((8 : Int32) * x1) + (5 : Int32)).toNatClampNeg x2) (((8 : Int32) * x1) + (9 : Int32)).toNatClampNeg (0 : Int32)) (((8 : Int32) * x1) + (10 : Int32)).toNatClampNeg (0 : Int32)) (((8 : Int32) * x1) + (11 : Int32)).toNatClampNeg (0 : Int32)) (((8 : Int32) * x1) + (12 : Int32)).toNatClampNeg (0 : Int32)) (0 : Int32).toNatClampNeg (((upd (upd (upd (upd (upd (upd (upd uM.2.2.2.2.2.2.1 ((((8 : Int32) * x1) + (8 : Int32)) + (5 : Int32)).toNatClampNeg ((uM.2.2.2.2.2.2.1 ((((8 : Int32) * x1) + (8 : Int32)) + (5 : Int32)).toNatClampNeg) - x2)) ((((8 : Int32) * x1) + (8 : Int32)) + (12 : Int32)).toNatClampNeg (0 : Int32)) (((8 : Int32) * x1) + (5 : Int32)).toNatClampNeg x2) (((8 : Int32) * x1) + (9 : Int32)).toNatClampNeg (0 : Int32)) (((8 : Int32) * x1) + (10 : Int32)).toNatClampNeg (0 : Int32)) (((8 : Int32) * x1) + (11 : Int32)).toNatClampNeg (0 : Int32)) (((8 : Int32) * x1) + (12 : Int32)).toNatClampNeg (0 : Int32)) (0 : Int32).toNatClampNeg) + (1 : Int32))), uM.2.2.2.2.2.2.2)) := hD
      refine lv_aload_n hx hb dX5_divide_178 rfl (lv_at hl 1 rfl) ?_
      refine va_get (D := D) (ci := 5) (v := .ref (adM 1)) (C := RX5) (T := TX5) (N := 12) hx hb hts hinX5 hown hK.1 hP 0 rfl rfl 0 (by decide) wf0 (fun _ h9 => h9) rfl dX5_divide_179 ?_
      refine lv_iconst (v := 0) hx hb dX5_divide_182 (by decide) ?_
      obtain ⟨b183, h⟩ := kIf h
      refine va_iald (f := (upd (upd (upd (upd (upd (upd (upd (upd uM.2.2.2.2.2.2.1 ((((8 : Int32) * x1) + (8 : Int32)) + (5 : Int32)).toNatClampNeg ((uM.2.2.2.2.2.2.1 ((((8 : Int32) * x1) + (8 : Int32)) + (5 : Int32)).toNatClampNeg) - x2)) ((((8 : Int32) * x1) + (8 : Int32)) + (12 : Int32)).toNatClampNeg (0 : Int32)) (((8 : Int32) * x1) + (5 : Int32)).toNatClampNeg x2) (((8 : Int32) * x1) + (9 : Int32)).toNatClampNeg (0 : Int32)) (((8 : Int32) * x1) + (10 : Int32)).toNatClampNeg (0 : Int32)) (((8 : Int32) * x1) + (11 : Int32)).toNatClampNeg (0 : Int32)) (((8 : Int32) * x1) + (12 : Int32)).toNatClampNeg (0 : Int32)) (0 : Int32).toNatClampNeg (((upd (upd (upd (upd (upd (upd (upd uM.2.2.2.2.2.2.1 ((((8 : Int32) * x1) + (8 : Int32)) + (5 : Int32)).toNatClampNeg ((uM.2.2.2.2.2.2.1 ((((8 : Int32) * x1) + (8 : Int32)) + (5 : Int32)).toNatClampNeg) - x2)) ((((8 : Int32) * x1) + (8 : Int32)) + (12 : Int32)).toNatClampNeg (0 : Int32)) (((8 : Int32) * x1) + (5 : Int32)).toNatClampNeg x2) (((8 : Int32) * x1) + (9 : Int32)).toNatClampNeg (0 : Int32)) (((8 : Int32) * x1) + (10 : Int32)).toNatClampNeg (0 : Int32)) (((8 : Int32) * x1) + (11 : Int32)).toNatClampNeg (0 : Int32)) (((8 : Int32) * x1) + (12 : Int32)).toNatClampNeg (0 : Int32)) (0 : Int32).toNatClampNeg) + (1 : Int32)))) (n := 133) hx hb hK.1 hP 1 0 rfl rfl (kIn_ok b183) dX5_divide_183 ?_
      obtain rfl := Option.some.inj h
      subst hQ
      exact W.iret (v := ((upd (upd (upd (upd (upd (upd (upd (upd uM.2.2.2.2.2.2.1 ((((8 : Int32) * x1) + (8 : Int32)) + (5 : Int32)).toNatClampNeg ((uM.2.2.2.2.2.2.1 ((((8 : Int32) * x1) + (8 : Int32)) + (5 : Int32)).toNatClampNeg) - x2)) ((((8 : Int32) * x1) + (8 : Int32)) + (12 : Int32)).toNatClampNeg (0 : Int32)) (((8 : Int32) * x1) + (5 : Int32)).toNatClampNeg x2) (((8 : Int32) * x1) + (9 : Int32)).toNatClampNeg (0 : Int32)) (((8 : Int32) * x1) + (10 : Int32)).toNatClampNeg (0 : Int32)) (((8 : Int32) * x1) + (11 : Int32)).toNatClampNeg (0 : Int32)) (((8 : Int32) * x1) + (12 : Int32)).toNatClampNeg (0 : Int32)) (0 : Int32).toNatClampNeg (((upd (upd (upd (upd (upd (upd (upd uM.2.2.2.2.2.2.1 ((((8 : Int32) * x1) + (8 : Int32)) + (5 : Int32)).toNatClampNeg ((uM.2.2.2.2.2.2.1 ((((8 : Int32) * x1) + (8 : Int32)) + (5 : Int32)).toNatClampNeg) - x2)) ((((8 : Int32) * x1) + (8 : Int32)) + (12 : Int32)).toNatClampNeg (0 : Int32)) (((8 : Int32) * x1) + (5 : Int32)).toNatClampNeg x2) (((8 : Int32) * x1) + (9 : Int32)).toNatClampNeg (0 : Int32)) (((8 : Int32) * x1) + (10 : Int32)).toNatClampNeg (0 : Int32)) (((8 : Int32) * x1) + (11 : Int32)).toNatClampNeg (0 : Int32)) (((8 : Int32) * x1) + (12 : Int32)).toNatClampNeg (0 : Int32)) (0 : Int32).toNatClampNeg) + (1 : Int32))) (0 : Int32).toNatClampNeg)) hx hb hr (fun t ht hW => ⟨⟨((upd (upd (upd (upd (upd (upd (upd (upd uM.2.2.2.2.2.2.1 ((((8 : Int32) * x1) + (8 : Int32)) + (5 : Int32)).toNatClampNeg ((uM.2.2.2.2.2.2.1 ((((8 : Int32) * x1) + (8 : Int32)) + (5 : Int32)).toNatClampNeg) - x2)) ((((8 : Int32) * x1) + (8 : Int32)) + (12 : Int32)).toNatClampNeg (0 : Int32)) (((8 : Int32) * x1) + (5 : Int32)).toNatClampNeg x2) (((8 : Int32) * x1) + (9 : Int32)).toNatClampNeg (0 : Int32)) (((8 : Int32) * x1) + (10 : Int32)).toNatClampNeg (0 : Int32)) (((8 : Int32) * x1) + (11 : Int32)).toNatClampNeg (0 : Int32)) (((8 : Int32) * x1) + (12 : Int32)).toNatClampNeg (0 : Int32)) (0 : Int32).toNatClampNeg (((upd (upd (upd (upd (upd (upd (upd uM.2.2.2.2.2.2.1 ((((8 : Int32) * x1) + (8 : Int32)) + (5 : Int32)).toNatClampNeg ((uM.2.2.2.2.2.2.1 ((((8 : Int32) * x1) + (8 : Int32)) + (5 : Int32)).toNatClampNeg) - x2)) ((((8 : Int32) * x1) + (8 : Int32)) + (12 : Int32)).toNatClampNeg (0 : Int32)) (((8 : Int32) * x1) + (5 : Int32)).toNatClampNeg x2) (((8 : Int32) * x1) + (9 : Int32)).toNatClampNeg (0 : Int32)) (((8 : Int32) * x1) + (10 : Int32)).toNatClampNeg (0 : Int32)) (((8 : Int32) * x1) + (11 : Int32)).toNatClampNeg (0 : Int32)) (((8 : Int32) * x1) + (12 : Int32)).toNatClampNeg (0 : Int32)) (0 : Int32).toNatClampNeg) + (1 : Int32))) (0 : Int32).toNatClampNeg), (), rfl, rfl, kEnd ht hP⟩, hS.F ht⟩) hS.2.2 dX5_divide_184
    · have h := kF h c62
      refine lv_aload_n hx hb dX5_divide_65 rfl (lv_at hl 0 rfl) ?_
      refine va_get (D := D) (ci := 5) (v := .ref (adM 1)) (C := RX5) (T := TX5) (N := 12) hx hb hts hinX5 hown hK.1 hP 0 rfl rfl 0 (by decide) wf0 (fun _ h9 => h9) rfl dX5_divide_66 ?_
      refine lv_iload_n hx hb dX5_divide_69 rfl (lv_at hl 3 rfl) ?_
      refine lv_aload_n hx hb dX5_divide_70 rfl (lv_at hl 0 rfl) ?_
      refine va_get (D := D) (ci := 5) (v := .ref (adM 1)) (C := RX5) (T := TX5) (N := 12) hx hb hts hinX5 hown hK.1 hP 0 rfl rfl 0 (by decide) wf0 (fun _ h9 => h9) rfl dX5_divide_71 ?_
      refine lv_iload_n hx hb dX5_divide_74 rfl (lv_at hl 3 rfl) ?_
      refine lv_bipush (v := 8) hx hb dX5_divide_75 (by decide) ?_
      refine lv_isub hx hb dX5_divide_77 ?_
      obtain ⟨b78, h⟩ := kIf h
      refine va_iald (f := uM.2.2.2.2.2.2.1) (n := 133) hx hb hK.1 hP 1 0 rfl rfl (kIn_ok b78) dX5_divide_78 ?_
      obtain ⟨b79, h⟩ := kIf h
      refine va_iast (f := uM.2.2.2.2.2.2.1) (n := 133) hx hb hK.1 hP hD hS 1 0 rfl rfl (kIn_ok b79) dX5_divide_79 (fun H locs hP hD hS => ?_)
      have hP : va_P D vwCl (wM ty adM (uM.1, uM.2.1, uM.2.2.1, uM.2.2.2.1, uM.2.2.2.2.1, uM.2.2.2.2.2.1, (upd uM.2.2.2.2.2.2.1 x3.toNatClampNeg (uM.2.2.2.2.2.2.1 (x3 - (8 : Int32)).toNatClampNeg)), uM.2.2.2.2.2.2.2)) H := hP
      have hD : va_D A (wM ty adM (uM.1, uM.2.1, uM.2.2.1, uM.2.2.2.1, uM.2.2.2.2.1, uM.2.2.2.2.2.1, (upd uM.2.2.2.2.2.2.1 x3.toNatClampNeg (uM.2.2.2.2.2.2.1 (x3 - (8 : Int32)).toNatClampNeg)), uM.2.2.2.2.2.2.2)) := hD
      refine lv_iinc (v := (x3 + (-1))) (lv' := [(3, .int (x3 + (-1))), (0, .ref (adM 0)), (1, .int x1), (2, .int x2)]) hx hb dX5_divide_80 hl (k := 3) rfl rfl (by decide) rfl (fun ls hl => ?_)
      refine lv_goto (tgt := 52) hx hb dX5_divide_83 (by decide) ?_
      exact hn52 (uM.1, uM.2.1, uM.2.2.1, uM.2.2.2.1, uM.2.2.2.2.1, uM.2.2.2.2.2.1, (upd uM.2.2.2.2.2.2.1 x3.toNatClampNeg (uM.2.2.2.2.2.2.1 (x3 - (8 : Int32)).toNatClampNeg)), uM.2.2.2.2.2.2.2) (x3 + (-1)) h H locs ls hP hD hS (lv_sub hl [1, 2, 3, 0] rfl)
  have L52 : ∀ (x1 : Int32) (x2 : Int32) (n : Nat) (uM : KM) (x3 : Int32), kLoopC n (fun q nx52 => fX5_divide_c52 q.1 x1 x2 q.2 nx52) (uM, x3) = some res → ∀ (H : Heap) (locs : List Loc) (ls : Array Slot), va_P D vwCl (wM ty adM uM) H → va_D A (wM ty adM uM) → va_S A s.heap H locs → lv_has ls 4 [(0, .ref (adM 0)), (1, .int x1), (2, .int x2), (3, .int x3)] → W p l e (headSpec wsX5_divide { frames := 2, cells := 0, slots := 0, locals := 43 }).room s m ([.ref (adM 0), .int p1, .int p2] : List Value).toArray below meth c H locs 0 0 Q (F0 m 52 ls []) := by
    intro x1 x2 n
    induction n with
    | zero => intro uM x3 h; exact absurd h (by simp [kLoopC])
    | succ n ih => intro uM x3 h; exact B52 x1 x2 (kLoopC n (fun q nx52 => fX5_divide_c52 q.1 x1 x2 q.2 nx52)) ih uM x3 h
  have hl := lv_entry ([.ref (adM 0), .int p1, .int p2]) (n := 4) (Nat.le_of_ble_eq_true rfl)
  rw [lg_entry_eq]
  generalize (lg_sl ([.ref (adM 0), .int p1, .int p2]) ++ List.replicate (4 - (lg_sl ([.ref (adM 0), .int p1, .int p2])).length) Slot.unset).toArray = ls at hl ⊢
  have hl : lv_has ls 4 [(0, .ref (adM 0)), (1, .int p1), (2, .int p2)] := hl
  unfold fX5_divide at h
  have E0 : ∀ (H : Heap) (locs : List Loc) (ls : Array Slot), va_P D vwCl (wM ty adM vM) H → va_D A (wM ty adM vM) → va_S A s.heap H locs → lv_has ls 4 [(0, .ref (adM 0)), (1, .int p1), (2, .int p2)] → W p l e (headSpec wsX5_divide { frames := 2, cells := 0, slots := 0, locals := 43 }).room s m ([.ref (adM 0), .int p1, .int p2] : List Value).toArray below meth c H locs 0 0 Q (F0 m 0 ls []) := by
    intro H locs ls hP hD hS hl
    refine lv_aload_n hx hb dX5_divide_0 rfl (lv_at hl 0 rfl) ?_
    refine lv_iload_n hx hb dX5_divide_1 rfl (lv_at hl 1 rfl) ?_
    obtain ⟨r2, e2, h⟩ := kBd h
    refine kCallVI (As := [.int p1]) (rest := []) (wc := wM ty adM vM) (w1 := wM ty adM vM) (wn := wM ty adM vM) ⟨hx, hb, hml, hown, hts⟩ (cX5_isLayer_ok l D ty adM H.size vM p1 r2 e2) (cwV 1 hts gX5_divide_X5_isLayer rfl rfl rfl (by decide +kernel) ⟨Nat.le_of_ble_eq_true rfl, Nat.le_of_ble_eq_true rfl⟩) hP hK hD hS hA [0, 1, 2, 3, 4, 5, 6] (by decide) rfl 5 0 rfl rfl rfl rfl hl.1 rfl (Nat.le_of_ble_eq_true rfl) dX5_divide_2 ⟨Nat.le_of_ble_eq_true rfl, Nat.le_of_ble_eq_true rfl⟩ rfl rfl (fun H locs hP hD hS => ?_)
    refine lv_if_ne (tgt := 11) hx hb dX5_divide_5 (by decide) (fun c5 => ?_) (fun c5 => ?_)
    · have h := kT h c5
      refine lv_iload_n hx hb dX5_divide_11 rfl (lv_at hl 2 rfl) ?_
      refine lv_iconst (v := 1) hx hb dX5_divide_12 (by decide) ?_
      refine lv_aload_n hx hb dX5_divide_13 rfl (lv_at hl 0 rfl) ?_
      refine lv_iload_n hx hb dX5_divide_14 rfl (lv_at hl 1 rfl) ?_
      refine lv_iconst (v := 5) hx hb dX5_divide_15 (by decide) ?_
      obtain ⟨r16, e16, h⟩ := kBd h
      refine kCallVI (As := [.int p1, .int (5 : Int32)]) (rest := [.int (1 : Int32), .int p2]) (wc := wM ty adM vM) (w1 := wM ty adM vM) (wn := wM ty adM vM) ⟨hx, hb, hml, hown, hts⟩ (cX5_of_ok l D ty adM H.size vM p1 (5 : Int32) r16 e16) (cwV 2 hts gX5_divide_X5_of rfl rfl rfl (by decide +kernel) ⟨Nat.le_of_ble_eq_true rfl, Nat.le_of_ble_eq_true rfl⟩) hP hK hD hS hA [0, 1, 2, 3, 4, 5, 6] (by decide) rfl 5 0 rfl rfl rfl rfl hl.1 rfl (Nat.le_of_ble_eq_true rfl) dX5_divide_16 ⟨Nat.le_of_ble_eq_true rfl, Nat.le_of_ble_eq_true rfl⟩ rfl rfl (fun H locs hP hD hS => ?_)
      refine lv_iconst (v := 1) hx hb dX5_divide_19 (by decide) ?_
      refine lv_isub hx hb dX5_divide_20 ?_
      obtain ⟨r21, e21, h⟩ := kBd h
      refine kCallSI (As := [.int p2, .int (1 : Int32), .int (r16 - (1 : Int32))]) (rest := []) ⟨hx, hb, hml, hown, hts⟩ (cX5_in_ok l D ty  H.size p2 (1 : Int32) (r16 - (1 : Int32)) r21 e21) (va_cwS 3 hts gX5_divide_X5_in rfl rfl rfl (by decide +kernel) ⟨Nat.le_of_ble_eq_true rfl, Nat.le_of_ble_eq_true rfl⟩) hP hK hD hS hA rfl hl.1 rfl (Nat.le_of_ble_eq_true rfl) dX5_divide_21 ⟨Nat.le_of_ble_eq_true rfl, Nat.le_of_ble_eq_true rfl⟩ (fun H locs hP hS => ?_)
      refine lv_if_ne (tgt := 30) hx hb dX5_divide_24 (by decide) (fun c24 => ?_) (fun c24 => ?_)
      · have h := kT h c24
        refine lv_aload_n hx hb dX5_divide_30 rfl (lv_at hl 0 rfl) ?_
        refine va_get (D := D) (ci := 5) (v := .ref (adM 1)) (C := RX5) (T := TX5) (N := 12) hx hb hts hinX5 hown hK.1 hP 0 rfl rfl 0 (by decide) wf0 (fun _ h9 => h9) rfl dX5_divide_31 ?_
        refine lv_iconst (v := 0) hx hb dX5_divide_34 (by decide) ?_
        obtain ⟨b35, h⟩ := kIf h
        refine va_iald (f := vM.2.2.2.2.2.2.1) (n := 133) hx hb hK.1 hP 1 0 rfl rfl (kIn_ok b35) dX5_divide_35 ?_
        refine lv_bipush (v := 16) hx hb dX5_divide_36 (by decide) ?_
        refine lv_icmp_ne (tgt := 44) hx hb dX5_divide_38 (by decide) (fun c38 => ?_) (fun c38 => ?_)
        · have h := kT h c38
          refine lv_aload_n hx hb dX5_divide_44 rfl (lv_at hl 0 rfl) ?_
          obtain ⟨r45, e45, h⟩ := kBd h
          refine kCallVV (As := []) (rest := []) (wc := wM ty adM vM) (w1 := wM ty adM r45) (wn := wM ty adM r45) ⟨hx, hb, hml, hown, hts⟩ (cX5_record_ok l D ty adM H.size vM r45 e45) (cwV 0 hts gX5_divide_X5_record rfl rfl rfl (by decide +kernel) ⟨Nat.le_of_ble_eq_true rfl, Nat.le_of_ble_eq_true rfl⟩) hP hK hD hS hA [0, 1, 2, 3, 4, 5, 6] (by decide) rfl 5 0 rfl rfl rfl rfl hl.1 rfl (Nat.le_of_ble_eq_true rfl) dX5_divide_45 ⟨Nat.le_of_ble_eq_true rfl, Nat.le_of_ble_eq_true rfl⟩ rfl rfl (fun H locs hP hD hS => ?_)
          refine lv_sipush (v := 132) hx hb dX5_divide_48 (by decide) ?_
          refine lv_istore_n (lv' := [(3, .int (132 : Int32)), (0, .ref (adM 0)), (1, .int p1), (2, .int p2)]) hx hb dX5_divide_51 rfl hl (by decide) rfl (fun ls hl => ?_)
          exact L52 p1 p2  kFu r45 (132 : Int32) h H locs ls hP hD hS (lv_sub hl [1, 2, 3, 0] rfl)
        · have h := kF h (fun z => z c38)
          refine lv_ldc hx hb hown wf2 dX5_divide_41 ?_
          obtain rfl := Option.some.inj h
          subst hQ
          exact W.iret (v := (-1000000004 : Int32)) hx hb hr (fun t ht hW => ⟨⟨(-1000000004 : Int32), (), rfl, rfl, kEnd ht hP⟩, hS.F ht⟩) hS.2.2 dX5_divide_43
      · have h := kF h (fun z => z c24)
        refine lv_ldc hx hb hown wf3 dX5_divide_27 ?_
        obtain rfl := Option.some.inj h
        subst hQ
        exact W.iret (v := (-1000000002 : Int32)) hx hb hr (fun t ht hW => ⟨⟨(-1000000002 : Int32), (), rfl, rfl, kEnd ht hP⟩, hS.F ht⟩) hS.2.2 dX5_divide_29
    · have h := kF h (fun z => z c5)
      refine lv_ldc hx hb hown wf4 dX5_divide_8 ?_
      obtain rfl := Option.some.inj h
      subst hQ
      exact W.iret (v := (-1000000001 : Int32)) hx hb hr (fun t ht hW => ⟨⟨(-1000000001 : Int32), (), rfl, rfl, kEnd ht hP⟩, hS.F ht⟩) hS.2.2 dX5_divide_10
  exact E0 s.heap [] ls hP hD hS hl
def fX5_change (vM : KM) (p1 : Int32) (p2 : Int32) : Option (Int32 × KM) := (fX5_record vM).bind fun r1 => if kIn p1 133 = true then (if kIn p1 133 = true then (some ((r1.2.2.2.2.2.2.1 p1.toNatClampNeg), (r1.1, r1.2.1, r1.2.2.1, r1.2.2.2.1, r1.2.2.2.2.1, r1.2.2.2.2.2.1, (upd r1.2.2.2.2.2.2.1 p1.toNatClampNeg p2), r1.2.2.2.2.2.2.2))) else none) else none
set_option maxHeartbeats 4000000 in
set_option maxRecDepth 100000 in
theorem cX5_change_ok (l : Launch) (D : va_G) (ty : kTy) (adM : Nat → Nat) (sz : Nat) (vM : KM) (p1 : Int32) (p2 : Int32) (res : Int32 × KM) (h : fX5_change vM p1 p2 = some res) : kMI l yX5_change wsX5_change { frames := 1, cells := 0, slots := 0, locals := 21 } [.ref (adM 0), .int p1, .int p2] D ty (wM ty adM vM) sz res.1 (wM ty adM res.2) := by
  refine Met.ofW (cc := cX5_change) (maxL := 4) (ret := (some .int)) (by decide) rfl ?_
  intro p e s m args below meth c s₁ B hml hv
  obtain ⟨rfl, hsz, hP, hK, hD0⟩ := hv
  have hx := B.exec
  have hb := B.bytes
  have hr := B.returns
  have hts := atoms_spec (ws := wsX5_change) B.pre
  have hown : s.vm.findClass RX5 = some m.cls := findClass_of_methodNamed B.named
  have hlocks := B.notSynchronized
  subst hsz
  have hD := hD0.self (sz := s.heap.size)
  generalize hAe : va_A (wM ty adM vM) s.heap.size = A at hD ⊢
  have hA : ∀ q : Nat, s.heap.size ≤ q → A q := fun q h => by rw [← hAe]; exact Or.inr h
  have hS : va_S A s.heap s.heap [] := va_S.rf
  refine kGenW (fun Q hQ => ?_)
  have wf0 := hts (.fieldLink RX5 7 "IceCoreDaterModel" "now" "[I") (by decide +kernel)
  have hinX5 : ∀ w ∈ wsX50, w ∈ wsX5_change := by decide +kernel
  have hl := lv_entry ([.ref (adM 0), .int p1, .int p2]) (n := 4) (Nat.le_of_ble_eq_true rfl)
  rw [lg_entry_eq]
  generalize (lg_sl ([.ref (adM 0), .int p1, .int p2]) ++ List.replicate (4 - (lg_sl ([.ref (adM 0), .int p1, .int p2])).length) Slot.unset).toArray = ls at hl ⊢
  have hl : lv_has ls 4 [(0, .ref (adM 0)), (1, .int p1), (2, .int p2)] := hl
  unfold fX5_change at h
  have E0 : ∀ (H : Heap) (locs : List Loc) (ls : Array Slot), va_P D vwCl (wM ty adM vM) H → va_D A (wM ty adM vM) → va_S A s.heap H locs → lv_has ls 4 [(0, .ref (adM 0)), (1, .int p1), (2, .int p2)] → W p l e (headSpec wsX5_change { frames := 1, cells := 0, slots := 0, locals := 21 }).room s m ([.ref (adM 0), .int p1, .int p2] : List Value).toArray below meth c H locs 0 0 Q (F0 m 0 ls []) := by
    intro H locs ls hP hD hS hl
    refine lv_aload_n hx hb dX5_change_0 rfl (lv_at hl 0 rfl) ?_
    obtain ⟨r1, e1, h⟩ := kBd h
    refine kCallVV (As := []) (rest := []) (wc := wM ty adM vM) (w1 := wM ty adM r1) (wn := wM ty adM r1) ⟨hx, hb, hml, hown, hts⟩ (cX5_record_ok l D ty adM H.size vM r1 e1) (cwV 0 hts gX5_change_X5_record rfl rfl rfl (by decide +kernel) ⟨Nat.le_of_ble_eq_true rfl, Nat.le_of_ble_eq_true rfl⟩) hP hK hD hS hA [0, 1, 2, 3, 4, 5, 6] (by decide) rfl 5 0 rfl rfl rfl rfl hl.1 rfl (Nat.le_of_ble_eq_true rfl) dX5_change_1 ⟨Nat.le_of_ble_eq_true rfl, Nat.le_of_ble_eq_true rfl⟩ rfl rfl (fun H locs hP hD hS => ?_)
    refine lv_aload_n hx hb dX5_change_4 rfl (lv_at hl 0 rfl) ?_
    refine va_get (D := D) (ci := 5) (v := .ref (adM 1)) (C := RX5) (T := TX5) (N := 12) hx hb hts hinX5 hown hK.1 hP 0 rfl rfl 0 (by decide) wf0 (fun _ h9 => h9) rfl dX5_change_5 ?_
    refine lv_iload_n hx hb dX5_change_8 rfl (lv_at hl 1 rfl) ?_
    obtain ⟨b9, h⟩ := kIf h
    refine va_iald (f := r1.2.2.2.2.2.2.1) (n := 133) hx hb hK.1 hP 1 0 rfl rfl (kIn_ok b9) dX5_change_9 ?_
    refine lv_istore_n (lv' := [(3, .int (r1.2.2.2.2.2.2.1 p1.toNatClampNeg)), (0, .ref (adM 0)), (1, .int p1), (2, .int p2)]) hx hb dX5_change_10 rfl hl (by decide) rfl (fun ls hl => ?_)
    refine lv_aload_n hx hb dX5_change_11 rfl (lv_at hl 1 rfl) ?_
    refine va_get (D := D) (ci := 5) (v := .ref (adM 1)) (C := RX5) (T := TX5) (N := 12) hx hb hts hinX5 hown hK.1 hP 0 rfl rfl 0 (by decide) wf0 (fun _ h9 => h9) rfl dX5_change_12 ?_
    refine lv_iload_n hx hb dX5_change_15 rfl (lv_at hl 2 rfl) ?_
    refine lv_iload_n hx hb dX5_change_16 rfl (lv_at hl 3 rfl) ?_
    obtain ⟨b17, h⟩ := kIf h
    refine va_iast (f := r1.2.2.2.2.2.2.1) (n := 133) hx hb hK.1 hP hD hS 1 0 rfl rfl (kIn_ok b17) dX5_change_17 (fun H locs hP hD hS => ?_)
    have hP : va_P D vwCl (wM ty adM (r1.1, r1.2.1, r1.2.2.1, r1.2.2.2.1, r1.2.2.2.2.1, r1.2.2.2.2.2.1, (upd r1.2.2.2.2.2.2.1 p1.toNatClampNeg p2), r1.2.2.2.2.2.2.2)) H := hP
    have hD : va_D A (wM ty adM (r1.1, r1.2.1, r1.2.2.1, r1.2.2.2.1, r1.2.2.2.2.1, r1.2.2.2.2.2.1, (upd r1.2.2.2.2.2.2.1 p1.toNatClampNeg p2), r1.2.2.2.2.2.2.2)) := hD
    refine lv_iload_n hx hb dX5_change_18 rfl (lv_at hl 0 rfl) ?_
    obtain rfl := Option.some.inj h
    subst hQ
    exact W.iret (v := (r1.2.2.2.2.2.2.1 p1.toNatClampNeg)) hx hb hr (fun t ht hW => ⟨⟨(r1.2.2.2.2.2.2.1 p1.toNatClampNeg), (), rfl, rfl, kEnd ht hP⟩, hS.F ht⟩) hS.2.2 dX5_change_19
  exact E0 s.heap [] ls hP hD hS hl
def fX5_setBed (vM : KM) (p1 : Int32) : Option (Int32 × KM) := (fX5_in p1 (1000 : Int32) (200000 : Int32)).bind fun r6 => if ¬ r6 = (0 : Int32) then ((fX5_bottom vM).bind fun r16 => if r16 ≤ p1 then ((fX5_change vM (1 : Int32) p1).bind fun r31 => some (r31.1, r31.2)) else (some ((-1000000003 : Int32), vM))) else (some ((-1000000002 : Int32), vM))
set_option maxHeartbeats 4000000 in
set_option maxRecDepth 100000 in
theorem cX5_setBed_ok (l : Launch) (D : va_G) (ty : kTy) (adM : Nat → Nat) (sz : Nat) (vM : KM) (p1 : Int32) (res : Int32 × KM) (h : fX5_setBed vM p1 = some res) : kMI l yX5_setBed wsX5_setBed { frames := 3, cells := 0, slots := 0, locals := 65 } [.ref (adM 0), .int p1] D ty (wM ty adM vM) sz res.1 (wM ty adM res.2) := by
  refine Met.ofW (cc := cX5_setBed) (maxL := 2) (ret := (some .int)) (by decide) rfl ?_
  intro p e s m args below meth c s₁ B hml hv
  obtain ⟨rfl, hsz, hP, hK, hD0⟩ := hv
  have hx := B.exec
  have hb := B.bytes
  have hr := B.returns
  have hts := atoms_spec (ws := wsX5_setBed) B.pre
  have hown : s.vm.findClass RX5 = some m.cls := findClass_of_methodNamed B.named
  have hlocks := B.notSynchronized
  subst hsz
  have hD := hD0.self (sz := s.heap.size)
  generalize hAe : va_A (wM ty adM vM) s.heap.size = A at hD ⊢
  have hA : ∀ q : Nat, s.heap.size ≤ q → A q := fun q h => by rw [← hAe]; exact Or.inr h
  have hS : va_S A s.heap s.heap [] := va_S.rf
  refine kGenW (fun Q hQ => ?_)
  have wf0 := hts (.constant RX5 115 (200000)) (by decide +kernel)
  have wf1 := hts (.constant RX5 105 (-1000000003)) (by decide +kernel)
  have wf2 := hts (.constant RX5 100 (-1000000002)) (by decide +kernel)
  have hl := lv_entry ([.ref (adM 0), .int p1]) (n := 2) (Nat.le_of_ble_eq_true rfl)
  rw [lg_entry_eq]
  generalize (lg_sl ([.ref (adM 0), .int p1]) ++ List.replicate (2 - (lg_sl ([.ref (adM 0), .int p1])).length) Slot.unset).toArray = ls at hl ⊢
  have hl : lv_has ls 2 [(0, .ref (adM 0)), (1, .int p1)] := hl
  unfold fX5_setBed at h
  have E0 : ∀ (H : Heap) (locs : List Loc) (ls : Array Slot), va_P D vwCl (wM ty adM vM) H → va_D A (wM ty adM vM) → va_S A s.heap H locs → lv_has ls 2 [(0, .ref (adM 0)), (1, .int p1)] → W p l e (headSpec wsX5_setBed { frames := 3, cells := 0, slots := 0, locals := 65 }).room s m ([.ref (adM 0), .int p1] : List Value).toArray below meth c H locs 0 0 Q (F0 m 0 ls []) := by
    intro H locs ls hP hD hS hl
    refine lv_iload_n hx hb dX5_setBed_0 rfl (lv_at hl 1 rfl) ?_
    refine lv_sipush (v := 1000) hx hb dX5_setBed_1 (by decide) ?_
    refine lv_ldc hx hb hown wf0 dX5_setBed_4 ?_
    obtain ⟨r6, e6, h⟩ := kBd h
    refine kCallSI (As := [.int p1, .int (1000 : Int32), .int (200000 : Int32)]) (rest := []) ⟨hx, hb, hml, hown, hts⟩ (cX5_in_ok l D ty  H.size p1 (1000 : Int32) (200000 : Int32) r6 e6) (va_cwS 3 hts gX5_setBed_X5_in rfl rfl rfl (by decide +kernel) ⟨Nat.le_of_ble_eq_true rfl, Nat.le_of_ble_eq_true rfl⟩) hP hK hD hS hA rfl hl.1 rfl (Nat.le_of_ble_eq_true rfl) dX5_setBed_6 ⟨Nat.le_of_ble_eq_true rfl, Nat.le_of_ble_eq_true rfl⟩ (fun H locs hP hS => ?_)
    refine lv_if_ne (tgt := 15) hx hb dX5_setBed_9 (by decide) (fun c9 => ?_) (fun c9 => ?_)
    · have h := kT h c9
      refine lv_aload_n hx hb dX5_setBed_15 rfl (lv_at hl 0 rfl) ?_
      obtain ⟨r16, e16, h⟩ := kBd h
      refine kCallVI (As := []) (rest := []) (wc := wM ty adM vM) (w1 := wM ty adM vM) (wn := wM ty adM vM) ⟨hx, hb, hml, hown, hts⟩ (cX5_bottom_ok l D ty adM H.size vM r16 e16) (cwV 0 hts gX5_setBed_X5_bottom rfl rfl rfl (by decide +kernel) ⟨Nat.le_of_ble_eq_true rfl, Nat.le_of_ble_eq_true rfl⟩) hP hK hD hS hA [0, 1, 2, 3, 4, 5, 6] (by decide) rfl 5 0 rfl rfl rfl rfl hl.1 rfl (Nat.le_of_ble_eq_true rfl) dX5_setBed_16 ⟨Nat.le_of_ble_eq_true rfl, Nat.le_of_ble_eq_true rfl⟩ rfl rfl (fun H locs hP hD hS => ?_)
      refine lv_iload_n hx hb dX5_setBed_19 rfl (lv_at hl 1 rfl) ?_
      refine lv_icmp_le (tgt := 28) hx hb dX5_setBed_20 (by decide) (fun c20 => ?_) (fun c20 => ?_)
      · have h := kT h c20
        refine lv_aload_n hx hb dX5_setBed_28 rfl (lv_at hl 0 rfl) ?_
        refine lv_iconst (v := 1) hx hb dX5_setBed_29 (by decide) ?_
        refine lv_iload_n hx hb dX5_setBed_30 rfl (lv_at hl 1 rfl) ?_
        obtain ⟨r31, e31, h⟩ := kBd h
        refine kCallVI (As := [.int (1 : Int32), .int p1]) (rest := []) (wc := wM ty adM vM) (w1 := wM ty adM r31.2) (wn := wM ty adM r31.2) ⟨hx, hb, hml, hown, hts⟩ (cX5_change_ok l D ty adM H.size vM (1 : Int32) p1 r31 e31) (cwV 2 hts gX5_setBed_X5_change rfl rfl rfl (by decide +kernel) ⟨Nat.le_of_ble_eq_true rfl, Nat.le_of_ble_eq_true rfl⟩) hP hK hD hS hA [0, 1, 2, 3, 4, 5, 6] (by decide) rfl 5 0 rfl rfl rfl rfl hl.1 rfl (Nat.le_of_ble_eq_true rfl) dX5_setBed_31 ⟨Nat.le_of_ble_eq_true rfl, Nat.le_of_ble_eq_true rfl⟩ rfl rfl (fun H locs hP hD hS => ?_)
        obtain rfl := Option.some.inj h
        subst hQ
        exact W.iret (v := r31.1) hx hb hr (fun t ht hW => ⟨⟨r31.1, (), rfl, rfl, kEnd ht hP⟩, hS.F ht⟩) hS.2.2 dX5_setBed_34
      · have h := kF h c20
        refine lv_ldc hx hb hown wf1 dX5_setBed_23 ?_
        refine lv_goto (tgt := 34) hx hb dX5_setBed_25 (by decide) ?_
        obtain rfl := Option.some.inj h
        subst hQ
        exact W.iret (v := (-1000000003 : Int32)) hx hb hr (fun t ht hW => ⟨⟨(-1000000003 : Int32), (), rfl, rfl, kEnd ht hP⟩, hS.F ht⟩) hS.2.2 dX5_setBed_34
    · have h := kF h (fun z => z c9)
      refine lv_ldc hx hb hown wf2 dX5_setBed_12 ?_
      obtain rfl := Option.some.inj h
      subst hQ
      exact W.iret (v := (-1000000002 : Int32)) hx hb hr (fun t ht hW => ⟨⟨(-1000000002 : Int32), (), rfl, rfl, kEnd ht hP⟩, hS.F ht⟩) hS.2.2 dX5_setBed_14
  exact E0 s.heap [] ls hP hD hS hl
def fX5_setFunction (vM : KM) (p1 : Int32) : Option (Int32 × KM) := (fX5_in p1 (0 : Int32) (2 : Int32)).bind fun r3 => if r3 = (0 : Int32) then (some ((-1000000002 : Int32), vM)) else ((fX5_change vM (2 : Int32) p1).bind fun r12 => some (r12.1, r12.2))
set_option maxHeartbeats 4000000 in
set_option maxRecDepth 100000 in
theorem cX5_setFunction_ok (l : Launch) (D : va_G) (ty : kTy) (adM : Nat → Nat) (sz : Nat) (vM : KM) (p1 : Int32) (res : Int32 × KM) (h : fX5_setFunction vM p1 = some res) : kMI l yX5_setFunction wsX5_setFunction { frames := 2, cells := 0, slots := 0, locals := 44 } [.ref (adM 0), .int p1] D ty (wM ty adM vM) sz res.1 (wM ty adM res.2) := by
  refine Met.ofW (cc := cX5_setFunction) (maxL := 2) (ret := (some .int)) (by decide) rfl ?_
  intro p e s m args below meth c s₁ B hml hv
  obtain ⟨rfl, hsz, hP, hK, hD0⟩ := hv
  have hx := B.exec
  have hb := B.bytes
  have hr := B.returns
  have hts := atoms_spec (ws := wsX5_setFunction) B.pre
  have hown : s.vm.findClass RX5 = some m.cls := findClass_of_methodNamed B.named
  have hlocks := B.notSynchronized
  subst hsz
  have hD := hD0.self (sz := s.heap.size)
  generalize hAe : va_A (wM ty adM vM) s.heap.size = A at hD ⊢
  have hA : ∀ q : Nat, s.heap.size ≤ q → A q := fun q h => by rw [← hAe]; exact Or.inr h
  have hS : va_S A s.heap s.heap [] := va_S.rf
  refine kGenW (fun Q hQ => ?_)
  have wf0 := hts (.constant RX5 100 (-1000000002)) (by decide +kernel)
  have hl := lv_entry ([.ref (adM 0), .int p1]) (n := 2) (Nat.le_of_ble_eq_true rfl)
  rw [lg_entry_eq]
  generalize (lg_sl ([.ref (adM 0), .int p1]) ++ List.replicate (2 - (lg_sl ([.ref (adM 0), .int p1])).length) Slot.unset).toArray = ls at hl ⊢
  have hl : lv_has ls 2 [(0, .ref (adM 0)), (1, .int p1)] := hl
  unfold fX5_setFunction at h
  have E0 : ∀ (H : Heap) (locs : List Loc) (ls : Array Slot), va_P D vwCl (wM ty adM vM) H → va_D A (wM ty adM vM) → va_S A s.heap H locs → lv_has ls 2 [(0, .ref (adM 0)), (1, .int p1)] → W p l e (headSpec wsX5_setFunction { frames := 2, cells := 0, slots := 0, locals := 44 }).room s m ([.ref (adM 0), .int p1] : List Value).toArray below meth c H locs 0 0 Q (F0 m 0 ls []) := by
    intro H locs ls hP hD hS hl
    refine lv_iload_n hx hb dX5_setFunction_0 rfl (lv_at hl 1 rfl) ?_
    refine lv_iconst (v := 0) hx hb dX5_setFunction_1 (by decide) ?_
    refine lv_iconst (v := 2) hx hb dX5_setFunction_2 (by decide) ?_
    obtain ⟨r3, e3, h⟩ := kBd h
    refine kCallSI (As := [.int p1, .int (0 : Int32), .int (2 : Int32)]) (rest := []) ⟨hx, hb, hml, hown, hts⟩ (cX5_in_ok l D ty  H.size p1 (0 : Int32) (2 : Int32) r3 e3) (va_cwS 3 hts gX5_setFunction_X5_in rfl rfl rfl (by decide +kernel) ⟨Nat.le_of_ble_eq_true rfl, Nat.le_of_ble_eq_true rfl⟩) hP hK hD hS hA rfl hl.1 rfl (Nat.le_of_ble_eq_true rfl) dX5_setFunction_3 ⟨Nat.le_of_ble_eq_true rfl, Nat.le_of_ble_eq_true rfl⟩ (fun H locs hP hS => ?_)
    refine lv_if_eq (tgt := 18) hx hb dX5_setFunction_6 (by decide) (fun c6 => ?_) (fun c6 => ?_)
    · have h := kT h c6
      refine lv_ldc hx hb hown wf0 dX5_setFunction_18 ?_
      obtain rfl := Option.some.inj h
      subst hQ
      exact W.iret (v := (-1000000002 : Int32)) hx hb hr (fun t ht hW => ⟨⟨(-1000000002 : Int32), (), rfl, rfl, kEnd ht hP⟩, hS.F ht⟩) hS.2.2 dX5_setFunction_20
    · have h := kF h c6
      refine lv_aload_n hx hb dX5_setFunction_9 rfl (lv_at hl 0 rfl) ?_
      refine lv_iconst (v := 2) hx hb dX5_setFunction_10 (by decide) ?_
      refine lv_iload_n hx hb dX5_setFunction_11 rfl (lv_at hl 1 rfl) ?_
      obtain ⟨r12, e12, h⟩ := kBd h
      refine kCallVI (As := [.int (2 : Int32), .int p1]) (rest := []) (wc := wM ty adM vM) (w1 := wM ty adM r12.2) (wn := wM ty adM r12.2) ⟨hx, hb, hml, hown, hts⟩ (cX5_change_ok l D ty adM H.size vM (2 : Int32) p1 r12 e12) (cwV 2 hts gX5_setFunction_X5_change rfl rfl rfl (by decide +kernel) ⟨Nat.le_of_ble_eq_true rfl, Nat.le_of_ble_eq_true rfl⟩) hP hK hD hS hA [0, 1, 2, 3, 4, 5, 6] (by decide) rfl 5 0 rfl rfl rfl rfl hl.1 rfl (Nat.le_of_ble_eq_true rfl) dX5_setFunction_12 ⟨Nat.le_of_ble_eq_true rfl, Nat.le_of_ble_eq_true rfl⟩ rfl rfl (fun H locs hP hD hS => ?_)
      refine lv_goto (tgt := 20) hx hb dX5_setFunction_15 (by decide) ?_
      obtain rfl := Option.some.inj h
      subst hQ
      exact W.iret (v := r12.1) hx hb hr (fun t ht hW => ⟨⟨r12.1, (), rfl, rfl, kEnd ht hP⟩, hS.F ht⟩) hS.2.2 dX5_setFunction_20
  exact E0 s.heap [] ls hP hD hS hl
def fX5_setKink (vM : KM) (p1 : Int32) : Option (Int32 × KM) := (fX5_in p1 (0 : Int32) (900 : Int32)).bind fun r5 => if r5 = (0 : Int32) then (some ((-1000000002 : Int32), vM)) else ((fX5_change vM (3 : Int32) p1).bind fun r14 => some (r14.1, r14.2))
set_option maxHeartbeats 4000000 in
set_option maxRecDepth 100000 in
theorem cX5_setKink_ok (l : Launch) (D : va_G) (ty : kTy) (adM : Nat → Nat) (sz : Nat) (vM : KM) (p1 : Int32) (res : Int32 × KM) (h : fX5_setKink vM p1 = some res) : kMI l yX5_setKink wsX5_setKink { frames := 2, cells := 0, slots := 0, locals := 44 } [.ref (adM 0), .int p1] D ty (wM ty adM vM) sz res.1 (wM ty adM res.2) := by
  refine Met.ofW (cc := cX5_setKink) (maxL := 2) (ret := (some .int)) (by decide) rfl ?_
  intro p e s m args below meth c s₁ B hml hv
  obtain ⟨rfl, hsz, hP, hK, hD0⟩ := hv
  have hx := B.exec
  have hb := B.bytes
  have hr := B.returns
  have hts := atoms_spec (ws := wsX5_setKink) B.pre
  have hown : s.vm.findClass RX5 = some m.cls := findClass_of_methodNamed B.named
  have hlocks := B.notSynchronized
  subst hsz
  have hD := hD0.self (sz := s.heap.size)
  generalize hAe : va_A (wM ty adM vM) s.heap.size = A at hD ⊢
  have hA : ∀ q : Nat, s.heap.size ≤ q → A q := fun q h => by rw [← hAe]; exact Or.inr h
  have hS : va_S A s.heap s.heap [] := va_S.rf
  refine kGenW (fun Q hQ => ?_)
  have wf0 := hts (.constant RX5 100 (-1000000002)) (by decide +kernel)
  have hl := lv_entry ([.ref (adM 0), .int p1]) (n := 2) (Nat.le_of_ble_eq_true rfl)
  rw [lg_entry_eq]
  generalize (lg_sl ([.ref (adM 0), .int p1]) ++ List.replicate (2 - (lg_sl ([.ref (adM 0), .int p1])).length) Slot.unset).toArray = ls at hl ⊢
  have hl : lv_has ls 2 [(0, .ref (adM 0)), (1, .int p1)] := hl
  unfold fX5_setKink at h
  have E0 : ∀ (H : Heap) (locs : List Loc) (ls : Array Slot), va_P D vwCl (wM ty adM vM) H → va_D A (wM ty adM vM) → va_S A s.heap H locs → lv_has ls 2 [(0, .ref (adM 0)), (1, .int p1)] → W p l e (headSpec wsX5_setKink { frames := 2, cells := 0, slots := 0, locals := 44 }).room s m ([.ref (adM 0), .int p1] : List Value).toArray below meth c H locs 0 0 Q (F0 m 0 ls []) := by
    intro H locs ls hP hD hS hl
    refine lv_iload_n hx hb dX5_setKink_0 rfl (lv_at hl 1 rfl) ?_
    refine lv_iconst (v := 0) hx hb dX5_setKink_1 (by decide) ?_
    refine lv_sipush (v := 900) hx hb dX5_setKink_2 (by decide) ?_
    obtain ⟨r5, e5, h⟩ := kBd h
    refine kCallSI (As := [.int p1, .int (0 : Int32), .int (900 : Int32)]) (rest := []) ⟨hx, hb, hml, hown, hts⟩ (cX5_in_ok l D ty  H.size p1 (0 : Int32) (900 : Int32) r5 e5) (va_cwS 3 hts gX5_setKink_X5_in rfl rfl rfl (by decide +kernel) ⟨Nat.le_of_ble_eq_true rfl, Nat.le_of_ble_eq_true rfl⟩) hP hK hD hS hA rfl hl.1 rfl (Nat.le_of_ble_eq_true rfl) dX5_setKink_5 ⟨Nat.le_of_ble_eq_true rfl, Nat.le_of_ble_eq_true rfl⟩ (fun H locs hP hS => ?_)
    refine lv_if_eq (tgt := 20) hx hb dX5_setKink_8 (by decide) (fun c8 => ?_) (fun c8 => ?_)
    · have h := kT h c8
      refine lv_ldc hx hb hown wf0 dX5_setKink_20 ?_
      obtain rfl := Option.some.inj h
      subst hQ
      exact W.iret (v := (-1000000002 : Int32)) hx hb hr (fun t ht hW => ⟨⟨(-1000000002 : Int32), (), rfl, rfl, kEnd ht hP⟩, hS.F ht⟩) hS.2.2 dX5_setKink_22
    · have h := kF h c8
      refine lv_aload_n hx hb dX5_setKink_11 rfl (lv_at hl 0 rfl) ?_
      refine lv_iconst (v := 3) hx hb dX5_setKink_12 (by decide) ?_
      refine lv_iload_n hx hb dX5_setKink_13 rfl (lv_at hl 1 rfl) ?_
      obtain ⟨r14, e14, h⟩ := kBd h
      refine kCallVI (As := [.int (3 : Int32), .int p1]) (rest := []) (wc := wM ty adM vM) (w1 := wM ty adM r14.2) (wn := wM ty adM r14.2) ⟨hx, hb, hml, hown, hts⟩ (cX5_change_ok l D ty adM H.size vM (3 : Int32) p1 r14 e14) (cwV 2 hts gX5_setKink_X5_change rfl rfl rfl (by decide +kernel) ⟨Nat.le_of_ble_eq_true rfl, Nat.le_of_ble_eq_true rfl⟩) hP hK hD hS hA [0, 1, 2, 3, 4, 5, 6] (by decide) rfl 5 0 rfl rfl rfl rfl hl.1 rfl (Nat.le_of_ble_eq_true rfl) dX5_setKink_14 ⟨Nat.le_of_ble_eq_true rfl, Nat.le_of_ble_eq_true rfl⟩ rfl rfl (fun H locs hP hD hS => ?_)
      refine lv_goto (tgt := 22) hx hb dX5_setKink_17 (by decide) ?_
      obtain rfl := Option.some.inj h
      subst hQ
      exact W.iret (v := r14.1) hx hb hr (fun t ht hW => ⟨⟨r14.1, (), rfl, rfl, kEnd ht hP⟩, hS.F ht⟩) hS.2.2 dX5_setKink_22
  exact E0 s.heap [] ls hP hD hS hl
def fX5_tellThinning (vM : KM) (p1 : Int32) (p2 : Int32) : Option (Int32 × KM) := (fX5_isLayer vM p1).bind fun r2 => if ¬ r2 = (0 : Int32) then ((fX5_in p2 (10 : Int32) (1000 : Int32)).bind fun r19 => if r19 = (0 : Int32) then (some ((-1000000002 : Int32), vM)) else ((fX5_change vM (((8 : Int32) * p1) + (8 : Int32)) p2).bind fun r34 => some (r34.1, r34.2))) else (some ((-1000000001 : Int32), vM))
set_option maxHeartbeats 4000000 in
set_option maxRecDepth 100000 in
theorem cX5_tellThinning_ok (l : Launch) (D : va_G) (ty : kTy) (adM : Nat → Nat) (sz : Nat) (vM : KM) (p1 : Int32) (p2 : Int32) (res : Int32 × KM) (h : fX5_tellThinning vM p1 p2 = some res) : kMI l yX5_tellThinning wsX5_tellThinning { frames := 2, cells := 0, slots := 0, locals := 44 } [.ref (adM 0), .int p1, .int p2] D ty (wM ty adM vM) sz res.1 (wM ty adM res.2) := by
  refine Met.ofW (cc := cX5_tellThinning) (maxL := 3) (ret := (some .int)) (by decide) rfl ?_
  intro p e s m args below meth c s₁ B hml hv
  obtain ⟨rfl, hsz, hP, hK, hD0⟩ := hv
  have hx := B.exec
  have hb := B.bytes
  have hr := B.returns
  have hts := atoms_spec (ws := wsX5_tellThinning) B.pre
  have hown : s.vm.findClass RX5 = some m.cls := findClass_of_methodNamed B.named
  have hlocks := B.notSynchronized
  subst hsz
  have hD := hD0.self (sz := s.heap.size)
  generalize hAe : va_A (wM ty adM vM) s.heap.size = A at hD ⊢
  have hA : ∀ q : Nat, s.heap.size ≤ q → A q := fun q h => by rw [← hAe]; exact Or.inr h
  have hS : va_S A s.heap s.heap [] := va_S.rf
  refine kGenW (fun Q hQ => ?_)
  have wf0 := hts (.constant RX5 100 (-1000000002)) (by decide +kernel)
  have wf1 := hts (.constant RX5 114 (-1000000001)) (by decide +kernel)
  have hl := lv_entry ([.ref (adM 0), .int p1, .int p2]) (n := 3) (Nat.le_of_ble_eq_true rfl)
  rw [lg_entry_eq]
  generalize (lg_sl ([.ref (adM 0), .int p1, .int p2]) ++ List.replicate (3 - (lg_sl ([.ref (adM 0), .int p1, .int p2])).length) Slot.unset).toArray = ls at hl ⊢
  have hl : lv_has ls 3 [(0, .ref (adM 0)), (1, .int p1), (2, .int p2)] := hl
  unfold fX5_tellThinning at h
  have E0 : ∀ (H : Heap) (locs : List Loc) (ls : Array Slot), va_P D vwCl (wM ty adM vM) H → va_D A (wM ty adM vM) → va_S A s.heap H locs → lv_has ls 3 [(0, .ref (adM 0)), (1, .int p1), (2, .int p2)] → W p l e (headSpec wsX5_tellThinning { frames := 2, cells := 0, slots := 0, locals := 44 }).room s m ([.ref (adM 0), .int p1, .int p2] : List Value).toArray below meth c H locs 0 0 Q (F0 m 0 ls []) := by
    intro H locs ls hP hD hS hl
    refine lv_aload_n hx hb dX5_tellThinning_0 rfl (lv_at hl 0 rfl) ?_
    refine lv_iload_n hx hb dX5_tellThinning_1 rfl (lv_at hl 1 rfl) ?_
    obtain ⟨r2, e2, h⟩ := kBd h
    refine kCallVI (As := [.int p1]) (rest := []) (wc := wM ty adM vM) (w1 := wM ty adM vM) (wn := wM ty adM vM) ⟨hx, hb, hml, hown, hts⟩ (cX5_isLayer_ok l D ty adM H.size vM p1 r2 e2) (cwV 1 hts gX5_tellThinning_X5_isLayer rfl rfl rfl (by decide +kernel) ⟨Nat.le_of_ble_eq_true rfl, Nat.le_of_ble_eq_true rfl⟩) hP hK hD hS hA [0, 1, 2, 3, 4, 5, 6] (by decide) rfl 5 0 rfl rfl rfl rfl hl.1 rfl (Nat.le_of_ble_eq_true rfl) dX5_tellThinning_2 ⟨Nat.le_of_ble_eq_true rfl, Nat.le_of_ble_eq_true rfl⟩ rfl rfl (fun H locs hP hD hS => ?_)
    refine lv_if_ne (tgt := 13) hx hb dX5_tellThinning_5 (by decide) (fun c5 => ?_) (fun c5 => ?_)
    · have h := kT h c5
      refine lv_iload_n hx hb dX5_tellThinning_13 rfl (lv_at hl 2 rfl) ?_
      refine lv_bipush (v := 10) hx hb dX5_tellThinning_14 (by decide) ?_
      refine lv_sipush (v := 1000) hx hb dX5_tellThinning_16 (by decide) ?_
      obtain ⟨r19, e19, h⟩ := kBd h
      refine kCallSI (As := [.int p2, .int (10 : Int32), .int (1000 : Int32)]) (rest := []) ⟨hx, hb, hml, hown, hts⟩ (cX5_in_ok l D ty  H.size p2 (10 : Int32) (1000 : Int32) r19 e19) (va_cwS 3 hts gX5_tellThinning_X5_in rfl rfl rfl (by decide +kernel) ⟨Nat.le_of_ble_eq_true rfl, Nat.le_of_ble_eq_true rfl⟩) hP hK hD hS hA rfl hl.1 rfl (Nat.le_of_ble_eq_true rfl) dX5_tellThinning_19 ⟨Nat.le_of_ble_eq_true rfl, Nat.le_of_ble_eq_true rfl⟩ (fun H locs hP hS => ?_)
      refine lv_if_eq (tgt := 40) hx hb dX5_tellThinning_22 (by decide) (fun c22 => ?_) (fun c22 => ?_)
      · have h := kT h c22
        refine lv_ldc hx hb hown wf0 dX5_tellThinning_40 ?_
        obtain rfl := Option.some.inj h
        subst hQ
        exact W.iret (v := (-1000000002 : Int32)) hx hb hr (fun t ht hW => ⟨⟨(-1000000002 : Int32), (), rfl, rfl, kEnd ht hP⟩, hS.F ht⟩) hS.2.2 dX5_tellThinning_42
      · have h := kF h c22
        refine lv_aload_n hx hb dX5_tellThinning_25 rfl (lv_at hl 0 rfl) ?_
        refine lv_bipush (v := 8) hx hb dX5_tellThinning_26 (by decide) ?_
        refine lv_iload_n hx hb dX5_tellThinning_28 rfl (lv_at hl 1 rfl) ?_
        refine lv_imul hx hb dX5_tellThinning_29 ?_
        refine lv_bipush (v := 8) hx hb dX5_tellThinning_30 (by decide) ?_
        refine lv_iadd hx hb dX5_tellThinning_32 ?_
        refine lv_iload_n hx hb dX5_tellThinning_33 rfl (lv_at hl 2 rfl) ?_
        obtain ⟨r34, e34, h⟩ := kBd h
        refine kCallVI (As := [.int (((8 : Int32) * p1) + (8 : Int32)), .int p2]) (rest := []) (wc := wM ty adM vM) (w1 := wM ty adM r34.2) (wn := wM ty adM r34.2) ⟨hx, hb, hml, hown, hts⟩ (cX5_change_ok l D ty adM H.size vM (((8 : Int32) * p1) + (8 : Int32)) p2 r34 e34) (cwV 2 hts gX5_tellThinning_X5_change rfl rfl rfl (by decide +kernel) ⟨Nat.le_of_ble_eq_true rfl, Nat.le_of_ble_eq_true rfl⟩) hP hK hD hS hA [0, 1, 2, 3, 4, 5, 6] (by decide) rfl 5 0 rfl rfl rfl rfl hl.1 rfl (Nat.le_of_ble_eq_true rfl) dX5_tellThinning_34 ⟨Nat.le_of_ble_eq_true rfl, Nat.le_of_ble_eq_true rfl⟩ rfl rfl (fun H locs hP hD hS => ?_)
        refine lv_goto (tgt := 42) hx hb dX5_tellThinning_37 (by decide) ?_
        obtain rfl := Option.some.inj h
        subst hQ
        exact W.iret (v := r34.1) hx hb hr (fun t ht hW => ⟨⟨r34.1, (), rfl, rfl, kEnd ht hP⟩, hS.F ht⟩) hS.2.2 dX5_tellThinning_42
    · have h := kF h (fun z => z c5)
      refine lv_ldc hx hb hown wf1 dX5_tellThinning_8 ?_
      refine lv_goto (tgt := 42) hx hb dX5_tellThinning_10 (by decide) ?_
      obtain rfl := Option.some.inj h
      subst hQ
      exact W.iret (v := (-1000000001 : Int32)) hx hb hr (fun t ht hW => ⟨⟨(-1000000001 : Int32), (), rfl, rfl, kEnd ht hP⟩, hS.F ht⟩) hS.2.2 dX5_tellThinning_42
  exact E0 s.heap [] ls hP hD hS hl
def fX5_correct (vM : KM) (p1 : Int32) (p2 : Int32) : Option (Int32 × KM) := (fX5_isLayer vM p1).bind fun r2 => if ¬ r2 = (0 : Int32) then ((fX5_in p2 (200 : Int32) (5000 : Int32)).bind fun r20 => if r20 = (0 : Int32) then (some ((-1000000002 : Int32), vM)) else ((fX5_change vM (((8 : Int32) * p1) + (7 : Int32)) p2).bind fun r35 => some (r35.1, r35.2))) else (some ((-1000000001 : Int32), vM))
set_option maxHeartbeats 4000000 in
set_option maxRecDepth 100000 in
theorem cX5_correct_ok (l : Launch) (D : va_G) (ty : kTy) (adM : Nat → Nat) (sz : Nat) (vM : KM) (p1 : Int32) (p2 : Int32) (res : Int32 × KM) (h : fX5_correct vM p1 p2 = some res) : kMI l yX5_correct wsX5_correct { frames := 2, cells := 0, slots := 0, locals := 44 } [.ref (adM 0), .int p1, .int p2] D ty (wM ty adM vM) sz res.1 (wM ty adM res.2) := by
  refine Met.ofW (cc := cX5_correct) (maxL := 3) (ret := (some .int)) (by decide) rfl ?_
  intro p e s m args below meth c s₁ B hml hv
  obtain ⟨rfl, hsz, hP, hK, hD0⟩ := hv
  have hx := B.exec
  have hb := B.bytes
  have hr := B.returns
  have hts := atoms_spec (ws := wsX5_correct) B.pre
  have hown : s.vm.findClass RX5 = some m.cls := findClass_of_methodNamed B.named
  have hlocks := B.notSynchronized
  subst hsz
  have hD := hD0.self (sz := s.heap.size)
  generalize hAe : va_A (wM ty adM vM) s.heap.size = A at hD ⊢
  have hA : ∀ q : Nat, s.heap.size ≤ q → A q := fun q h => by rw [← hAe]; exact Or.inr h
  have hS : va_S A s.heap s.heap [] := va_S.rf
  refine kGenW (fun Q hQ => ?_)
  have wf0 := hts (.constant RX5 100 (-1000000002)) (by decide +kernel)
  have wf1 := hts (.constant RX5 114 (-1000000001)) (by decide +kernel)
  have hl := lv_entry ([.ref (adM 0), .int p1, .int p2]) (n := 3) (Nat.le_of_ble_eq_true rfl)
  rw [lg_entry_eq]
  generalize (lg_sl ([.ref (adM 0), .int p1, .int p2]) ++ List.replicate (3 - (lg_sl ([.ref (adM 0), .int p1, .int p2])).length) Slot.unset).toArray = ls at hl ⊢
  have hl : lv_has ls 3 [(0, .ref (adM 0)), (1, .int p1), (2, .int p2)] := hl
  unfold fX5_correct at h
  have E0 : ∀ (H : Heap) (locs : List Loc) (ls : Array Slot), va_P D vwCl (wM ty adM vM) H → va_D A (wM ty adM vM) → va_S A s.heap H locs → lv_has ls 3 [(0, .ref (adM 0)), (1, .int p1), (2, .int p2)] → W p l e (headSpec wsX5_correct { frames := 2, cells := 0, slots := 0, locals := 44 }).room s m ([.ref (adM 0), .int p1, .int p2] : List Value).toArray below meth c H locs 0 0 Q (F0 m 0 ls []) := by
    intro H locs ls hP hD hS hl
    refine lv_aload_n hx hb dX5_correct_0 rfl (lv_at hl 0 rfl) ?_
    refine lv_iload_n hx hb dX5_correct_1 rfl (lv_at hl 1 rfl) ?_
    obtain ⟨r2, e2, h⟩ := kBd h
    refine kCallVI (As := [.int p1]) (rest := []) (wc := wM ty adM vM) (w1 := wM ty adM vM) (wn := wM ty adM vM) ⟨hx, hb, hml, hown, hts⟩ (cX5_isLayer_ok l D ty adM H.size vM p1 r2 e2) (cwV 1 hts gX5_correct_X5_isLayer rfl rfl rfl (by decide +kernel) ⟨Nat.le_of_ble_eq_true rfl, Nat.le_of_ble_eq_true rfl⟩) hP hK hD hS hA [0, 1, 2, 3, 4, 5, 6] (by decide) rfl 5 0 rfl rfl rfl rfl hl.1 rfl (Nat.le_of_ble_eq_true rfl) dX5_correct_2 ⟨Nat.le_of_ble_eq_true rfl, Nat.le_of_ble_eq_true rfl⟩ rfl rfl (fun H locs hP hD hS => ?_)
    refine lv_if_ne (tgt := 13) hx hb dX5_correct_5 (by decide) (fun c5 => ?_) (fun c5 => ?_)
    · have h := kT h c5
      refine lv_iload_n hx hb dX5_correct_13 rfl (lv_at hl 2 rfl) ?_
      refine lv_sipush (v := 200) hx hb dX5_correct_14 (by decide) ?_
      refine lv_sipush (v := 5000) hx hb dX5_correct_17 (by decide) ?_
      obtain ⟨r20, e20, h⟩ := kBd h
      refine kCallSI (As := [.int p2, .int (200 : Int32), .int (5000 : Int32)]) (rest := []) ⟨hx, hb, hml, hown, hts⟩ (cX5_in_ok l D ty  H.size p2 (200 : Int32) (5000 : Int32) r20 e20) (va_cwS 3 hts gX5_correct_X5_in rfl rfl rfl (by decide +kernel) ⟨Nat.le_of_ble_eq_true rfl, Nat.le_of_ble_eq_true rfl⟩) hP hK hD hS hA rfl hl.1 rfl (Nat.le_of_ble_eq_true rfl) dX5_correct_20 ⟨Nat.le_of_ble_eq_true rfl, Nat.le_of_ble_eq_true rfl⟩ (fun H locs hP hS => ?_)
      refine lv_if_eq (tgt := 41) hx hb dX5_correct_23 (by decide) (fun c23 => ?_) (fun c23 => ?_)
      · have h := kT h c23
        refine lv_ldc hx hb hown wf0 dX5_correct_41 ?_
        obtain rfl := Option.some.inj h
        subst hQ
        exact W.iret (v := (-1000000002 : Int32)) hx hb hr (fun t ht hW => ⟨⟨(-1000000002 : Int32), (), rfl, rfl, kEnd ht hP⟩, hS.F ht⟩) hS.2.2 dX5_correct_43
      · have h := kF h c23
        refine lv_aload_n hx hb dX5_correct_26 rfl (lv_at hl 0 rfl) ?_
        refine lv_bipush (v := 8) hx hb dX5_correct_27 (by decide) ?_
        refine lv_iload_n hx hb dX5_correct_29 rfl (lv_at hl 1 rfl) ?_
        refine lv_imul hx hb dX5_correct_30 ?_
        refine lv_bipush (v := 7) hx hb dX5_correct_31 (by decide) ?_
        refine lv_iadd hx hb dX5_correct_33 ?_
        refine lv_iload_n hx hb dX5_correct_34 rfl (lv_at hl 2 rfl) ?_
        obtain ⟨r35, e35, h⟩ := kBd h
        refine kCallVI (As := [.int (((8 : Int32) * p1) + (7 : Int32)), .int p2]) (rest := []) (wc := wM ty adM vM) (w1 := wM ty adM r35.2) (wn := wM ty adM r35.2) ⟨hx, hb, hml, hown, hts⟩ (cX5_change_ok l D ty adM H.size vM (((8 : Int32) * p1) + (7 : Int32)) p2 r35 e35) (cwV 2 hts gX5_correct_X5_change rfl rfl rfl (by decide +kernel) ⟨Nat.le_of_ble_eq_true rfl, Nat.le_of_ble_eq_true rfl⟩) hP hK hD hS hA [0, 1, 2, 3, 4, 5, 6] (by decide) rfl 5 0 rfl rfl rfl rfl hl.1 rfl (Nat.le_of_ble_eq_true rfl) dX5_correct_35 ⟨Nat.le_of_ble_eq_true rfl, Nat.le_of_ble_eq_true rfl⟩ rfl rfl (fun H locs hP hD hS => ?_)
        refine lv_goto (tgt := 43) hx hb dX5_correct_38 (by decide) ?_
        obtain rfl := Option.some.inj h
        subst hQ
        exact W.iret (v := r35.1) hx hb hr (fun t ht hW => ⟨⟨r35.1, (), rfl, rfl, kEnd ht hP⟩, hS.F ht⟩) hS.2.2 dX5_correct_43
    · have h := kF h (fun z => z c5)
      refine lv_ldc hx hb hown wf1 dX5_correct_8 ?_
      refine lv_goto (tgt := 43) hx hb dX5_correct_10 (by decide) ?_
      obtain rfl := Option.some.inj h
      subst hQ
      exact W.iret (v := (-1000000001 : Int32)) hx hb hr (fun t ht hW => ⟨⟨(-1000000001 : Int32), (), rfl, rfl, kEnd ht hP⟩, hS.F ht⟩) hS.2.2 dX5_correct_43
  exact E0 s.heap [] ls hP hD hS hl
def fX5_setCloseOff (vM : KM) (p1 : Int32) : Option (Int32 × KM) := (fX5_in p1 (0 : Int32) (15000 : Int32)).bind fun r5 => if r5 = (0 : Int32) then (some ((-1000000002 : Int32), vM)) else ((fX5_change vM (4 : Int32) p1).bind fun r14 => some (r14.1, r14.2))
set_option maxHeartbeats 4000000 in
set_option maxRecDepth 100000 in
theorem cX5_setCloseOff_ok (l : Launch) (D : va_G) (ty : kTy) (adM : Nat → Nat) (sz : Nat) (vM : KM) (p1 : Int32) (res : Int32 × KM) (h : fX5_setCloseOff vM p1 = some res) : kMI l yX5_setCloseOff wsX5_setCloseOff { frames := 2, cells := 0, slots := 0, locals := 44 } [.ref (adM 0), .int p1] D ty (wM ty adM vM) sz res.1 (wM ty adM res.2) := by
  refine Met.ofW (cc := cX5_setCloseOff) (maxL := 2) (ret := (some .int)) (by decide) rfl ?_
  intro p e s m args below meth c s₁ B hml hv
  obtain ⟨rfl, hsz, hP, hK, hD0⟩ := hv
  have hx := B.exec
  have hb := B.bytes
  have hr := B.returns
  have hts := atoms_spec (ws := wsX5_setCloseOff) B.pre
  have hown : s.vm.findClass RX5 = some m.cls := findClass_of_methodNamed B.named
  have hlocks := B.notSynchronized
  subst hsz
  have hD := hD0.self (sz := s.heap.size)
  generalize hAe : va_A (wM ty adM vM) s.heap.size = A at hD ⊢
  have hA : ∀ q : Nat, s.heap.size ≤ q → A q := fun q h => by rw [← hAe]; exact Or.inr h
  have hS : va_S A s.heap s.heap [] := va_S.rf
  refine kGenW (fun Q hQ => ?_)
  have wf0 := hts (.constant RX5 100 (-1000000002)) (by decide +kernel)
  have hl := lv_entry ([.ref (adM 0), .int p1]) (n := 2) (Nat.le_of_ble_eq_true rfl)
  rw [lg_entry_eq]
  generalize (lg_sl ([.ref (adM 0), .int p1]) ++ List.replicate (2 - (lg_sl ([.ref (adM 0), .int p1])).length) Slot.unset).toArray = ls at hl ⊢
  have hl : lv_has ls 2 [(0, .ref (adM 0)), (1, .int p1)] := hl
  unfold fX5_setCloseOff at h
  have E0 : ∀ (H : Heap) (locs : List Loc) (ls : Array Slot), va_P D vwCl (wM ty adM vM) H → va_D A (wM ty adM vM) → va_S A s.heap H locs → lv_has ls 2 [(0, .ref (adM 0)), (1, .int p1)] → W p l e (headSpec wsX5_setCloseOff { frames := 2, cells := 0, slots := 0, locals := 44 }).room s m ([.ref (adM 0), .int p1] : List Value).toArray below meth c H locs 0 0 Q (F0 m 0 ls []) := by
    intro H locs ls hP hD hS hl
    refine lv_iload_n hx hb dX5_setCloseOff_0 rfl (lv_at hl 1 rfl) ?_
    refine lv_iconst (v := 0) hx hb dX5_setCloseOff_1 (by decide) ?_
    refine lv_sipush (v := 15000) hx hb dX5_setCloseOff_2 (by decide) ?_
    obtain ⟨r5, e5, h⟩ := kBd h
    refine kCallSI (As := [.int p1, .int (0 : Int32), .int (15000 : Int32)]) (rest := []) ⟨hx, hb, hml, hown, hts⟩ (cX5_in_ok l D ty  H.size p1 (0 : Int32) (15000 : Int32) r5 e5) (va_cwS 3 hts gX5_setCloseOff_X5_in rfl rfl rfl (by decide +kernel) ⟨Nat.le_of_ble_eq_true rfl, Nat.le_of_ble_eq_true rfl⟩) hP hK hD hS hA rfl hl.1 rfl (Nat.le_of_ble_eq_true rfl) dX5_setCloseOff_5 ⟨Nat.le_of_ble_eq_true rfl, Nat.le_of_ble_eq_true rfl⟩ (fun H locs hP hS => ?_)
    refine lv_if_eq (tgt := 20) hx hb dX5_setCloseOff_8 (by decide) (fun c8 => ?_) (fun c8 => ?_)
    · have h := kT h c8
      refine lv_ldc hx hb hown wf0 dX5_setCloseOff_20 ?_
      obtain rfl := Option.some.inj h
      subst hQ
      exact W.iret (v := (-1000000002 : Int32)) hx hb hr (fun t ht hW => ⟨⟨(-1000000002 : Int32), (), rfl, rfl, kEnd ht hP⟩, hS.F ht⟩) hS.2.2 dX5_setCloseOff_22
    · have h := kF h c8
      refine lv_aload_n hx hb dX5_setCloseOff_11 rfl (lv_at hl 0 rfl) ?_
      refine lv_iconst (v := 4) hx hb dX5_setCloseOff_12 (by decide) ?_
      refine lv_iload_n hx hb dX5_setCloseOff_13 rfl (lv_at hl 1 rfl) ?_
      obtain ⟨r14, e14, h⟩ := kBd h
      refine kCallVI (As := [.int (4 : Int32), .int p1]) (rest := []) (wc := wM ty adM vM) (w1 := wM ty adM r14.2) (wn := wM ty adM r14.2) ⟨hx, hb, hml, hown, hts⟩ (cX5_change_ok l D ty adM H.size vM (4 : Int32) p1 r14 e14) (cwV 2 hts gX5_setCloseOff_X5_change rfl rfl rfl (by decide +kernel) ⟨Nat.le_of_ble_eq_true rfl, Nat.le_of_ble_eq_true rfl⟩) hP hK hD hS hA [0, 1, 2, 3, 4, 5, 6] (by decide) rfl 5 0 rfl rfl rfl rfl hl.1 rfl (Nat.le_of_ble_eq_true rfl) dX5_setCloseOff_14 ⟨Nat.le_of_ble_eq_true rfl, Nat.le_of_ble_eq_true rfl⟩ rfl rfl (fun H locs hP hD hS => ?_)
      refine lv_goto (tgt := 22) hx hb dX5_setCloseOff_17 (by decide) ?_
      obtain rfl := Option.some.inj h
      subst hQ
      exact W.iret (v := r14.1) hx hb hr (fun t ht hW => ⟨⟨r14.1, (), rfl, rfl, kEnd ht hP⟩, hS.F ht⟩) hS.2.2 dX5_setCloseOff_22
  exact E0 s.heap [] ls hP hD hS hl
def fX5_setAsh (vM : KM) (p1 : Int32) (p2 : Int32) (p3 : Int32) : Option (Int32 × KM) := (fX5_isLayer vM p1).bind fun r2 => if ¬ r2 = (0 : Int32) then ((fX5_in p2 (0 : Int32) (100000000 : Int32)).bind fun r15 => if r15 = (0 : Int32) then (some ((-1000000002 : Int32), vM)) else ((fX5_in p3 (0 : Int32) (10000 : Int32)).bind fun r26 => if ¬ r26 = (0 : Int32) then ((fX5_record vM).bind fun r36 => if kIn (((8 : Int32) * p1) + (9 : Int32)) 133 = true then (if kIn (((8 : Int32) * p1) + (10 : Int32)) 133 = true then (if kIn (((8 : Int32) * p1) + (11 : Int32)) 133 = true then ((fX5_ashes (r36.1, r36.2.1, r36.2.2.1, r36.2.2.2.1, r36.2.2.2.2.1, r36.2.2.2.2.2.1, (upd (upd (upd r36.2.2.2.2.2.2.1 (((8 : Int32) * p1) + (9 : Int32)).toNatClampNeg (1 : Int32)) (((8 : Int32) * p1) + (10 : Int32)).toNatClampNeg p2) (((8 : Int32) * p1) + (11 : Int32)).toNatClampNeg p3), r36.2.2.2.2.2.2.2)).bind fun r79 => some (r79, (r36.1, r36.2.1, r36.2.2.1, r36.2.2.2.1, r36.2.2.2.2.1, r36.2.2.2.2.2.1, (upd (upd (upd r36.2.2.2.2.2.2.1 (((8 : Int32) * p1) + (9 : Int32)).toNatClampNeg (1 : Int32)) (((8 : Int32) * p1) + (10 : Int32)).toNatClampNeg p2) (((8 : Int32) * p1) + (11 : Int32)).toNatClampNeg p3), r36.2.2.2.2.2.2.2))) else none) else none) else none) else (some ((-1000000002 : Int32), vM)))) else (some ((-1000000001 : Int32), vM))
set_option maxHeartbeats 4000000 in
set_option maxRecDepth 100000 in
theorem cX5_setAsh_ok (l : Launch) (D : va_G) (ty : kTy) (adM : Nat → Nat) (sz : Nat) (vM : KM) (p1 : Int32) (p2 : Int32) (p3 : Int32) (res : Int32 × KM) (h : fX5_setAsh vM p1 p2 p3 = some res) : kMI l yX5_setAsh wsX5_setAsh { frames := 2, cells := 0, slots := 0, locals := 44 } [.ref (adM 0), .int p1, .int p2, .int p3] D ty (wM ty adM vM) sz res.1 (wM ty adM res.2) := by
  refine Met.ofW (cc := cX5_setAsh) (maxL := 5) (ret := (some .int)) (by decide) rfl ?_
  intro p e s m args below meth c s₁ B hml hv
  obtain ⟨rfl, hsz, hP, hK, hD0⟩ := hv
  have hx := B.exec
  have hb := B.bytes
  have hr := B.returns
  have hts := atoms_spec (ws := wsX5_setAsh) B.pre
  have hown : s.vm.findClass RX5 = some m.cls := findClass_of_methodNamed B.named
  have hlocks := B.notSynchronized
  subst hsz
  have hD := hD0.self (sz := s.heap.size)
  generalize hAe : va_A (wM ty adM vM) s.heap.size = A at hD ⊢
  have hA : ∀ q : Nat, s.heap.size ≤ q → A q := fun q h => by rw [← hAe]; exact Or.inr h
  have hS : va_S A s.heap s.heap [] := va_S.rf
  refine kGenW (fun Q hQ => ?_)
  have wf0 := hts (.constant RX5 119 (100000000)) (by decide +kernel)
  have wf1 := hts (.constant RX5 100 (-1000000002)) (by decide +kernel)
  have wf2 := hts (.fieldLink RX5 7 "IceCoreDaterModel" "now" "[I") (by decide +kernel)
  have hinX5 : ∀ w ∈ wsX50, w ∈ wsX5_setAsh := by decide +kernel
  have wf4 := hts (.constant RX5 114 (-1000000001)) (by decide +kernel)
  have hl := lv_entry ([.ref (adM 0), .int p1, .int p2, .int p3]) (n := 5) (Nat.le_of_ble_eq_true rfl)
  rw [lg_entry_eq]
  generalize (lg_sl ([.ref (adM 0), .int p1, .int p2, .int p3]) ++ List.replicate (5 - (lg_sl ([.ref (adM 0), .int p1, .int p2, .int p3])).length) Slot.unset).toArray = ls at hl ⊢
  have hl : lv_has ls 5 [(0, .ref (adM 0)), (1, .int p1), (2, .int p2), (3, .int p3)] := hl
  unfold fX5_setAsh at h
  have E0 : ∀ (H : Heap) (locs : List Loc) (ls : Array Slot), va_P D vwCl (wM ty adM vM) H → va_D A (wM ty adM vM) → va_S A s.heap H locs → lv_has ls 5 [(0, .ref (adM 0)), (1, .int p1), (2, .int p2), (3, .int p3)] → W p l e (headSpec wsX5_setAsh { frames := 2, cells := 0, slots := 0, locals := 44 }).room s m ([.ref (adM 0), .int p1, .int p2, .int p3] : List Value).toArray below meth c H locs 0 0 Q (F0 m 0 ls []) := by
    intro H locs ls hP hD hS hl
    refine lv_aload_n hx hb dX5_setAsh_0 rfl (lv_at hl 0 rfl) ?_
    refine lv_iload_n hx hb dX5_setAsh_1 rfl (lv_at hl 1 rfl) ?_
    obtain ⟨r2, e2, h⟩ := kBd h
    refine kCallVI (As := [.int p1]) (rest := []) (wc := wM ty adM vM) (w1 := wM ty adM vM) (wn := wM ty adM vM) ⟨hx, hb, hml, hown, hts⟩ (cX5_isLayer_ok l D ty adM H.size vM p1 r2 e2) (cwV 1 hts gX5_setAsh_X5_isLayer rfl rfl rfl (by decide +kernel) ⟨Nat.le_of_ble_eq_true rfl, Nat.le_of_ble_eq_true rfl⟩) hP hK hD hS hA [0, 1, 2, 3, 4, 5, 6] (by decide) rfl 5 0 rfl rfl rfl rfl hl.1 rfl (Nat.le_of_ble_eq_true rfl) dX5_setAsh_2 ⟨Nat.le_of_ble_eq_true rfl, Nat.le_of_ble_eq_true rfl⟩ rfl rfl (fun H locs hP hD hS => ?_)
    refine lv_if_ne (tgt := 11) hx hb dX5_setAsh_5 (by decide) (fun c5 => ?_) (fun c5 => ?_)
    · have h := kT h c5
      refine lv_iload_n hx hb dX5_setAsh_11 rfl (lv_at hl 2 rfl) ?_
      refine lv_iconst (v := 0) hx hb dX5_setAsh_12 (by decide) ?_
      refine lv_ldc hx hb hown wf0 dX5_setAsh_13 ?_
      obtain ⟨r15, e15, h⟩ := kBd h
      refine kCallSI (As := [.int p2, .int (0 : Int32), .int (100000000 : Int32)]) (rest := []) ⟨hx, hb, hml, hown, hts⟩ (cX5_in_ok l D ty  H.size p2 (0 : Int32) (100000000 : Int32) r15 e15) (va_cwS 3 hts gX5_setAsh_X5_in rfl rfl rfl (by decide +kernel) ⟨Nat.le_of_ble_eq_true rfl, Nat.le_of_ble_eq_true rfl⟩) hP hK hD hS hA rfl hl.1 rfl (Nat.le_of_ble_eq_true rfl) dX5_setAsh_15 ⟨Nat.le_of_ble_eq_true rfl, Nat.le_of_ble_eq_true rfl⟩ (fun H locs hP hS => ?_)
      refine lv_if_eq (tgt := 32) hx hb dX5_setAsh_18 (by decide) (fun c18 => ?_) (fun c18 => ?_)
      · have h := kT h c18
        refine lv_ldc hx hb hown wf1 dX5_setAsh_32 ?_
        obtain rfl := Option.some.inj h
        subst hQ
        exact W.iret (v := (-1000000002 : Int32)) hx hb hr (fun t ht hW => ⟨⟨(-1000000002 : Int32), (), rfl, rfl, kEnd ht hP⟩, hS.F ht⟩) hS.2.2 dX5_setAsh_34
      · have h := kF h c18
        refine lv_iload_n hx hb dX5_setAsh_21 rfl (lv_at hl 3 rfl) ?_
        refine lv_iconst (v := 0) hx hb dX5_setAsh_22 (by decide) ?_
        refine lv_sipush (v := 10000) hx hb dX5_setAsh_23 (by decide) ?_
        obtain ⟨r26, e26, h⟩ := kBd h
        refine kCallSI (As := [.int p3, .int (0 : Int32), .int (10000 : Int32)]) (rest := []) ⟨hx, hb, hml, hown, hts⟩ (cX5_in_ok l D ty  H.size p3 (0 : Int32) (10000 : Int32) r26 e26) (va_cwS 3 hts gX5_setAsh_X5_in rfl rfl rfl (by decide +kernel) ⟨Nat.le_of_ble_eq_true rfl, Nat.le_of_ble_eq_true rfl⟩) hP hK hD hS hA rfl hl.1 rfl (Nat.le_of_ble_eq_true rfl) dX5_setAsh_26 ⟨Nat.le_of_ble_eq_true rfl, Nat.le_of_ble_eq_true rfl⟩ (fun H locs hP hS => ?_)
        refine lv_if_ne (tgt := 35) hx hb dX5_setAsh_29 (by decide) (fun c29 => ?_) (fun c29 => ?_)
        · have h := kT h c29
          refine lv_aload_n hx hb dX5_setAsh_35 rfl (lv_at hl 0 rfl) ?_
          obtain ⟨r36, e36, h⟩ := kBd h
          refine kCallVV (As := []) (rest := []) (wc := wM ty adM vM) (w1 := wM ty adM r36) (wn := wM ty adM r36) ⟨hx, hb, hml, hown, hts⟩ (cX5_record_ok l D ty adM H.size vM r36 e36) (cwV 0 hts gX5_setAsh_X5_record rfl rfl rfl (by decide +kernel) ⟨Nat.le_of_ble_eq_true rfl, Nat.le_of_ble_eq_true rfl⟩) hP hK hD hS hA [0, 1, 2, 3, 4, 5, 6] (by decide) rfl 5 0 rfl rfl rfl rfl hl.1 rfl (Nat.le_of_ble_eq_true rfl) dX5_setAsh_36 ⟨Nat.le_of_ble_eq_true rfl, Nat.le_of_ble_eq_true rfl⟩ rfl rfl (fun H locs hP hD hS => ?_)
          refine lv_bipush (v := 8) hx hb dX5_setAsh_39 (by decide) ?_
          refine lv_iload_n hx hb dX5_setAsh_41 rfl (lv_at hl 1 rfl) ?_
          refine lv_imul hx hb dX5_setAsh_42 ?_
          refine lv_istore (lv' := [(4, .int ((8 : Int32) * p1)), (0, .ref (adM 0)), (1, .int p1), (2, .int p2), (3, .int p3)]) hx hb dX5_setAsh_43 hl (by decide) rfl (fun ls hl => ?_)
          refine lv_aload_n hx hb dX5_setAsh_45 rfl (lv_at hl 1 rfl) ?_
          refine va_get (D := D) (ci := 5) (v := .ref (adM 1)) (C := RX5) (T := TX5) (N := 12) hx hb hts hinX5 hown hK.1 hP 0 rfl rfl 0 (by decide) wf2 (fun _ h9 => h9) rfl dX5_setAsh_46 ?_
          refine lv_iload hx hb dX5_setAsh_49 (lv_at hl 0 rfl) ?_
          refine lv_bipush (v := 9) hx hb dX5_setAsh_51 (by decide) ?_
          refine lv_iadd hx hb dX5_setAsh_53 ?_
          refine lv_iconst (v := 1) hx hb dX5_setAsh_54 (by decide) ?_
          obtain ⟨b55, h⟩ := kIf h
          refine va_iast (f := r36.2.2.2.2.2.2.1) (n := 133) hx hb hK.1 hP hD hS 1 0 rfl rfl (kIn_ok b55) dX5_setAsh_55 (fun H locs hP hD hS => ?_)
          have hP : va_P D vwCl (wM ty adM (r36.1, r36.2.1, r36.2.2.1, r36.2.2.2.1, r36.2.2.2.2.1, r36.2.2.2.2.2.1, (upd r36.2.2.2.2.2.2.1 (((8 : Int32) * p1) + (9 : Int32)).toNatClampNeg (1 : Int32)), r36.2.2.2.2.2.2.2)) H := hP
          have hD : va_D A (wM ty adM (r36.1, r36.2.1, r36.2.2.1, r36.2.2.2.1, r36.2.2.2.2.1, r36.2.2.2.2.2.1, (upd r36.2.2.2.2.2.2.1 (((8 : Int32) * p1) + (9 : Int32)).toNatClampNeg (1 : Int32)), r36.2.2.2.2.2.2.2)) := hD
          refine lv_aload_n hx hb dX5_setAsh_56 rfl (lv_at hl 1 rfl) ?_
          refine va_get (D := D) (ci := 5) (v := .ref (adM 1)) (C := RX5) (T := TX5) (N := 12) hx hb hts hinX5 hown hK.1 hP 0 rfl rfl 0 (by decide) wf2 (fun _ h9 => h9) rfl dX5_setAsh_57 ?_
          refine lv_iload hx hb dX5_setAsh_60 (lv_at hl 0 rfl) ?_
          refine lv_bipush (v := 10) hx hb dX5_setAsh_62 (by decide) ?_
          refine lv_iadd hx hb dX5_setAsh_64 ?_
          refine lv_iload_n hx hb dX5_setAsh_65 rfl (lv_at hl 3 rfl) ?_
          obtain ⟨b66, h⟩ := kIf h
          refine va_iast (f := (upd r36.2.2.2.2.2.2.1 (((8 : Int32) * p1) + (9 : Int32)).toNatClampNeg (1 : Int32))) (n := 133) hx hb hK.1 hP hD hS 1 0 rfl rfl (kIn_ok b66) dX5_setAsh_66 (fun H locs hP hD hS => ?_)
          have hP : va_P D vwCl (wM ty adM (r36.1, r36.2.1, r36.2.2.1, r36.2.2.2.1, r36.2.2.2.2.1, r36.2.2.2.2.2.1, (upd (upd r36.2.2.2.2.2.2.1 (((8 : Int32) * p1) + (9 : Int32)).toNatClampNeg (1 : Int32)) (((8 : Int32) * p1) + (10 : Int32)).toNatClampNeg p2), r36.2.2.2.2.2.2.2)) H := hP
          have hD : va_D A (wM ty adM (r36.1, r36.2.1, r36.2.2.1, r36.2.2.2.1, r36.2.2.2.2.1, r36.2.2.2.2.2.1, (upd (upd r36.2.2.2.2.2.2.1 (((8 : Int32) * p1) + (9 : Int32)).toNatClampNeg (1 : Int32)) (((8 : Int32) * p1) + (10 : Int32)).toNatClampNeg p2), r36.2.2.2.2.2.2.2)) := hD
          refine lv_aload_n hx hb dX5_setAsh_67 rfl (lv_at hl 1 rfl) ?_
          refine va_get (D := D) (ci := 5) (v := .ref (adM 1)) (C := RX5) (T := TX5) (N := 12) hx hb hts hinX5 hown hK.1 hP 0 rfl rfl 0 (by decide) wf2 (fun _ h9 => h9) rfl dX5_setAsh_68 ?_
          refine lv_iload hx hb dX5_setAsh_71 (lv_at hl 0 rfl) ?_
          refine lv_bipush (v := 11) hx hb dX5_setAsh_73 (by decide) ?_
          refine lv_iadd hx hb dX5_setAsh_75 ?_
          refine lv_iload_n hx hb dX5_setAsh_76 rfl (lv_at hl 4 rfl) ?_
          obtain ⟨b77, h⟩ := kIf h
          refine va_iast (f := (upd (upd r36.2.2.2.2.2.2.1 (((8 : Int32) * p1) + (9 : Int32)).toNatClampNeg (1 : Int32)) (((8 : Int32) * p1) + (10 : Int32)).toNatClampNeg p2)) (n := 133) hx hb hK.1 hP hD hS 1 0 rfl rfl (kIn_ok b77) dX5_setAsh_77 (fun H locs hP hD hS => ?_)
          have hP : va_P D vwCl (wM ty adM (r36.1, r36.2.1, r36.2.2.1, r36.2.2.2.1, r36.2.2.2.2.1, r36.2.2.2.2.2.1, (upd (upd (upd r36.2.2.2.2.2.2.1 (((8 : Int32) * p1) + (9 : Int32)).toNatClampNeg (1 : Int32)) (((8 : Int32) * p1) + (10 : Int32)).toNatClampNeg p2) (((8 : Int32) * p1) + (11 : Int32)).toNatClampNeg p3), r36.2.2.2.2.2.2.2)) H := hP
          have hD : va_D A (wM ty adM (r36.1, r36.2.1, r36.2.2.1, r36.2.2.2.1, r36.2.2.2.2.1, r36.2.2.2.2.2.1, (upd (upd (upd r36.2.2.2.2.2.2.1 (((8 : Int32) * p1) + (9 : Int32)).toNatClampNeg (1 : Int32)) (((8 : Int32) * p1) + (10 : Int32)).toNatClampNeg p2) (((8 : Int32) * p1) + (11 : Int32)).toNatClampNeg p3), r36.2.2.2.2.2.2.2)) := hD
          refine lv_aload_n hx hb dX5_setAsh_78 rfl (lv_at hl 1 rfl) ?_
          obtain ⟨r79, e79, h⟩ := kBd h
          refine kCallVI (As := []) (rest := []) (wc := wM ty adM (r36.1, r36.2.1, r36.2.2.1, r36.2.2.2.1, r36.2.2.2.2.1, r36.2.2.2.2.2.1, (upd (upd (upd r36.2.2.2.2.2.2.1 (((8 : Int32) * p1) + (9 : Int32)).toNatClampNeg (1 : Int32)) (((8 : Int32) * p1) + (10 : Int32)).toNatClampNeg p2) (((8 : Int32) * p1) + (11 : Int32)).toNatClampNeg p3), r36.2.2.2.2.2.2.2)) (w1 := wM ty adM (r36.1, r36.2.1, r36.2.2.1, r36.2.2.2.1, r36.2.2.2.2.1, r36.2.2.2.2.2.1, (upd (upd (upd r36.2.2.2.2.2.2.1 (((8 : Int32) * p1) + (9 : Int32)).toNatClampNeg (1 : Int32)) (((8 : Int32) * p1) + (10 : Int32)).toNatClampNeg p2) (((8 : Int32) * p1) + (11 : Int32)).toNatClampNeg p3), r36.2.2.2.2.2.2.2)) (wn := wM ty adM (r36.1, r36.2.1, r36.2.2.1, r36.2.2.2.1, r36.2.2.2.2.1, r36.2.2.2.2.2.1, (upd (upd (upd r36.2.2.2.2.2.2.1 (((8 : Int32) * p1) + (9 : Int32)).toNatClampNeg (1 : Int32)) (((8 : Int32) * p1) + (10 : Int32)).toNatClampNeg p2) (((8 : Int32) * p1) + (11 : Int32)).toNatClampNeg p3), r36.2.2.2.2.2.2.2)) ⟨hx, hb, hml, hown, hts⟩ (cX5_ashes_ok l D ty adM H.size (r36.1, r36.2.1, r36.2.2.1, r36.2.2.2.1, r36.2.2.2.2.1, r36.2.2.2.2.2.1, (upd (upd (upd r36.2.2.2.2.2.2.1 (((8 : Int32) * p1) + (9 : Int32)).toNatClampNeg (1 : Int32)) (((8 : Int32) * p1) + (10 : Int32)).toNatClampNeg p2) (((8 : Int32) * p1) + (11 : Int32)).toNatClampNeg p3), r36.2.2.2.2.2.2.2) r79 e79) (cwV 0 hts gX5_setAsh_X5_ashes rfl rfl rfl (by decide +kernel) ⟨Nat.le_of_ble_eq_true rfl, Nat.le_of_ble_eq_true rfl⟩) hP hK hD hS hA [0, 1, 2, 3, 4, 5, 6] (by decide) rfl 5 0 rfl rfl rfl rfl hl.1 rfl (Nat.le_of_ble_eq_true rfl) dX5_setAsh_79 ⟨Nat.le_of_ble_eq_true rfl, Nat.le_of_ble_eq_true rfl⟩ rfl rfl (fun H locs hP hD hS => ?_)
          obtain rfl := Option.some.inj h
          subst hQ
          exact W.iret (v := r79) hx hb hr (fun t ht hW => ⟨⟨r79, (), rfl, rfl, kEnd ht hP⟩, hS.F ht⟩) hS.2.2 dX5_setAsh_82
        · have h := kF h (fun z => z c29)
          refine lv_ldc hx hb hown wf1 dX5_setAsh_32 ?_
          obtain rfl := Option.some.inj h
          subst hQ
          exact W.iret (v := (-1000000002 : Int32)) hx hb hr (fun t ht hW => ⟨⟨(-1000000002 : Int32), (), rfl, rfl, kEnd ht hP⟩, hS.F ht⟩) hS.2.2 dX5_setAsh_34
    · have h := kF h (fun z => z c5)
      refine lv_ldc hx hb hown wf4 dX5_setAsh_8 ?_
      obtain rfl := Option.some.inj h
      subst hQ
      exact W.iret (v := (-1000000001 : Int32)) hx hb hr (fun t ht hW => ⟨⟨(-1000000001 : Int32), (), rfl, rfl, kEnd ht hP⟩, hS.F ht⟩) hS.2.2 dX5_setAsh_10
  exact E0 s.heap [] ls hP hD hS hl
def fX5_removeAsh (vM : KM) (p1 : Int32) : Option (Int32 × KM) := (fX5_isLayer vM p1).bind fun r2 => if ¬ r2 = (0 : Int32) then ((fX5_of vM p1 (9 : Int32)).bind fun r15 => if ¬ r15 = (0 : Int32) then ((fX5_record vM).bind fun r25 => if kIn (((8 : Int32) * p1) + (9 : Int32)) 133 = true then ((fX5_ashes (r25.1, r25.2.1, r25.2.2.1, r25.2.2.2.1, r25.2.2.2.2.1, r25.2.2.2.2.2.1, (upd r25.2.2.2.2.2.2.1 (((8 : Int32) * p1) + (9 : Int32)).toNatClampNeg (0 : Int32)), r25.2.2.2.2.2.2.2)).bind fun r42 => some (r42, (r25.1, r25.2.1, r25.2.2.1, r25.2.2.2.1, r25.2.2.2.2.1, r25.2.2.2.2.2.1, (upd r25.2.2.2.2.2.2.1 (((8 : Int32) * p1) + (9 : Int32)).toNatClampNeg (0 : Int32)), r25.2.2.2.2.2.2.2))) else none) else (some ((-1000000003 : Int32), vM))) else (some ((-1000000001 : Int32), vM))
set_option maxHeartbeats 4000000 in
set_option maxRecDepth 100000 in
theorem cX5_removeAsh_ok (l : Launch) (D : va_G) (ty : kTy) (adM : Nat → Nat) (sz : Nat) (vM : KM) (p1 : Int32) (res : Int32 × KM) (h : fX5_removeAsh vM p1 = some res) : kMI l yX5_removeAsh wsX5_removeAsh { frames := 2, cells := 0, slots := 0, locals := 44 } [.ref (adM 0), .int p1] D ty (wM ty adM vM) sz res.1 (wM ty adM res.2) := by
  refine Met.ofW (cc := cX5_removeAsh) (maxL := 2) (ret := (some .int)) (by decide) rfl ?_
  intro p e s m args below meth c s₁ B hml hv
  obtain ⟨rfl, hsz, hP, hK, hD0⟩ := hv
  have hx := B.exec
  have hb := B.bytes
  have hr := B.returns
  have hts := atoms_spec (ws := wsX5_removeAsh) B.pre
  have hown : s.vm.findClass RX5 = some m.cls := findClass_of_methodNamed B.named
  have hlocks := B.notSynchronized
  subst hsz
  have hD := hD0.self (sz := s.heap.size)
  generalize hAe : va_A (wM ty adM vM) s.heap.size = A at hD ⊢
  have hA : ∀ q : Nat, s.heap.size ≤ q → A q := fun q h => by rw [← hAe]; exact Or.inr h
  have hS : va_S A s.heap s.heap [] := va_S.rf
  refine kGenW (fun Q hQ => ?_)
  have wf0 := hts (.fieldLink RX5 7 "IceCoreDaterModel" "now" "[I") (by decide +kernel)
  have hinX5 : ∀ w ∈ wsX50, w ∈ wsX5_removeAsh := by decide +kernel
  have wf2 := hts (.constant RX5 105 (-1000000003)) (by decide +kernel)
  have wf3 := hts (.constant RX5 114 (-1000000001)) (by decide +kernel)
  have hl := lv_entry ([.ref (adM 0), .int p1]) (n := 2) (Nat.le_of_ble_eq_true rfl)
  rw [lg_entry_eq]
  generalize (lg_sl ([.ref (adM 0), .int p1]) ++ List.replicate (2 - (lg_sl ([.ref (adM 0), .int p1])).length) Slot.unset).toArray = ls at hl ⊢
  have hl : lv_has ls 2 [(0, .ref (adM 0)), (1, .int p1)] := hl
  unfold fX5_removeAsh at h
  have E0 : ∀ (H : Heap) (locs : List Loc) (ls : Array Slot), va_P D vwCl (wM ty adM vM) H → va_D A (wM ty adM vM) → va_S A s.heap H locs → lv_has ls 2 [(0, .ref (adM 0)), (1, .int p1)] → W p l e (headSpec wsX5_removeAsh { frames := 2, cells := 0, slots := 0, locals := 44 }).room s m ([.ref (adM 0), .int p1] : List Value).toArray below meth c H locs 0 0 Q (F0 m 0 ls []) := by
    intro H locs ls hP hD hS hl
    refine lv_aload_n hx hb dX5_removeAsh_0 rfl (lv_at hl 0 rfl) ?_
    refine lv_iload_n hx hb dX5_removeAsh_1 rfl (lv_at hl 1 rfl) ?_
    obtain ⟨r2, e2, h⟩ := kBd h
    refine kCallVI (As := [.int p1]) (rest := []) (wc := wM ty adM vM) (w1 := wM ty adM vM) (wn := wM ty adM vM) ⟨hx, hb, hml, hown, hts⟩ (cX5_isLayer_ok l D ty adM H.size vM p1 r2 e2) (cwV 1 hts gX5_removeAsh_X5_isLayer rfl rfl rfl (by decide +kernel) ⟨Nat.le_of_ble_eq_true rfl, Nat.le_of_ble_eq_true rfl⟩) hP hK hD hS hA [0, 1, 2, 3, 4, 5, 6] (by decide) rfl 5 0 rfl rfl rfl rfl hl.1 rfl (Nat.le_of_ble_eq_true rfl) dX5_removeAsh_2 ⟨Nat.le_of_ble_eq_true rfl, Nat.le_of_ble_eq_true rfl⟩ rfl rfl (fun H locs hP hD hS => ?_)
    refine lv_if_ne (tgt := 11) hx hb dX5_removeAsh_5 (by decide) (fun c5 => ?_) (fun c5 => ?_)
    · have h := kT h c5
      refine lv_aload_n hx hb dX5_removeAsh_11 rfl (lv_at hl 0 rfl) ?_
      refine lv_iload_n hx hb dX5_removeAsh_12 rfl (lv_at hl 1 rfl) ?_
      refine lv_bipush (v := 9) hx hb dX5_removeAsh_13 (by decide) ?_
      obtain ⟨r15, e15, h⟩ := kBd h
      refine kCallVI (As := [.int p1, .int (9 : Int32)]) (rest := []) (wc := wM ty adM vM) (w1 := wM ty adM vM) (wn := wM ty adM vM) ⟨hx, hb, hml, hown, hts⟩ (cX5_of_ok l D ty adM H.size vM p1 (9 : Int32) r15 e15) (cwV 2 hts gX5_removeAsh_X5_of rfl rfl rfl (by decide +kernel) ⟨Nat.le_of_ble_eq_true rfl, Nat.le_of_ble_eq_true rfl⟩) hP hK hD hS hA [0, 1, 2, 3, 4, 5, 6] (by decide) rfl 5 0 rfl rfl rfl rfl hl.1 rfl (Nat.le_of_ble_eq_true rfl) dX5_removeAsh_15 ⟨Nat.le_of_ble_eq_true rfl, Nat.le_of_ble_eq_true rfl⟩ rfl rfl (fun H locs hP hD hS => ?_)
      refine lv_if_ne (tgt := 24) hx hb dX5_removeAsh_18 (by decide) (fun c18 => ?_) (fun c18 => ?_)
      · have h := kT h c18
        refine lv_aload_n hx hb dX5_removeAsh_24 rfl (lv_at hl 0 rfl) ?_
        obtain ⟨r25, e25, h⟩ := kBd h
        refine kCallVV (As := []) (rest := []) (wc := wM ty adM vM) (w1 := wM ty adM r25) (wn := wM ty adM r25) ⟨hx, hb, hml, hown, hts⟩ (cX5_record_ok l D ty adM H.size vM r25 e25) (cwV 0 hts gX5_removeAsh_X5_record rfl rfl rfl (by decide +kernel) ⟨Nat.le_of_ble_eq_true rfl, Nat.le_of_ble_eq_true rfl⟩) hP hK hD hS hA [0, 1, 2, 3, 4, 5, 6] (by decide) rfl 5 0 rfl rfl rfl rfl hl.1 rfl (Nat.le_of_ble_eq_true rfl) dX5_removeAsh_25 ⟨Nat.le_of_ble_eq_true rfl, Nat.le_of_ble_eq_true rfl⟩ rfl rfl (fun H locs hP hD hS => ?_)
        refine lv_aload_n hx hb dX5_removeAsh_28 rfl (lv_at hl 0 rfl) ?_
        refine va_get (D := D) (ci := 5) (v := .ref (adM 1)) (C := RX5) (T := TX5) (N := 12) hx hb hts hinX5 hown hK.1 hP 0 rfl rfl 0 (by decide) wf0 (fun _ h9 => h9) rfl dX5_removeAsh_29 ?_
        refine lv_bipush (v := 8) hx hb dX5_removeAsh_32 (by decide) ?_
        refine lv_iload_n hx hb dX5_removeAsh_34 rfl (lv_at hl 1 rfl) ?_
        refine lv_imul hx hb dX5_removeAsh_35 ?_
        refine lv_bipush (v := 9) hx hb dX5_removeAsh_36 (by decide) ?_
        refine lv_iadd hx hb dX5_removeAsh_38 ?_
        refine lv_iconst (v := 0) hx hb dX5_removeAsh_39 (by decide) ?_
        obtain ⟨b40, h⟩ := kIf h
        refine va_iast (f := r25.2.2.2.2.2.2.1) (n := 133) hx hb hK.1 hP hD hS 1 0 rfl rfl (kIn_ok b40) dX5_removeAsh_40 (fun H locs hP hD hS => ?_)
        have hP : va_P D vwCl (wM ty adM (r25.1, r25.2.1, r25.2.2.1, r25.2.2.2.1, r25.2.2.2.2.1, r25.2.2.2.2.2.1, (upd r25.2.2.2.2.2.2.1 (((8 : Int32) * p1) + (9 : Int32)).toNatClampNeg (0 : Int32)), r25.2.2.2.2.2.2.2)) H := hP
        have hD : va_D A (wM ty adM (r25.1, r25.2.1, r25.2.2.1, r25.2.2.2.1, r25.2.2.2.2.1, r25.2.2.2.2.2.1, (upd r25.2.2.2.2.2.2.1 (((8 : Int32) * p1) + (9 : Int32)).toNatClampNeg (0 : Int32)), r25.2.2.2.2.2.2.2)) := hD
        refine lv_aload_n hx hb dX5_removeAsh_41 rfl (lv_at hl 0 rfl) ?_
        obtain ⟨r42, e42, h⟩ := kBd h
        refine kCallVI (As := []) (rest := []) (wc := wM ty adM (r25.1, r25.2.1, r25.2.2.1, r25.2.2.2.1, r25.2.2.2.2.1, r25.2.2.2.2.2.1, (upd r25.2.2.2.2.2.2.1 (((8 : Int32) * p1) + (9 : Int32)).toNatClampNeg (0 : Int32)), r25.2.2.2.2.2.2.2)) (w1 := wM ty adM (r25.1, r25.2.1, r25.2.2.1, r25.2.2.2.1, r25.2.2.2.2.1, r25.2.2.2.2.2.1, (upd r25.2.2.2.2.2.2.1 (((8 : Int32) * p1) + (9 : Int32)).toNatClampNeg (0 : Int32)), r25.2.2.2.2.2.2.2)) (wn := wM ty adM (r25.1, r25.2.1, r25.2.2.1, r25.2.2.2.1, r25.2.2.2.2.1, r25.2.2.2.2.2.1, (upd r25.2.2.2.2.2.2.1 (((8 : Int32) * p1) + (9 : Int32)).toNatClampNeg (0 : Int32)), r25.2.2.2.2.2.2.2)) ⟨hx, hb, hml, hown, hts⟩ (cX5_ashes_ok l D ty adM H.size (r25.1, r25.2.1, r25.2.2.1, r25.2.2.2.1, r25.2.2.2.2.1, r25.2.2.2.2.2.1, (upd r25.2.2.2.2.2.2.1 (((8 : Int32) * p1) + (9 : Int32)).toNatClampNeg (0 : Int32)), r25.2.2.2.2.2.2.2) r42 e42) (cwV 0 hts gX5_removeAsh_X5_ashes rfl rfl rfl (by decide +kernel) ⟨Nat.le_of_ble_eq_true rfl, Nat.le_of_ble_eq_true rfl⟩) hP hK hD hS hA [0, 1, 2, 3, 4, 5, 6] (by decide) rfl 5 0 rfl rfl rfl rfl hl.1 rfl (Nat.le_of_ble_eq_true rfl) dX5_removeAsh_42 ⟨Nat.le_of_ble_eq_true rfl, Nat.le_of_ble_eq_true rfl⟩ rfl rfl (fun H locs hP hD hS => ?_)
        obtain rfl := Option.some.inj h
        subst hQ
        exact W.iret (v := r42) hx hb hr (fun t ht hW => ⟨⟨r42, (), rfl, rfl, kEnd ht hP⟩, hS.F ht⟩) hS.2.2 dX5_removeAsh_45
      · have h := kF h (fun z => z c18)
        refine lv_ldc hx hb hown wf2 dX5_removeAsh_21 ?_
        obtain rfl := Option.some.inj h
        subst hQ
        exact W.iret (v := (-1000000003 : Int32)) hx hb hr (fun t ht hW => ⟨⟨(-1000000003 : Int32), (), rfl, rfl, kEnd ht hP⟩, hS.F ht⟩) hS.2.2 dX5_removeAsh_23
    · have h := kF h (fun z => z c5)
      refine lv_ldc hx hb hown wf3 dX5_removeAsh_8 ?_
      obtain rfl := Option.some.inj h
      subst hQ
      exact W.iret (v := (-1000000001 : Int32)) hx hb hr (fun t ht hW => ⟨⟨(-1000000001 : Int32), (), rfl, rfl, kEnd ht hP⟩, hS.F ht⟩) hS.2.2 dX5_removeAsh_10
  exact E0 s.heap [] ls hP hD hS hl
def fX5_setCount (vM : KM) (p1 : Int32) (p2 : Int32) : Option (Int32 × KM) := (fX5_isLayer vM p1).bind fun r2 => if ¬ r2 = (0 : Int32) then ((fX5_in p2 (1 : Int32) (1000000 : Int32)).bind fun r15 => if ¬ r15 = (0 : Int32) then ((fX5_record vM).bind fun r25 => if kIn (((8 : Int32) * p1) + (12 : Int32)) 133 = true then ((fX5_yearsOf (r25.1, r25.2.1, r25.2.2.1, r25.2.2.2.1, r25.2.2.2.2.1, r25.2.2.2.2.2.1, (upd r25.2.2.2.2.2.2.1 (((8 : Int32) * p1) + (12 : Int32)).toNatClampNeg p2), r25.2.2.2.2.2.2.2) p1).bind fun r43 => some ((r43 - p2), (r25.1, r25.2.1, r25.2.2.1, r25.2.2.2.1, r25.2.2.2.2.1, r25.2.2.2.2.2.1, (upd r25.2.2.2.2.2.2.1 (((8 : Int32) * p1) + (12 : Int32)).toNatClampNeg p2), r25.2.2.2.2.2.2.2))) else none) else (some ((-1000000002 : Int32), vM))) else (some ((-1000000001 : Int32), vM))
set_option maxHeartbeats 4000000 in
set_option maxRecDepth 100000 in
theorem cX5_setCount_ok (l : Launch) (D : va_G) (ty : kTy) (adM : Nat → Nat) (sz : Nat) (vM : KM) (p1 : Int32) (p2 : Int32) (res : Int32 × KM) (h : fX5_setCount vM p1 p2 = some res) : kMI l yX5_setCount wsX5_setCount { frames := 4, cells := 0, slots := 0, locals := 95 } [.ref (adM 0), .int p1, .int p2] D ty (wM ty adM vM) sz res.1 (wM ty adM res.2) := by
  refine Met.ofW (cc := cX5_setCount) (maxL := 3) (ret := (some .int)) (by decide) rfl ?_
  intro p e s m args below meth c s₁ B hml hv
  obtain ⟨rfl, hsz, hP, hK, hD0⟩ := hv
  have hx := B.exec
  have hb := B.bytes
  have hr := B.returns
  have hts := atoms_spec (ws := wsX5_setCount) B.pre
  have hown : s.vm.findClass RX5 = some m.cls := findClass_of_methodNamed B.named
  have hlocks := B.notSynchronized
  subst hsz
  have hD := hD0.self (sz := s.heap.size)
  generalize hAe : va_A (wM ty adM vM) s.heap.size = A at hD ⊢
  have hA : ∀ q : Nat, s.heap.size ≤ q → A q := fun q h => by rw [← hAe]; exact Or.inr h
  have hS : va_S A s.heap s.heap [] := va_S.rf
  refine kGenW (fun Q hQ => ?_)
  have wf0 := hts (.constant RX5 123 (1000000)) (by decide +kernel)
  have wf1 := hts (.fieldLink RX5 7 "IceCoreDaterModel" "now" "[I") (by decide +kernel)
  have hinX5 : ∀ w ∈ wsX50, w ∈ wsX5_setCount := by decide +kernel
  have wf3 := hts (.constant RX5 100 (-1000000002)) (by decide +kernel)
  have wf4 := hts (.constant RX5 114 (-1000000001)) (by decide +kernel)
  have hl := lv_entry ([.ref (adM 0), .int p1, .int p2]) (n := 3) (Nat.le_of_ble_eq_true rfl)
  rw [lg_entry_eq]
  generalize (lg_sl ([.ref (adM 0), .int p1, .int p2]) ++ List.replicate (3 - (lg_sl ([.ref (adM 0), .int p1, .int p2])).length) Slot.unset).toArray = ls at hl ⊢
  have hl : lv_has ls 3 [(0, .ref (adM 0)), (1, .int p1), (2, .int p2)] := hl
  unfold fX5_setCount at h
  have E0 : ∀ (H : Heap) (locs : List Loc) (ls : Array Slot), va_P D vwCl (wM ty adM vM) H → va_D A (wM ty adM vM) → va_S A s.heap H locs → lv_has ls 3 [(0, .ref (adM 0)), (1, .int p1), (2, .int p2)] → W p l e (headSpec wsX5_setCount { frames := 4, cells := 0, slots := 0, locals := 95 }).room s m ([.ref (adM 0), .int p1, .int p2] : List Value).toArray below meth c H locs 0 0 Q (F0 m 0 ls []) := by
    intro H locs ls hP hD hS hl
    refine lv_aload_n hx hb dX5_setCount_0 rfl (lv_at hl 0 rfl) ?_
    refine lv_iload_n hx hb dX5_setCount_1 rfl (lv_at hl 1 rfl) ?_
    obtain ⟨r2, e2, h⟩ := kBd h
    refine kCallVI (As := [.int p1]) (rest := []) (wc := wM ty adM vM) (w1 := wM ty adM vM) (wn := wM ty adM vM) ⟨hx, hb, hml, hown, hts⟩ (cX5_isLayer_ok l D ty adM H.size vM p1 r2 e2) (cwV 1 hts gX5_setCount_X5_isLayer rfl rfl rfl (by decide +kernel) ⟨Nat.le_of_ble_eq_true rfl, Nat.le_of_ble_eq_true rfl⟩) hP hK hD hS hA [0, 1, 2, 3, 4, 5, 6] (by decide) rfl 5 0 rfl rfl rfl rfl hl.1 rfl (Nat.le_of_ble_eq_true rfl) dX5_setCount_2 ⟨Nat.le_of_ble_eq_true rfl, Nat.le_of_ble_eq_true rfl⟩ rfl rfl (fun H locs hP hD hS => ?_)
    refine lv_if_ne (tgt := 11) hx hb dX5_setCount_5 (by decide) (fun c5 => ?_) (fun c5 => ?_)
    · have h := kT h c5
      refine lv_iload_n hx hb dX5_setCount_11 rfl (lv_at hl 2 rfl) ?_
      refine lv_iconst (v := 1) hx hb dX5_setCount_12 (by decide) ?_
      refine lv_ldc hx hb hown wf0 dX5_setCount_13 ?_
      obtain ⟨r15, e15, h⟩ := kBd h
      refine kCallSI (As := [.int p2, .int (1 : Int32), .int (1000000 : Int32)]) (rest := []) ⟨hx, hb, hml, hown, hts⟩ (cX5_in_ok l D ty  H.size p2 (1 : Int32) (1000000 : Int32) r15 e15) (va_cwS 3 hts gX5_setCount_X5_in rfl rfl rfl (by decide +kernel) ⟨Nat.le_of_ble_eq_true rfl, Nat.le_of_ble_eq_true rfl⟩) hP hK hD hS hA rfl hl.1 rfl (Nat.le_of_ble_eq_true rfl) dX5_setCount_15 ⟨Nat.le_of_ble_eq_true rfl, Nat.le_of_ble_eq_true rfl⟩ (fun H locs hP hS => ?_)
      refine lv_if_ne (tgt := 24) hx hb dX5_setCount_18 (by decide) (fun c18 => ?_) (fun c18 => ?_)
      · have h := kT h c18
        refine lv_aload_n hx hb dX5_setCount_24 rfl (lv_at hl 0 rfl) ?_
        obtain ⟨r25, e25, h⟩ := kBd h
        refine kCallVV (As := []) (rest := []) (wc := wM ty adM vM) (w1 := wM ty adM r25) (wn := wM ty adM r25) ⟨hx, hb, hml, hown, hts⟩ (cX5_record_ok l D ty adM H.size vM r25 e25) (cwV 0 hts gX5_setCount_X5_record rfl rfl rfl (by decide +kernel) ⟨Nat.le_of_ble_eq_true rfl, Nat.le_of_ble_eq_true rfl⟩) hP hK hD hS hA [0, 1, 2, 3, 4, 5, 6] (by decide) rfl 5 0 rfl rfl rfl rfl hl.1 rfl (Nat.le_of_ble_eq_true rfl) dX5_setCount_25 ⟨Nat.le_of_ble_eq_true rfl, Nat.le_of_ble_eq_true rfl⟩ rfl rfl (fun H locs hP hD hS => ?_)
        refine lv_aload_n hx hb dX5_setCount_28 rfl (lv_at hl 0 rfl) ?_
        refine va_get (D := D) (ci := 5) (v := .ref (adM 1)) (C := RX5) (T := TX5) (N := 12) hx hb hts hinX5 hown hK.1 hP 0 rfl rfl 0 (by decide) wf1 (fun _ h9 => h9) rfl dX5_setCount_29 ?_
        refine lv_bipush (v := 8) hx hb dX5_setCount_32 (by decide) ?_
        refine lv_iload_n hx hb dX5_setCount_34 rfl (lv_at hl 1 rfl) ?_
        refine lv_imul hx hb dX5_setCount_35 ?_
        refine lv_bipush (v := 12) hx hb dX5_setCount_36 (by decide) ?_
        refine lv_iadd hx hb dX5_setCount_38 ?_
        refine lv_iload_n hx hb dX5_setCount_39 rfl (lv_at hl 2 rfl) ?_
        obtain ⟨b40, h⟩ := kIf h
        refine va_iast (f := r25.2.2.2.2.2.2.1) (n := 133) hx hb hK.1 hP hD hS 1 0 rfl rfl (kIn_ok b40) dX5_setCount_40 (fun H locs hP hD hS => ?_)
        have hP : va_P D vwCl (wM ty adM (r25.1, r25.2.1, r25.2.2.1, r25.2.2.2.1, r25.2.2.2.2.1, r25.2.2.2.2.2.1, (upd r25.2.2.2.2.2.2.1 (((8 : Int32) * p1) + (12 : Int32)).toNatClampNeg p2), r25.2.2.2.2.2.2.2)) H := hP
        have hD : va_D A (wM ty adM (r25.1, r25.2.1, r25.2.2.1, r25.2.2.2.1, r25.2.2.2.2.1, r25.2.2.2.2.2.1, (upd r25.2.2.2.2.2.2.1 (((8 : Int32) * p1) + (12 : Int32)).toNatClampNeg p2), r25.2.2.2.2.2.2.2)) := hD
        refine lv_aload_n hx hb dX5_setCount_41 rfl (lv_at hl 0 rfl) ?_
        refine lv_iload_n hx hb dX5_setCount_42 rfl (lv_at hl 1 rfl) ?_
        obtain ⟨r43, e43, h⟩ := kBd h
        refine kCallVI (As := [.int p1]) (rest := []) (wc := wM ty adM (r25.1, r25.2.1, r25.2.2.1, r25.2.2.2.1, r25.2.2.2.2.1, r25.2.2.2.2.2.1, (upd r25.2.2.2.2.2.2.1 (((8 : Int32) * p1) + (12 : Int32)).toNatClampNeg p2), r25.2.2.2.2.2.2.2)) (w1 := wM ty adM (r25.1, r25.2.1, r25.2.2.1, r25.2.2.2.1, r25.2.2.2.2.1, r25.2.2.2.2.2.1, (upd r25.2.2.2.2.2.2.1 (((8 : Int32) * p1) + (12 : Int32)).toNatClampNeg p2), r25.2.2.2.2.2.2.2)) (wn := wM ty adM (r25.1, r25.2.1, r25.2.2.1, r25.2.2.2.1, r25.2.2.2.2.1, r25.2.2.2.2.2.1, (upd r25.2.2.2.2.2.2.1 (((8 : Int32) * p1) + (12 : Int32)).toNatClampNeg p2), r25.2.2.2.2.2.2.2)) ⟨hx, hb, hml, hown, hts⟩ (cX5_yearsOf_ok l D ty adM H.size (r25.1, r25.2.1, r25.2.2.1, r25.2.2.2.1, r25.2.2.2.2.1, r25.2.2.2.2.2.1, (upd r25.2.2.2.2.2.2.1 (((8 : Int32) * p1) + (12 : Int32)).toNatClampNeg p2), r25.2.2.2.2.2.2.2) p1 r43 e43) (cwV 1 hts gX5_setCount_X5_yearsOf rfl rfl rfl (by decide +kernel) ⟨Nat.le_of_ble_eq_true rfl, Nat.le_of_ble_eq_true rfl⟩) hP hK hD hS hA [0, 1, 2, 3, 4, 5, 6] (by decide) rfl 5 0 rfl rfl rfl rfl hl.1 rfl (Nat.le_of_ble_eq_true rfl) dX5_setCount_43 ⟨Nat.le_of_ble_eq_true rfl, Nat.le_of_ble_eq_true rfl⟩ rfl rfl (fun H locs hP hD hS => ?_)
        refine lv_iload_n hx hb dX5_setCount_46 rfl (lv_at hl 2 rfl) ?_
        refine lv_isub hx hb dX5_setCount_47 ?_
        obtain rfl := Option.some.inj h
        subst hQ
        exact W.iret (v := (r43 - p2)) hx hb hr (fun t ht hW => ⟨⟨(r43 - p2), (), rfl, rfl, kEnd ht hP⟩, hS.F ht⟩) hS.2.2 dX5_setCount_48
      · have h := kF h (fun z => z c18)
        refine lv_ldc hx hb hown wf3 dX5_setCount_21 ?_
        obtain rfl := Option.some.inj h
        subst hQ
        exact W.iret (v := (-1000000002 : Int32)) hx hb hr (fun t ht hW => ⟨⟨(-1000000002 : Int32), (), rfl, rfl, kEnd ht hP⟩, hS.F ht⟩) hS.2.2 dX5_setCount_23
    · have h := kF h (fun z => z c5)
      refine lv_ldc hx hb hown wf4 dX5_setCount_8 ?_
      obtain rfl := Option.some.inj h
      subst hQ
      exact W.iret (v := (-1000000001 : Int32)) hx hb hr (fun t ht hW => ⟨⟨(-1000000001 : Int32), (), rfl, rfl, kEnd ht hP⟩, hS.F ht⟩) hS.2.2 dX5_setCount_10
  exact E0 s.heap [] ls hP hD hS hl
def fX5_yearsWith_c6 (vM : KM) (x2 : Int32) (x3 : Int32) (x4 : Int64) (x6 : Int32) (nx6 : Int64 × Int32 → Option (Int64)) : Option (Int64) := if x2 < x6 then some x4 else ((fX5_of vM x6 (5 : Int32)).bind fun r18 => (fX5_of vM x6 (6 : Int32)).bind fun r27 => if kIn x6 16 = true then ((fX5_yearsBy r18.toInt64 r27.toInt64 x3.toInt64 ((vM.2.2.2.2.2.2.2.2.1 x6.toNatClampNeg).toInt64)).bind fun r41 => nx6 ((x4 + r41.toInt64), (x6 + 1))) else none)
def fX5_yearsWith (vM : KM) (p1 : Int32) (p2 : Int32) (p3 : Int32) : Option (Int64) := kLoopC kFu (fun q nx6 => fX5_yearsWith_c6 vM p2 p3 q.1 q.2 nx6) ((0 : Int64), p1)
set_option maxHeartbeats 4000000 in
set_option maxRecDepth 100000 in
theorem cX5_yearsWith_ok (l : Launch) (D : va_G) (ty : kTy) (adM : Nat → Nat) (sz : Nat) (vM : KM) (p1 : Int32) (p2 : Int32) (p3 : Int32) (res : Int64) (h : fX5_yearsWith vM p1 p2 p3 = some res) : kML l yX5_yearsWith wsX5_yearsWith { frames := 1, cells := 0, slots := 0, locals := 27 } [.ref (adM 0), .int p1, .int p2, .int p3] D ty (wM ty adM vM) sz res (wM ty adM vM) := by
  refine Met.ofW (cc := cX5_yearsWith) (maxL := 7) (ret := (some .long)) (by decide) rfl ?_
  intro p e s m args below meth c s₁ B hml hv
  obtain ⟨rfl, hsz, hP, hK, hD0⟩ := hv
  have hx := B.exec
  have hb := B.bytes
  have hr := B.returns
  have hts := atoms_spec (ws := wsX5_yearsWith) B.pre
  have hown : s.vm.findClass RX5 = some m.cls := findClass_of_methodNamed B.named
  have hlocks := B.notSynchronized
  subst hsz
  have hD := hD0.self (sz := s.heap.size)
  generalize hAe : va_A (wM ty adM vM) s.heap.size = A at hD ⊢
  have hA : ∀ q : Nat, s.heap.size ≤ q → A q := fun q h => by rw [← hAe]; exact Or.inr h
  have hS : va_S A s.heap s.heap [] := va_S.rf
  refine kGenW (fun Q hQ => ?_)
  have wf0 := hts (.fieldLink RX5 16 "IceCoreDaterModel" "thinnings" "[I") (by decide +kernel)
  have hinX5 : ∀ w ∈ wsX50, w ∈ wsX5_yearsWith := by decide +kernel
  have B6 : ∀ (x2 : Int32) (x3 : Int32) (nx6 : Int64 × Int32 → Option (Int64)) (hn6 : ∀ (x4 : Int64) (x6 : Int32), nx6 (x4, x6) = some res → ∀ (H : Heap) (locs : List Loc) (ls : Array Slot), va_P D vwCl (wM ty adM vM) H → va_D A (wM ty adM vM) → va_S A s.heap H locs → lv_has ls 7 [(0, .ref (adM 0)), (2, .int x2), (3, .int x3), (4, .long x4), (6, .int x6)] → W p l e (headSpec wsX5_yearsWith { frames := 1, cells := 0, slots := 0, locals := 27 }).room s m ([.ref (adM 0), .int p1, .int p2, .int p3] : List Value).toArray below meth c H locs 0 0 Q (F0 m 6 ls [])) (x4 : Int64) (x6 : Int32), fX5_yearsWith_c6 vM x2 x3 x4 x6 nx6 = some res → ∀ (H : Heap) (locs : List Loc) (ls : Array Slot), va_P D vwCl (wM ty adM vM) H → va_D A (wM ty adM vM) → va_S A s.heap H locs → lv_has ls 7 [(0, .ref (adM 0)), (2, .int x2), (3, .int x3), (4, .long x4), (6, .int x6)] → W p l e (headSpec wsX5_yearsWith { frames := 1, cells := 0, slots := 0, locals := 27 }).room s m ([.ref (adM 0), .int p1, .int p2, .int p3] : List Value).toArray below meth c H locs 0 0 Q (F0 m 6 ls []) := by
    intro x2 x3 nx6 hn6 x4 x6 h H locs ls hP hD hS hl
    unfold fX5_yearsWith_c6 at h
    refine lv_iload hx hb dX5_yearsWith_6 (lv_at hl 4 rfl) ?_
    refine lv_iload_n hx hb dX5_yearsWith_8 rfl (lv_at hl 1 rfl) ?_
    refine lv_icmp_gt (tgt := 54) hx hb dX5_yearsWith_9 (by decide) (fun c9 => ?_) (fun c9 => ?_)
    · have h := kT h c9
      refine lv_lload hx hb dX5_yearsWith_54 (lv_at hl 3 rfl) ?_
      obtain rfl := Option.some.inj h
      subst hQ
      exact W.lret (v := x4) hx hb hr (fun t ht hW => ⟨⟨x4, (), rfl, rfl, kEnd ht hP⟩, hS.F ht⟩) hS.2.2 dX5_yearsWith_56
    · have h := kF h c9
      refine lv_lload hx hb dX5_yearsWith_12 (lv_at hl 3 rfl) ?_
      refine lv_aload_n hx hb dX5_yearsWith_14 rfl (lv_at hl 0 rfl) ?_
      refine lv_iload hx hb dX5_yearsWith_15 (lv_at hl 4 rfl) ?_
      refine lv_iconst (v := 5) hx hb dX5_yearsWith_17 (by decide) ?_
      obtain ⟨r18, e18, h⟩ := kBd h
      refine kCallVI (As := [.int x6, .int (5 : Int32)]) (rest := [.long x4]) (wc := wM ty adM vM) (w1 := wM ty adM vM) (wn := wM ty adM vM) ⟨hx, hb, hml, hown, hts⟩ (cX5_of_ok l D ty adM H.size vM x6 (5 : Int32) r18 e18) (cwV 2 hts gX5_yearsWith_X5_of rfl rfl rfl (by decide +kernel) ⟨Nat.le_of_ble_eq_true rfl, Nat.le_of_ble_eq_true rfl⟩) hP hK hD hS hA [0, 1, 2, 3, 4, 5, 6] (by decide) rfl 5 0 rfl rfl rfl rfl hl.1 rfl (Nat.le_of_ble_eq_true rfl) dX5_yearsWith_18 ⟨Nat.le_of_ble_eq_true rfl, Nat.le_of_ble_eq_true rfl⟩ rfl rfl (fun H locs hP hD hS => ?_)
      refine lv_i2l hx hb dX5_yearsWith_21 rfl ?_
      refine lv_aload_n hx hb dX5_yearsWith_22 rfl (lv_at hl 0 rfl) ?_
      refine lv_iload hx hb dX5_yearsWith_23 (lv_at hl 4 rfl) ?_
      refine lv_bipush (v := 6) hx hb dX5_yearsWith_25 (by decide) ?_
      obtain ⟨r27, e27, h⟩ := kBd h
      refine kCallVI (As := [.int x6, .int (6 : Int32)]) (rest := [.long r18.toInt64, .long x4]) (wc := wM ty adM vM) (w1 := wM ty adM vM) (wn := wM ty adM vM) ⟨hx, hb, hml, hown, hts⟩ (cX5_of_ok l D ty adM H.size vM x6 (6 : Int32) r27 e27) (cwV 2 hts gX5_yearsWith_X5_of rfl rfl rfl (by decide +kernel) ⟨Nat.le_of_ble_eq_true rfl, Nat.le_of_ble_eq_true rfl⟩) hP hK hD hS hA [0, 1, 2, 3, 4, 5, 6] (by decide) rfl 5 0 rfl rfl rfl rfl hl.1 rfl (Nat.le_of_ble_eq_true rfl) dX5_yearsWith_27 ⟨Nat.le_of_ble_eq_true rfl, Nat.le_of_ble_eq_true rfl⟩ rfl rfl (fun H locs hP hD hS => ?_)
      refine lv_i2l hx hb dX5_yearsWith_30 rfl ?_
      refine lv_iload_n hx hb dX5_yearsWith_31 rfl (lv_at hl 2 rfl) ?_
      refine lv_i2l hx hb dX5_yearsWith_32 rfl ?_
      refine lv_aload_n hx hb dX5_yearsWith_33 rfl (lv_at hl 0 rfl) ?_
      refine va_get (D := D) (ci := 5) (v := .ref (adM 3)) (C := RX5) (T := TX5) (N := 12) hx hb hts hinX5 hown hK.1 hP 0 rfl rfl 5 (by decide) wf0 (fun _ h9 => h9) rfl dX5_yearsWith_34 ?_
      refine lv_iload hx hb dX5_yearsWith_37 (lv_at hl 4 rfl) ?_
      obtain ⟨b39, h⟩ := kIf h
      refine va_iald (f := vM.2.2.2.2.2.2.2.2.1) (n := 16) hx hb hK.1 hP 3 0 rfl rfl (kIn_ok b39) dX5_yearsWith_39 ?_
      refine lv_i2l hx hb dX5_yearsWith_40 rfl ?_
      obtain ⟨r41, e41, h⟩ := kBd h
      refine kCallSI (As := [.long r18.toInt64, .long r27.toInt64, .long x3.toInt64, .long (vM.2.2.2.2.2.2.2.2.1 x6.toNatClampNeg).toInt64]) (rest := [.long x4]) ⟨hx, hb, hml, hown, hts⟩ (cX5_yearsBy_ok l D ty  H.size r18.toInt64 r27.toInt64 x3.toInt64 ((vM.2.2.2.2.2.2.2.2.1 x6.toNatClampNeg).toInt64) r41 e41) (va_cwS 4 hts gX5_yearsWith_X5_yearsBy rfl rfl rfl (by decide +kernel) ⟨Nat.le_of_ble_eq_true rfl, Nat.le_of_ble_eq_true rfl⟩) hP hK hD hS hA rfl hl.1 rfl (Nat.le_of_ble_eq_true rfl) dX5_yearsWith_41 ⟨Nat.le_of_ble_eq_true rfl, Nat.le_of_ble_eq_true rfl⟩ (fun H locs hP hS => ?_)
      refine lv_i2l hx hb dX5_yearsWith_44 rfl ?_
      refine lv_ladd hx hb dX5_yearsWith_45 ?_
      refine lv_lstore (lv' := [(4, .long (x4 + r41.toInt64)), (0, .ref (adM 0)), (2, .int x2), (3, .int x3), (6, .int x6)]) hx hb dX5_yearsWith_46 hl (by decide) rfl (fun ls hl => ?_)
      refine lv_iinc (v := (x6 + 1)) (lv' := [(6, .int (x6 + 1)), (4, .long (x4 + r41.toInt64)), (0, .ref (adM 0)), (2, .int x2), (3, .int x3)]) hx hb dX5_yearsWith_48 hl (k := 4) rfl rfl (by decide) rfl (fun ls hl => ?_)
      refine lv_goto (tgt := 6) hx hb dX5_yearsWith_51 (by decide) ?_
      exact hn6 (x4 + r41.toInt64) (x6 + 1) h H locs ls hP hD hS (lv_sub hl [2, 3, 4, 1, 0] rfl)
  have L6 : ∀ (x2 : Int32) (x3 : Int32) (n : Nat) (x4 : Int64) (x6 : Int32), kLoopC n (fun q nx6 => fX5_yearsWith_c6 vM x2 x3 q.1 q.2 nx6) (x4, x6) = some res → ∀ (H : Heap) (locs : List Loc) (ls : Array Slot), va_P D vwCl (wM ty adM vM) H → va_D A (wM ty adM vM) → va_S A s.heap H locs → lv_has ls 7 [(0, .ref (adM 0)), (2, .int x2), (3, .int x3), (4, .long x4), (6, .int x6)] → W p l e (headSpec wsX5_yearsWith { frames := 1, cells := 0, slots := 0, locals := 27 }).room s m ([.ref (adM 0), .int p1, .int p2, .int p3] : List Value).toArray below meth c H locs 0 0 Q (F0 m 6 ls []) := by
    intro x2 x3 n
    induction n with
    | zero => intro x4 x6 h; exact absurd h (by simp [kLoopC])
    | succ n ih => intro x4 x6 h; exact B6 x2 x3 (kLoopC n (fun q nx6 => fX5_yearsWith_c6 vM x2 x3 q.1 q.2 nx6)) ih x4 x6 h
  have hl := lv_entry ([.ref (adM 0), .int p1, .int p2, .int p3]) (n := 7) (Nat.le_of_ble_eq_true rfl)
  rw [lg_entry_eq]
  generalize (lg_sl ([.ref (adM 0), .int p1, .int p2, .int p3]) ++ List.replicate (7 - (lg_sl ([.ref (adM 0), .int p1, .int p2, .int p3])).length) Slot.unset).toArray = ls at hl ⊢
  have hl : lv_has ls 7 [(0, .ref (adM 0)), (1, .int p1), (2, .int p2), (3, .int p3)] := hl
  unfold fX5_yearsWith at h
  have E0 : ∀ (H : Heap) (locs : List Loc) (ls : Array Slot), va_P D vwCl (wM ty adM vM) H → va_D A (wM ty adM vM) → va_S A s.heap H locs → lv_has ls 7 [(0, .ref (adM 0)), (1, .int p1), (2, .int p2), (3, .int p3)] → W p l e (headSpec wsX5_yearsWith { frames := 1, cells := 0, slots := 0, locals := 27 }).room s m ([.ref (adM 0), .int p1, .int p2, .int p3] : List Value).toArray below meth c H locs 0 0 Q (F0 m 0 ls []) := by
    intro H locs ls hP hD hS hl
    refine lv_lconst (v := 0) hx hb dX5_yearsWith_0 (by decide) ?_
    refine lv_lstore (lv' := [(4, .long (0 : Int64)), (0, .ref (adM 0)), (1, .int p1), (2, .int p2), (3, .int p3)]) hx hb dX5_yearsWith_1 hl (by decide) rfl (fun ls hl => ?_)
    refine lv_iload_n hx hb dX5_yearsWith_3 rfl (lv_at hl 2 rfl) ?_
    refine lv_istore (lv' := [(6, .int p1), (4, .long (0 : Int64)), (0, .ref (adM 0)), (1, .int p1), (2, .int p2), (3, .int p3)]) hx hb dX5_yearsWith_4 hl (by decide) rfl (fun ls hl => ?_)
    exact L6 p2 p3  kFu (0 : Int64) p1 h H locs ls hP hD hS (lv_sub hl [2, 4, 5, 1, 0] rfl)
  exact E0 s.heap [] ls hP hD hS hl
def fX5_tuneSegment_c92 (uM : KM) (x2 : Int32) (x5 : Int32) (x8 : Int32) (nx92 : KM × Int32 → Option (KM)) : Option (KM) := if x2 < x8 then some uM else (if kIn (((8 : Int32) * x8) + (7 : Int32)) 133 = true then (nx92 ((uM.1, uM.2.1, uM.2.2.1, uM.2.2.2.1, uM.2.2.2.2.1, uM.2.2.2.2.2.1, (upd uM.2.2.2.2.2.2.1 (((8 : Int32) * x8) + (7 : Int32)).toNatClampNeg x5), uM.2.2.2.2.2.2.2), (x8 + 1))) else none)
def fX5_tuneSegment_c26 (uM : KM) (x1 : Int32) (x2 : Int32) (x3 : Int64) (x5 : Int32) (x6 : Int64) (x8 : Int32) (nx26 : Int32 × Int64 × Int32 → Option (KM)) : Option (KM) := if (5000 : Int32) < x8 then (kLoopC kFu (fun q nx92 => fX5_tuneSegment_c92 q.1 x2 x5 q.2 nx92) (uM, x1)) else ((fX5_yearsWith uM x1 x2 x8).bind fun r39 => (fX5_size (r39 - x3)).bind fun r44 => if x6 ≤ r44 then (if x6 ≤ r44 then (nx26 (x5, x6, (x8 + 1))) else (nx26 (x5, r44, (x8 + 1)))) else (if x6 ≤ r44 then (nx26 (x8, x6, (x8 + 1))) else (nx26 (x8, r44, (x8 + 1)))))
def fX5_tuneSegment (vM : KM) (p1 : Int32) (p2 : Int32) (p3 : Int64) : Option (KM) := (fX5_yearsWith vM p1 p2 (200 : Int32)).bind fun r11 => (fX5_size (r11 - p3)).bind fun r16 => kLoopC kFu (fun q nx26 => fX5_tuneSegment_c26 vM p1 p2 p3 q.1 q.2.1 q.2.2 nx26) ((200 : Int32), r16, (201 : Int32))
set_option maxHeartbeats 4000000 in
set_option maxRecDepth 100000 in
theorem cX5_tuneSegment_ok (l : Launch) (D : va_G) (ty : kTy) (adM : Nat → Nat) (sz : Nat) (vM : KM) (p1 : Int32) (p2 : Int32) (p3 : Int64) (res : KM) (h : fX5_tuneSegment vM p1 p2 p3 = some res) : kMV l yX5_tuneSegment wsX5_tuneSegment { frames := 2, cells := 0, slots := 0, locals := 53 } [.ref (adM 0), .int p1, .int p2, .long p3] D ty (wM ty adM vM) sz (wM ty adM res) := by
  refine Met.ofW (cc := cX5_tuneSegment) (maxL := 11) (ret := none) (by decide) rfl ?_
  intro p e s m args below meth c s₁ B hml hv
  obtain ⟨rfl, hsz, hP, hK, hD0⟩ := hv
  have hx := B.exec
  have hb := B.bytes
  have hr := B.returns
  have hts := atoms_spec (ws := wsX5_tuneSegment) B.pre
  have hown : s.vm.findClass RX5 = some m.cls := findClass_of_methodNamed B.named
  have hlocks := B.notSynchronized
  subst hsz
  have hD := hD0.self (sz := s.heap.size)
  generalize hAe : va_A (wM ty adM vM) s.heap.size = A at hD ⊢
  have hA : ∀ q : Nat, s.heap.size ≤ q → A q := fun q h => by rw [← hAe]; exact Or.inr h
  have hS : va_S A s.heap s.heap [] := va_S.rf
  refine kGenW (fun Q hQ => ?_)
  have wf0 := hts (.fieldLink RX5 7 "IceCoreDaterModel" "now" "[I") (by decide +kernel)
  have hinX5 : ∀ w ∈ wsX50, w ∈ wsX5_tuneSegment := by decide +kernel
  have B92 : ∀ (x2 : Int32) (x5 : Int32) (nx92 : KM × Int32 → Option (KM)) (hn92 : ∀ (uM : KM) (x8 : Int32), nx92 (uM, x8) = some res → ∀ (H : Heap) (locs : List Loc) (ls : Array Slot), va_P D vwCl (wM ty adM uM) H → va_D A (wM ty adM uM) → va_S A s.heap H locs → lv_has ls 11 [(0, .ref (adM 0)), (2, .int x2), (5, .int x5), (8, .int x8)] → W p l e (headSpec wsX5_tuneSegment { frames := 2, cells := 0, slots := 0, locals := 53 }).room s m ([.ref (adM 0), .int p1, .int p2, .long p3] : List Value).toArray below meth c H locs 0 0 Q (F0 m 92 ls [])) (uM : KM) (x8 : Int32), fX5_tuneSegment_c92 uM x2 x5 x8 nx92 = some res → ∀ (H : Heap) (locs : List Loc) (ls : Array Slot), va_P D vwCl (wM ty adM uM) H → va_D A (wM ty adM uM) → va_S A s.heap H locs → lv_has ls 11 [(0, .ref (adM 0)), (2, .int x2), (5, .int x5), (8, .int x8)] → W p l e (headSpec wsX5_tuneSegment { frames := 2, cells := 0, slots := 0, locals := 53 }).room s m ([.ref (adM 0), .int p1, .int p2, .long p3] : List Value).toArray below meth c H locs 0 0 Q (F0 m 92 ls []) := by
    intro x2 x5 nx92 hn92 uM x8 h H locs ls hP hD hS hl
    unfold fX5_tuneSegment_c92 at h
    refine lv_iload hx hb dX5_tuneSegment_92 (lv_at hl 3 rfl) ?_
    refine lv_iload_n hx hb dX5_tuneSegment_94 rfl (lv_at hl 1 rfl) ?_
    refine lv_icmp_gt (tgt := 119) hx hb dX5_tuneSegment_95 (by decide) (fun c95 => ?_) (fun c95 => ?_)
    · have h := kT h c95
      obtain rfl := Option.some.inj h
      subst hQ
      exact W.vret hx hb hr (fun t ht hW => ⟨⟨(), rfl, trivial, kEnd ht hP⟩, hS.F ht⟩) hS.2.2 dX5_tuneSegment_119
    · have h := kF h c95
      refine lv_aload_n hx hb dX5_tuneSegment_98 rfl (lv_at hl 0 rfl) ?_
      refine va_get (D := D) (ci := 5) (v := .ref (adM 1)) (C := RX5) (T := TX5) (N := 12) hx hb hts hinX5 hown hK.1 hP 0 rfl rfl 0 (by decide) wf0 (fun _ h9 => h9) rfl dX5_tuneSegment_99 ?_
      refine lv_bipush (v := 8) hx hb dX5_tuneSegment_102 (by decide) ?_
      refine lv_iload hx hb dX5_tuneSegment_104 (lv_at hl 3 rfl) ?_
      refine lv_imul hx hb dX5_tuneSegment_106 ?_
      refine lv_bipush (v := 7) hx hb dX5_tuneSegment_107 (by decide) ?_
      refine lv_iadd hx hb dX5_tuneSegment_109 ?_
      refine lv_iload hx hb dX5_tuneSegment_110 (lv_at hl 2 rfl) ?_
      obtain ⟨b112, h⟩ := kIf h
      refine va_iast (f := uM.2.2.2.2.2.2.1) (n := 133) hx hb hK.1 hP hD hS 1 0 rfl rfl (kIn_ok b112) dX5_tuneSegment_112 (fun H locs hP hD hS => ?_)
      have hP : va_P D vwCl (wM ty adM (uM.1, uM.2.1, uM.2.2.1, uM.2.2.2.1, uM.2.2.2.2.1, uM.2.2.2.2.2.1, (upd uM.2.2.2.2.2.2.1 (((8 : Int32) * x8) + (7 : Int32)).toNatClampNeg x5), uM.2.2.2.2.2.2.2)) H := hP
      have hD : va_D A (wM ty adM (uM.1, uM.2.1, uM.2.2.1, uM.2.2.2.1, uM.2.2.2.2.1, uM.2.2.2.2.2.1, (upd uM.2.2.2.2.2.2.1 (((8 : Int32) * x8) + (7 : Int32)).toNatClampNeg x5), uM.2.2.2.2.2.2.2)) := hD
      refine lv_iinc (v := (x8 + 1)) (lv' := [(8, .int (x8 + 1)), (0, .ref (adM 0)), (2, .int x2), (5, .int x5)]) hx hb dX5_tuneSegment_113 hl (k := 3) rfl rfl (by decide) rfl (fun ls hl => ?_)
      refine lv_goto (tgt := 92) hx hb dX5_tuneSegment_116 (by decide) ?_
      exact hn92 (uM.1, uM.2.1, uM.2.2.1, uM.2.2.2.1, uM.2.2.2.2.1, uM.2.2.2.2.2.1, (upd uM.2.2.2.2.2.2.1 (((8 : Int32) * x8) + (7 : Int32)).toNatClampNeg x5), uM.2.2.2.2.2.2.2) (x8 + 1) h H locs ls hP hD hS (lv_sub hl [1, 2, 3, 0] rfl)
  have L92 : ∀ (x2 : Int32) (x5 : Int32) (n : Nat) (uM : KM) (x8 : Int32), kLoopC n (fun q nx92 => fX5_tuneSegment_c92 q.1 x2 x5 q.2 nx92) (uM, x8) = some res → ∀ (H : Heap) (locs : List Loc) (ls : Array Slot), va_P D vwCl (wM ty adM uM) H → va_D A (wM ty adM uM) → va_S A s.heap H locs → lv_has ls 11 [(0, .ref (adM 0)), (2, .int x2), (5, .int x5), (8, .int x8)] → W p l e (headSpec wsX5_tuneSegment { frames := 2, cells := 0, slots := 0, locals := 53 }).room s m ([.ref (adM 0), .int p1, .int p2, .long p3] : List Value).toArray below meth c H locs 0 0 Q (F0 m 92 ls []) := by
    intro x2 x5 n
    induction n with
    | zero => intro uM x8 h; exact absurd h (by simp [kLoopC])
    | succ n ih => intro uM x8 h; exact B92 x2 x5 (kLoopC n (fun q nx92 => fX5_tuneSegment_c92 q.1 x2 x5 q.2 nx92)) ih uM x8 h
  have B26 : ∀ (uM : KM) (x1 : Int32) (x2 : Int32) (x3 : Int64) (nx26 : Int32 × Int64 × Int32 → Option (KM)) (hn26 : ∀ (x5 : Int32) (x6 : Int64) (x8 : Int32), nx26 (x5, x6, x8) = some res → ∀ (H : Heap) (locs : List Loc) (ls : Array Slot), va_P D vwCl (wM ty adM uM) H → va_D A (wM ty adM uM) → va_S A s.heap H locs → lv_has ls 11 [(0, .ref (adM 0)), (1, .int x1), (2, .int x2), (3, .long x3), (5, .int x5), (6, .long x6), (8, .int x8)] → W p l e (headSpec wsX5_tuneSegment { frames := 2, cells := 0, slots := 0, locals := 53 }).room s m ([.ref (adM 0), .int p1, .int p2, .long p3] : List Value).toArray below meth c H locs 0 0 Q (F0 m 26 ls [])) (x5 : Int32) (x6 : Int64) (x8 : Int32), fX5_tuneSegment_c26 uM x1 x2 x3 x5 x6 x8 nx26 = some res → ∀ (H : Heap) (locs : List Loc) (ls : Array Slot), va_P D vwCl (wM ty adM uM) H → va_D A (wM ty adM uM) → va_S A s.heap H locs → lv_has ls 11 [(0, .ref (adM 0)), (1, .int x1), (2, .int x2), (3, .long x3), (5, .int x5), (6, .long x6), (8, .int x8)] → W p l e (headSpec wsX5_tuneSegment { frames := 2, cells := 0, slots := 0, locals := 53 }).room s m ([.ref (adM 0), .int p1, .int p2, .long p3] : List Value).toArray below meth c H locs 0 0 Q (F0 m 26 ls []) := by
    intro uM x1 x2 x3 nx26 hn26 x5 x6 x8 h H locs ls hP hD hS hl
    unfold fX5_tuneSegment_c26 at h
    refine lv_iload hx hb dX5_tuneSegment_26 (lv_at hl 6 rfl) ?_
    refine lv_sipush (v := 5000) hx hb dX5_tuneSegment_28 (by decide) ?_
    refine lv_icmp_gt (tgt := 89) hx hb dX5_tuneSegment_31 (by decide) (fun c31 => ?_) (fun c31 => ?_)
    · have h := kT h c31
      refine lv_iload_n hx hb dX5_tuneSegment_89 rfl (lv_at hl 1 rfl) ?_
      refine lv_istore (lv' := [(8, .int x1), (0, .ref (adM 0)), (1, .int x1), (2, .int x2), (3, .long x3), (5, .int x5), (6, .long x6)]) hx hb dX5_tuneSegment_90 hl (by decide) rfl (fun ls hl => ?_)
      exact L92 x2 x5  kFu uM x1 h H locs ls hP hD hS (lv_sub hl [1, 3, 5, 0] rfl)
    · have h := kF h c31
      refine lv_aload_n hx hb dX5_tuneSegment_34 rfl (lv_at hl 0 rfl) ?_
      refine lv_iload_n hx hb dX5_tuneSegment_35 rfl (lv_at hl 1 rfl) ?_
      refine lv_iload_n hx hb dX5_tuneSegment_36 rfl (lv_at hl 2 rfl) ?_
      refine lv_iload hx hb dX5_tuneSegment_37 (lv_at hl 6 rfl) ?_
      obtain ⟨r39, e39, h⟩ := kBd h
      refine kCallVL (As := [.int x1, .int x2, .int x8]) (rest := []) (wc := wM ty adM uM) (w1 := wM ty adM uM) (wn := wM ty adM uM) ⟨hx, hb, hml, hown, hts⟩ (cX5_yearsWith_ok l D ty adM H.size uM x1 x2 x8 r39 e39) (cwV 3 hts gX5_tuneSegment_X5_yearsWith rfl rfl rfl (by decide +kernel) ⟨Nat.le_of_ble_eq_true rfl, Nat.le_of_ble_eq_true rfl⟩) hP hK hD hS hA [0, 1, 2, 3, 4, 5, 6] (by decide) rfl 5 0 rfl rfl rfl rfl hl.1 rfl (Nat.le_of_ble_eq_true rfl) dX5_tuneSegment_39 ⟨Nat.le_of_ble_eq_true rfl, Nat.le_of_ble_eq_true rfl⟩ rfl rfl (fun H locs hP hD hS => ?_)
      refine lv_lload_n hx hb dX5_tuneSegment_42 rfl (lv_at hl 3 rfl) ?_
      refine lv_lsub hx hb dX5_tuneSegment_43 ?_
      obtain ⟨r44, e44, h⟩ := kBd h
      refine kCallSL (As := [.long (r39 - x3)]) (rest := []) ⟨hx, hb, hml, hown, hts⟩ (cX5_size_ok l D ty  H.size (r39 - x3) r44 e44) (va_cwS 1 hts gX5_tuneSegment_X5_size rfl rfl rfl (by decide +kernel) ⟨Nat.le_of_ble_eq_true rfl, Nat.le_of_ble_eq_true rfl⟩) hP hK hD hS hA rfl hl.1 rfl (Nat.le_of_ble_eq_true rfl) dX5_tuneSegment_44 ⟨Nat.le_of_ble_eq_true rfl, Nat.le_of_ble_eq_true rfl⟩ (fun H locs hP hS => ?_)
      refine lv_lstore (lv' := [(9, .long r44), (0, .ref (adM 0)), (1, .int x1), (2, .int x2), (3, .long x3), (5, .int x5), (6, .long x6), (8, .int x8)]) hx hb dX5_tuneSegment_47 hl (by decide) rfl (fun ls hl => ?_)
      refine lv_lload hx hb dX5_tuneSegment_49 (lv_at hl 0 rfl) ?_
      refine lv_lload hx hb dX5_tuneSegment_51 (lv_at hl 6 rfl) ?_
      refine W.lcmp hx hb dX5_tuneSegment_53 ?_
      refine lv_if_ge (tgt := 62) hx hb dX5_tuneSegment_54 (by decide) (fun c54 => ?_) (fun c54 => ?_)
      · have h := kT h ((lg_cmp_ge _ _).mp c54)
        refine lv_iload hx hb dX5_tuneSegment_62 (lv_at hl 5 rfl) ?_
        refine lv_istore (lv' := [(5, .int x5), (9, .long r44), (0, .ref (adM 0)), (1, .int x1), (2, .int x2), (3, .long x3), (6, .long x6), (8, .int x8)]) hx hb dX5_tuneSegment_64 hl (by decide) rfl (fun ls hl => ?_)
        refine lv_lload hx hb dX5_tuneSegment_66 (lv_at hl 1 rfl) ?_
        refine lv_lload hx hb dX5_tuneSegment_68 (lv_at hl 6 rfl) ?_
        refine W.lcmp hx hb dX5_tuneSegment_70 ?_
        refine lv_if_ge (tgt := 79) hx hb dX5_tuneSegment_71 (by decide) (fun c71 => ?_) (fun c71 => ?_)
        · have h := kT h ((lg_cmp_ge _ _).mp c71)
          refine lv_lload hx hb dX5_tuneSegment_79 (lv_at hl 6 rfl) ?_
          refine lv_lstore (lv' := [(6, .long x6), (5, .int x5), (9, .long r44), (0, .ref (adM 0)), (1, .int x1), (2, .int x2), (3, .long x3), (8, .int x8)]) hx hb dX5_tuneSegment_81 hl (by decide) rfl (fun ls hl => ?_)
          refine lv_iinc (v := (x8 + 1)) (lv' := [(8, .int (x8 + 1)), (6, .long x6), (5, .int x5), (9, .long r44), (0, .ref (adM 0)), (1, .int x1), (2, .int x2), (3, .long x3)]) hx hb dX5_tuneSegment_83 hl (k := 7) rfl rfl (by decide) rfl (fun ls hl => ?_)
          refine lv_goto (tgt := 26) hx hb dX5_tuneSegment_86 (by decide) ?_
          exact hn26 x5 x6 (x8 + 1) h H locs ls hP hD hS (lv_sub hl [4, 5, 6, 7, 2, 1, 0] rfl)
        · have h := kF h (fun z => c71 ((lg_cmp_ge _ _).mpr z))
          refine lv_lload hx hb dX5_tuneSegment_74 (lv_at hl 1 rfl) ?_
          refine lv_goto (tgt := 81) hx hb dX5_tuneSegment_76 (by decide) ?_
          refine lv_lstore (lv' := [(6, .long r44), (5, .int x5), (9, .long r44), (0, .ref (adM 0)), (1, .int x1), (2, .int x2), (3, .long x3), (8, .int x8)]) hx hb dX5_tuneSegment_81 hl (by decide) rfl (fun ls hl => ?_)
          refine lv_iinc (v := (x8 + 1)) (lv' := [(8, .int (x8 + 1)), (6, .long r44), (5, .int x5), (9, .long r44), (0, .ref (adM 0)), (1, .int x1), (2, .int x2), (3, .long x3)]) hx hb dX5_tuneSegment_83 hl (k := 7) rfl rfl (by decide) rfl (fun ls hl => ?_)
          refine lv_goto (tgt := 26) hx hb dX5_tuneSegment_86 (by decide) ?_
          exact hn26 x5 r44 (x8 + 1) h H locs ls hP hD hS (lv_sub hl [4, 5, 6, 7, 2, 1, 0] rfl)
      · have h := kF h (fun z => c54 ((lg_cmp_ge _ _).mpr z))
        refine lv_iload hx hb dX5_tuneSegment_57 (lv_at hl 7 rfl) ?_
        refine lv_goto (tgt := 64) hx hb dX5_tuneSegment_59 (by decide) ?_
        refine lv_istore (lv' := [(5, .int x8), (9, .long r44), (0, .ref (adM 0)), (1, .int x1), (2, .int x2), (3, .long x3), (6, .long x6), (8, .int x8)]) hx hb dX5_tuneSegment_64 hl (by decide) rfl (fun ls hl => ?_)
        refine lv_lload hx hb dX5_tuneSegment_66 (lv_at hl 1 rfl) ?_
        refine lv_lload hx hb dX5_tuneSegment_68 (lv_at hl 6 rfl) ?_
        refine W.lcmp hx hb dX5_tuneSegment_70 ?_
        refine lv_if_ge (tgt := 79) hx hb dX5_tuneSegment_71 (by decide) (fun c71 => ?_) (fun c71 => ?_)
        · have h := kT h ((lg_cmp_ge _ _).mp c71)
          refine lv_lload hx hb dX5_tuneSegment_79 (lv_at hl 6 rfl) ?_
          refine lv_lstore (lv' := [(6, .long x6), (5, .int x8), (9, .long r44), (0, .ref (adM 0)), (1, .int x1), (2, .int x2), (3, .long x3), (8, .int x8)]) hx hb dX5_tuneSegment_81 hl (by decide) rfl (fun ls hl => ?_)
          refine lv_iinc (v := (x8 + 1)) (lv' := [(8, .int (x8 + 1)), (6, .long x6), (5, .int x8), (9, .long r44), (0, .ref (adM 0)), (1, .int x1), (2, .int x2), (3, .long x3)]) hx hb dX5_tuneSegment_83 hl (k := 7) rfl rfl (by decide) rfl (fun ls hl => ?_)
          refine lv_goto (tgt := 26) hx hb dX5_tuneSegment_86 (by decide) ?_
          exact hn26 x8 x6 (x8 + 1) h H locs ls hP hD hS (lv_sub hl [4, 5, 6, 7, 2, 1, 0] rfl)
        · have h := kF h (fun z => c71 ((lg_cmp_ge _ _).mpr z))
          refine lv_lload hx hb dX5_tuneSegment_74 (lv_at hl 1 rfl) ?_
          refine lv_goto (tgt := 81) hx hb dX5_tuneSegment_76 (by decide) ?_
          refine lv_lstore (lv' := [(6, .long r44), (5, .int x8), (9, .long r44), (0, .ref (adM 0)), (1, .int x1), (2, .int x2), (3, .long x3), (8, .int x8)]) hx hb dX5_tuneSegment_81 hl (by decide) rfl (fun ls hl => ?_)
          refine lv_iinc (v := (x8 + 1)) (lv' := [(8, .int (x8 + 1)), (6, .long r44), (5, .int x8), (9, .long r44), (0, .ref (adM 0)), (1, .int x1), (2, .int x2), (3, .long x3)]) hx hb dX5_tuneSegment_83 hl (k := 7) rfl rfl (by decide) rfl (fun ls hl => ?_)
          refine lv_goto (tgt := 26) hx hb dX5_tuneSegment_86 (by decide) ?_
          exact hn26 x8 r44 (x8 + 1) h H locs ls hP hD hS (lv_sub hl [4, 5, 6, 7, 2, 1, 0] rfl)
  have L26 : ∀ (uM : KM) (x1 : Int32) (x2 : Int32) (x3 : Int64) (n : Nat) (x5 : Int32) (x6 : Int64) (x8 : Int32), kLoopC n (fun q nx26 => fX5_tuneSegment_c26 uM x1 x2 x3 q.1 q.2.1 q.2.2 nx26) (x5, x6, x8) = some res → ∀ (H : Heap) (locs : List Loc) (ls : Array Slot), va_P D vwCl (wM ty adM uM) H → va_D A (wM ty adM uM) → va_S A s.heap H locs → lv_has ls 11 [(0, .ref (adM 0)), (1, .int x1), (2, .int x2), (3, .long x3), (5, .int x5), (6, .long x6), (8, .int x8)] → W p l e (headSpec wsX5_tuneSegment { frames := 2, cells := 0, slots := 0, locals := 53 }).room s m ([.ref (adM 0), .int p1, .int p2, .long p3] : List Value).toArray below meth c H locs 0 0 Q (F0 m 26 ls []) := by
    intro uM x1 x2 x3 n
    induction n with
    | zero => intro x5 x6 x8 h; exact absurd h (by simp [kLoopC])
    | succ n ih => intro x5 x6 x8 h; exact B26 uM x1 x2 x3 (kLoopC n (fun q nx26 => fX5_tuneSegment_c26 uM x1 x2 x3 q.1 q.2.1 q.2.2 nx26)) ih x5 x6 x8 h
  have hl := lv_entry ([.ref (adM 0), .int p1, .int p2, .long p3]) (n := 11) (Nat.le_of_ble_eq_true rfl)
  rw [lg_entry_eq]
  generalize (lg_sl ([.ref (adM 0), .int p1, .int p2, .long p3]) ++ List.replicate (11 - (lg_sl ([.ref (adM 0), .int p1, .int p2, .long p3])).length) Slot.unset).toArray = ls at hl ⊢
  have hl : lv_has ls 11 [(0, .ref (adM 0)), (1, .int p1), (2, .int p2), (3, .long p3)] := hl
  unfold fX5_tuneSegment at h
  have E0 : ∀ (H : Heap) (locs : List Loc) (ls : Array Slot), va_P D vwCl (wM ty adM vM) H → va_D A (wM ty adM vM) → va_S A s.heap H locs → lv_has ls 11 [(0, .ref (adM 0)), (1, .int p1), (2, .int p2), (3, .long p3)] → W p l e (headSpec wsX5_tuneSegment { frames := 2, cells := 0, slots := 0, locals := 53 }).room s m ([.ref (adM 0), .int p1, .int p2, .long p3] : List Value).toArray below meth c H locs 0 0 Q (F0 m 0 ls []) := by
    intro H locs ls hP hD hS hl
    refine lv_sipush (v := 200) hx hb dX5_tuneSegment_0 (by decide) ?_
    refine lv_istore (lv' := [(5, .int (200 : Int32)), (0, .ref (adM 0)), (1, .int p1), (2, .int p2), (3, .long p3)]) hx hb dX5_tuneSegment_3 hl (by decide) rfl (fun ls hl => ?_)
    refine lv_aload_n hx hb dX5_tuneSegment_5 rfl (lv_at hl 1 rfl) ?_
    refine lv_iload_n hx hb dX5_tuneSegment_6 rfl (lv_at hl 2 rfl) ?_
    refine lv_iload_n hx hb dX5_tuneSegment_7 rfl (lv_at hl 3 rfl) ?_
    refine lv_sipush (v := 200) hx hb dX5_tuneSegment_8 (by decide) ?_
    obtain ⟨r11, e11, h⟩ := kBd h
    refine kCallVL (As := [.int p1, .int p2, .int (200 : Int32)]) (rest := []) (wc := wM ty adM vM) (w1 := wM ty adM vM) (wn := wM ty adM vM) ⟨hx, hb, hml, hown, hts⟩ (cX5_yearsWith_ok l D ty adM H.size vM p1 p2 (200 : Int32) r11 e11) (cwV 3 hts gX5_tuneSegment_X5_yearsWith rfl rfl rfl (by decide +kernel) ⟨Nat.le_of_ble_eq_true rfl, Nat.le_of_ble_eq_true rfl⟩) hP hK hD hS hA [0, 1, 2, 3, 4, 5, 6] (by decide) rfl 5 0 rfl rfl rfl rfl hl.1 rfl (Nat.le_of_ble_eq_true rfl) dX5_tuneSegment_11 ⟨Nat.le_of_ble_eq_true rfl, Nat.le_of_ble_eq_true rfl⟩ rfl rfl (fun H locs hP hD hS => ?_)
    refine lv_lload_n hx hb dX5_tuneSegment_14 rfl (lv_at hl 4 rfl) ?_
    refine lv_lsub hx hb dX5_tuneSegment_15 ?_
    obtain ⟨r16, e16, h⟩ := kBd h
    refine kCallSL (As := [.long (r11 - p3)]) (rest := []) ⟨hx, hb, hml, hown, hts⟩ (cX5_size_ok l D ty  H.size (r11 - p3) r16 e16) (va_cwS 1 hts gX5_tuneSegment_X5_size rfl rfl rfl (by decide +kernel) ⟨Nat.le_of_ble_eq_true rfl, Nat.le_of_ble_eq_true rfl⟩) hP hK hD hS hA rfl hl.1 rfl (Nat.le_of_ble_eq_true rfl) dX5_tuneSegment_16 ⟨Nat.le_of_ble_eq_true rfl, Nat.le_of_ble_eq_true rfl⟩ (fun H locs hP hS => ?_)
    refine lv_lstore (lv' := [(6, .long r16), (5, .int (200 : Int32)), (0, .ref (adM 0)), (1, .int p1), (2, .int p2), (3, .long p3)]) hx hb dX5_tuneSegment_19 hl (by decide) rfl (fun ls hl => ?_)
    refine lv_sipush (v := 201) hx hb dX5_tuneSegment_21 (by decide) ?_
    refine lv_istore (lv' := [(8, .int (201 : Int32)), (6, .long r16), (5, .int (200 : Int32)), (0, .ref (adM 0)), (1, .int p1), (2, .int p2), (3, .long p3)]) hx hb dX5_tuneSegment_24 hl (by decide) rfl (fun ls hl => ?_)
    exact L26 vM p1 p2 p3  kFu (200 : Int32) r16 (201 : Int32) h H locs ls hP hD hS (lv_sub hl [3, 4, 5, 6, 2, 1, 0] rfl)
  exact E0 s.heap [] ls hP hD hS hl
def fX5_canTune_c4 (vM : KM) (x1 : Int32) (x2 : Int32) (nx4 : Int32 × Int32 → Option (Int32)) : Option (Int32) := if kIn (0 : Int32) 133 = true then (if (vM.2.2.2.2.2.2.1 (0 : Int32).toNatClampNeg) ≤ x2 then ((fX5_ashes vM).bind fun r53 => if r53 ≤ (0 : Int32) then (some (0 : Int32)) else (some (1 : Int32))) else ((fX5_of vM x2 (9 : Int32)).bind fun r18 => if ¬ r18 = (1 : Int32) then (nx4 (x1, (x2 + 1))) else ((fX5_of vM x2 (10 : Int32)).bind fun r29 => if x1 ≤ r29 then ((fX5_of vM x2 (10 : Int32)).bind fun r42 => nx4 (r42, (x2 + 1))) else (some (0 : Int32))))) else none
def fX5_canTune (vM : KM) : Option (Int32) := kLoopC kFu (fun q nx4 => fX5_canTune_c4 vM q.1 q.2 nx4) ((0 : Int32), (0 : Int32))
set_option maxHeartbeats 4000000 in
set_option maxRecDepth 100000 in
theorem cX5_canTune_ok (l : Launch) (D : va_G) (ty : kTy) (adM : Nat → Nat) (sz : Nat) (vM : KM) (res : Int32) (h : fX5_canTune vM = some res) : kMI l yX5_canTune wsX5_canTune { frames := 2, cells := 0, slots := 0, locals := 44 } [.ref (adM 0)] D ty (wM ty adM vM) sz res (wM ty adM vM) := by
  refine Met.ofW (cc := cX5_canTune) (maxL := 3) (ret := (some .boolean)) (by decide) rfl ?_
  intro p e s m args below meth c s₁ B hml hv
  obtain ⟨rfl, hsz, hP, hK, hD0⟩ := hv
  have hx := B.exec
  have hb := B.bytes
  have hr := B.returns
  have hts := atoms_spec (ws := wsX5_canTune) B.pre
  have hown : s.vm.findClass RX5 = some m.cls := findClass_of_methodNamed B.named
  have hlocks := B.notSynchronized
  subst hsz
  have hD := hD0.self (sz := s.heap.size)
  generalize hAe : va_A (wM ty adM vM) s.heap.size = A at hD ⊢
  have hA : ∀ q : Nat, s.heap.size ≤ q → A q := fun q h => by rw [← hAe]; exact Or.inr h
  have hS : va_S A s.heap s.heap [] := va_S.rf
  refine kGenW (fun Q hQ => ?_)
  have wf0 := hts (.fieldLink RX5 7 "IceCoreDaterModel" "now" "[I") (by decide +kernel)
  have hinX5 : ∀ w ∈ wsX50, w ∈ wsX5_canTune := by decide +kernel
  have B4 : ∀ (nx4 : Int32 × Int32 → Option (Int32)) (hn4 : ∀ (x1 : Int32) (x2 : Int32), nx4 (x1, x2) = some res → ∀ (H : Heap) (locs : List Loc) (ls : Array Slot), va_P D vwCl (wM ty adM vM) H → va_D A (wM ty adM vM) → va_S A s.heap H locs → lv_has ls 3 [(0, .ref (adM 0)), (1, .int x1), (2, .int x2)] → W p l e (headSpec wsX5_canTune { frames := 2, cells := 0, slots := 0, locals := 44 }).room s m ([.ref (adM 0)] : List Value).toArray below meth c H locs 0 0 Q (F0 m 4 ls [])) (x1 : Int32) (x2 : Int32), fX5_canTune_c4 vM x1 x2 nx4 = some res → ∀ (H : Heap) (locs : List Loc) (ls : Array Slot), va_P D vwCl (wM ty adM vM) H → va_D A (wM ty adM vM) → va_S A s.heap H locs → lv_has ls 3 [(0, .ref (adM 0)), (1, .int x1), (2, .int x2)] → W p l e (headSpec wsX5_canTune { frames := 2, cells := 0, slots := 0, locals := 44 }).room s m ([.ref (adM 0)] : List Value).toArray below meth c H locs 0 0 Q (F0 m 4 ls []) := by
    intro  nx4 hn4 x1 x2 h H locs ls hP hD hS hl
    unfold fX5_canTune_c4 at h
    refine lv_iload_n hx hb dX5_canTune_4 rfl (lv_at hl 2 rfl) ?_
    refine lv_aload_n hx hb dX5_canTune_5 rfl (lv_at hl 0 rfl) ?_
    refine va_get (D := D) (ci := 5) (v := .ref (adM 1)) (C := RX5) (T := TX5) (N := 12) hx hb hts hinX5 hown hK.1 hP 0 rfl rfl 0 (by decide) wf0 (fun _ h9 => h9) rfl dX5_canTune_6 ?_
    refine lv_iconst (v := 0) hx hb dX5_canTune_9 (by decide) ?_
    obtain ⟨b10, h⟩ := kIf h
    refine va_iald (f := vM.2.2.2.2.2.2.1) (n := 133) hx hb hK.1 hP 1 0 rfl rfl (kIn_ok b10) dX5_canTune_10 ?_
    refine lv_icmp_ge (tgt := 52) hx hb dX5_canTune_11 (by decide) (fun c11 => ?_) (fun c11 => ?_)
    · have h := kT h c11
      refine lv_aload_n hx hb dX5_canTune_52 rfl (lv_at hl 0 rfl) ?_
      obtain ⟨r53, e53, h⟩ := kBd h
      refine kCallVI (As := []) (rest := []) (wc := wM ty adM vM) (w1 := wM ty adM vM) (wn := wM ty adM vM) ⟨hx, hb, hml, hown, hts⟩ (cX5_ashes_ok l D ty adM H.size vM r53 e53) (cwV 0 hts gX5_canTune_X5_ashes rfl rfl rfl (by decide +kernel) ⟨Nat.le_of_ble_eq_true rfl, Nat.le_of_ble_eq_true rfl⟩) hP hK hD hS hA [0, 1, 2, 3, 4, 5, 6] (by decide) rfl 5 0 rfl rfl rfl rfl hl.1 rfl (Nat.le_of_ble_eq_true rfl) dX5_canTune_53 ⟨Nat.le_of_ble_eq_true rfl, Nat.le_of_ble_eq_true rfl⟩ rfl rfl (fun H locs hP hD hS => ?_)
      refine lv_if_le (tgt := 63) hx hb dX5_canTune_56 (by decide) (fun c56 => ?_) (fun c56 => ?_)
      · have h := kT h c56
        refine lv_iconst (v := 0) hx hb dX5_canTune_63 (by decide) ?_
        obtain rfl := Option.some.inj h
        subst hQ
        exact W.zret (ty := .boolean) (v := (0 : Int32)) hx hb hr rfl (fun t ht hW => ⟨⟨(0 : Int32), (), rfl, rfl, kEnd ht hP⟩, hS.F ht⟩) hS.2.2 dX5_canTune_64
      · have h := kF h c56
        refine lv_iconst (v := 1) hx hb dX5_canTune_59 (by decide) ?_
        refine lv_goto (tgt := 64) hx hb dX5_canTune_60 (by decide) ?_
        obtain rfl := Option.some.inj h
        subst hQ
        exact W.zret (ty := .boolean) (v := (1 : Int32)) hx hb hr rfl (fun t ht hW => ⟨⟨(1 : Int32), (), rfl, rfl, kEnd ht hP⟩, hS.F ht⟩) hS.2.2 dX5_canTune_64
    · have h := kF h c11
      refine lv_aload_n hx hb dX5_canTune_14 rfl (lv_at hl 0 rfl) ?_
      refine lv_iload_n hx hb dX5_canTune_15 rfl (lv_at hl 2 rfl) ?_
      refine lv_bipush (v := 9) hx hb dX5_canTune_16 (by decide) ?_
      obtain ⟨r18, e18, h⟩ := kBd h
      refine kCallVI (As := [.int x2, .int (9 : Int32)]) (rest := []) (wc := wM ty adM vM) (w1 := wM ty adM vM) (wn := wM ty adM vM) ⟨hx, hb, hml, hown, hts⟩ (cX5_of_ok l D ty adM H.size vM x2 (9 : Int32) r18 e18) (cwV 2 hts gX5_canTune_X5_of rfl rfl rfl (by decide +kernel) ⟨Nat.le_of_ble_eq_true rfl, Nat.le_of_ble_eq_true rfl⟩) hP hK hD hS hA [0, 1, 2, 3, 4, 5, 6] (by decide) rfl 5 0 rfl rfl rfl rfl hl.1 rfl (Nat.le_of_ble_eq_true rfl) dX5_canTune_18 ⟨Nat.le_of_ble_eq_true rfl, Nat.le_of_ble_eq_true rfl⟩ rfl rfl (fun H locs hP hD hS => ?_)
      refine lv_iconst (v := 1) hx hb dX5_canTune_21 (by decide) ?_
      refine lv_icmp_ne (tgt := 46) hx hb dX5_canTune_22 (by decide) (fun c22 => ?_) (fun c22 => ?_)
      · have h := kT h c22
        refine lv_iinc (v := (x2 + 1)) (lv' := [(2, .int (x2 + 1)), (0, .ref (adM 0)), (1, .int x1)]) hx hb dX5_canTune_46 hl (k := 2) rfl rfl (by decide) rfl (fun ls hl => ?_)
        refine lv_goto (tgt := 4) hx hb dX5_canTune_49 (by decide) ?_
        exact hn4 x1 (x2 + 1) h H locs ls hP hD hS (lv_sub hl [1, 2, 0] rfl)
      · have h := kF h (fun z => z c22)
        refine lv_aload_n hx hb dX5_canTune_25 rfl (lv_at hl 0 rfl) ?_
        refine lv_iload_n hx hb dX5_canTune_26 rfl (lv_at hl 2 rfl) ?_
        refine lv_bipush (v := 10) hx hb dX5_canTune_27 (by decide) ?_
        obtain ⟨r29, e29, h⟩ := kBd h
        refine kCallVI (As := [.int x2, .int (10 : Int32)]) (rest := []) (wc := wM ty adM vM) (w1 := wM ty adM vM) (wn := wM ty adM vM) ⟨hx, hb, hml, hown, hts⟩ (cX5_of_ok l D ty adM H.size vM x2 (10 : Int32) r29 e29) (cwV 2 hts gX5_canTune_X5_of rfl rfl rfl (by decide +kernel) ⟨Nat.le_of_ble_eq_true rfl, Nat.le_of_ble_eq_true rfl⟩) hP hK hD hS hA [0, 1, 2, 3, 4, 5, 6] (by decide) rfl 5 0 rfl rfl rfl rfl hl.1 rfl (Nat.le_of_ble_eq_true rfl) dX5_canTune_29 ⟨Nat.le_of_ble_eq_true rfl, Nat.le_of_ble_eq_true rfl⟩ rfl rfl (fun H locs hP hD hS => ?_)
        refine lv_iload_n hx hb dX5_canTune_32 rfl (lv_at hl 1 rfl) ?_
        refine lv_icmp_ge (tgt := 38) hx hb dX5_canTune_33 (by decide) (fun c33 => ?_) (fun c33 => ?_)
        · have h := kT h c33
          refine lv_aload_n hx hb dX5_canTune_38 rfl (lv_at hl 0 rfl) ?_
          refine lv_iload_n hx hb dX5_canTune_39 rfl (lv_at hl 2 rfl) ?_
          refine lv_bipush (v := 10) hx hb dX5_canTune_40 (by decide) ?_
          obtain ⟨r42, e42, h⟩ := kBd h
          refine kCallVI (As := [.int x2, .int (10 : Int32)]) (rest := []) (wc := wM ty adM vM) (w1 := wM ty adM vM) (wn := wM ty adM vM) ⟨hx, hb, hml, hown, hts⟩ (cX5_of_ok l D ty adM H.size vM x2 (10 : Int32) r42 e42) (cwV 2 hts gX5_canTune_X5_of rfl rfl rfl (by decide +kernel) ⟨Nat.le_of_ble_eq_true rfl, Nat.le_of_ble_eq_true rfl⟩) hP hK hD hS hA [0, 1, 2, 3, 4, 5, 6] (by decide) rfl 5 0 rfl rfl rfl rfl hl.1 rfl (Nat.le_of_ble_eq_true rfl) dX5_canTune_42 ⟨Nat.le_of_ble_eq_true rfl, Nat.le_of_ble_eq_true rfl⟩ rfl rfl (fun H locs hP hD hS => ?_)
          refine lv_istore_n (lv' := [(1, .int r42), (0, .ref (adM 0)), (2, .int x2)]) hx hb dX5_canTune_45 rfl hl (by decide) rfl (fun ls hl => ?_)
          refine lv_iinc (v := (x2 + 1)) (lv' := [(2, .int (x2 + 1)), (1, .int r42), (0, .ref (adM 0))]) hx hb dX5_canTune_46 hl (k := 2) rfl rfl (by decide) rfl (fun ls hl => ?_)
          refine lv_goto (tgt := 4) hx hb dX5_canTune_49 (by decide) ?_
          exact hn4 r42 (x2 + 1) h H locs ls hP hD hS (lv_sub hl [2, 1, 0] rfl)
        · have h := kF h c33
          refine lv_iconst (v := 0) hx hb dX5_canTune_36 (by decide) ?_
          obtain rfl := Option.some.inj h
          subst hQ
          exact W.zret (ty := .boolean) (v := (0 : Int32)) hx hb hr rfl (fun t ht hW => ⟨⟨(0 : Int32), (), rfl, rfl, kEnd ht hP⟩, hS.F ht⟩) hS.2.2 dX5_canTune_37
  have L4 : ∀  (n : Nat) (x1 : Int32) (x2 : Int32), kLoopC n (fun q nx4 => fX5_canTune_c4 vM q.1 q.2 nx4) (x1, x2) = some res → ∀ (H : Heap) (locs : List Loc) (ls : Array Slot), va_P D vwCl (wM ty adM vM) H → va_D A (wM ty adM vM) → va_S A s.heap H locs → lv_has ls 3 [(0, .ref (adM 0)), (1, .int x1), (2, .int x2)] → W p l e (headSpec wsX5_canTune { frames := 2, cells := 0, slots := 0, locals := 44 }).room s m ([.ref (adM 0)] : List Value).toArray below meth c H locs 0 0 Q (F0 m 4 ls []) := by
    intro  n
    induction n with
    | zero => intro x1 x2 h; exact absurd h (by simp [kLoopC])
    | succ n ih => intro x1 x2 h; exact B4  (kLoopC n (fun q nx4 => fX5_canTune_c4 vM q.1 q.2 nx4)) ih x1 x2 h
  have hl := lv_entry ([.ref (adM 0)]) (n := 3) (Nat.le_of_ble_eq_true rfl)
  rw [lg_entry_eq]
  generalize (lg_sl ([.ref (adM 0)]) ++ List.replicate (3 - (lg_sl ([.ref (adM 0)])).length) Slot.unset).toArray = ls at hl ⊢
  have hl : lv_has ls 3 [(0, .ref (adM 0))] := hl
  unfold fX5_canTune at h
  have E0 : ∀ (H : Heap) (locs : List Loc) (ls : Array Slot), va_P D vwCl (wM ty adM vM) H → va_D A (wM ty adM vM) → va_S A s.heap H locs → lv_has ls 3 [(0, .ref (adM 0))] → W p l e (headSpec wsX5_canTune { frames := 2, cells := 0, slots := 0, locals := 44 }).room s m ([.ref (adM 0)] : List Value).toArray below meth c H locs 0 0 Q (F0 m 0 ls []) := by
    intro H locs ls hP hD hS hl
    refine lv_iconst (v := 0) hx hb dX5_canTune_0 (by decide) ?_
    refine lv_istore_n (lv' := [(1, .int (0 : Int32)), (0, .ref (adM 0))]) hx hb dX5_canTune_1 rfl hl (by decide) rfl (fun ls hl => ?_)
    refine lv_iconst (v := 0) hx hb dX5_canTune_2 (by decide) ?_
    refine lv_istore_n (lv' := [(2, .int (0 : Int32)), (1, .int (0 : Int32)), (0, .ref (adM 0))]) hx hb dX5_canTune_3 rfl hl (by decide) rfl (fun ls hl => ?_)
    exact L4   kFu (0 : Int32) (0 : Int32) h H locs ls hP hD hS (lv_sub hl [2, 1, 0] rfl)
  exact E0 s.heap [] ls hP hD hS hl
def fX5_tune_c49 (uM : KM) (x1 : Int32) (x2 : Int32) (x3 : Int32) (nx49 : KM × Int32 × Int32 × Int32 → Option (Int32 × KM)) : Option (Int32 × KM) := if kIn (0 : Int32) 133 = true then (if (uM.2.2.2.2.2.2.1 (0 : Int32).toNatClampNeg) ≤ x3 then ((fX5_fits uM).bind fun r105 => some (r105, uM)) else ((fX5_of uM x3 (9 : Int32)).bind fun r63 => if ¬ r63 = (1 : Int32) then (nx49 (uM, x1, x2, (x3 + 1))) else ((fX5_of uM x3 (10 : Int32)).bind fun r77 => (fX5_tuneSegment uM x1 x3 ((r77 - x2).toInt64)).bind fun r83 => (fX5_of r83 x3 (10 : Int32)).bind fun r94 => nx49 (r83, (x3 + (1 : Int32)), r94, (x3 + 1))))) else none
def fX5_tune_c16 (uM : KM) (x1 : Int32) (nx16 : KM × Int32 → Option (Int32 × KM)) : Option (Int32 × KM) := if kIn (0 : Int32) 133 = true then (if (uM.2.2.2.2.2.2.1 (0 : Int32).toNatClampNeg) ≤ x1 then (kLoopC kFu (fun q nx49 => fX5_tune_c49 q.1 q.2.1 q.2.2.1 q.2.2.2 nx49) (uM, (0 : Int32), (0 : Int32), (0 : Int32))) else ((fX5_thinningOf uM x1).bind fun r33 => if kIn x1 16 = true then (nx16 ((uM.1, uM.2.1, uM.2.2.1, uM.2.2.2.1, uM.2.2.2.2.1, uM.2.2.2.2.2.1, uM.2.2.2.2.2.2.1, uM.2.2.2.2.2.2.2.1, (upd uM.2.2.2.2.2.2.2.2.1 x1.toNatClampNeg r33), uM.2.2.2.2.2.2.2.2.2), (x1 + 1))) else none)) else none
def fX5_tune (vM : KM) : Option (Int32 × KM) := (fX5_canTune vM).bind fun r1 => if ¬ r1 = (0 : Int32) then ((fX5_record vM).bind fun r11 => kLoopC kFu (fun q nx16 => fX5_tune_c16 q.1 q.2 nx16) (r11, (0 : Int32))) else (some ((-1000000003 : Int32), vM))
set_option maxHeartbeats 4000000 in
set_option maxRecDepth 100000 in
theorem cX5_tune_ok (l : Launch) (D : va_G) (ty : kTy) (adM : Nat → Nat) (sz : Nat) (vM : KM) (res : Int32 × KM) (h : fX5_tune vM = some res) : kMI l yX5_tune wsX5_tune { frames := 7, cells := 0, slots := 0, locals := 161 } [.ref (adM 0)] D ty (wM ty adM vM) sz res.1 (wM ty adM res.2) := by
  refine Met.ofW (cc := cX5_tune) (maxL := 4) (ret := (some .int)) (by decide) rfl ?_
  intro p e s m args below meth c s₁ B hml hv
  obtain ⟨rfl, hsz, hP, hK, hD0⟩ := hv
  have hx := B.exec
  have hb := B.bytes
  have hr := B.returns
  have hts := atoms_spec (ws := wsX5_tune) B.pre
  have hown : s.vm.findClass RX5 = some m.cls := findClass_of_methodNamed B.named
  have hlocks := B.notSynchronized
  subst hsz
  have hD := hD0.self (sz := s.heap.size)
  generalize hAe : va_A (wM ty adM vM) s.heap.size = A at hD ⊢
  have hA : ∀ q : Nat, s.heap.size ≤ q → A q := fun q h => by rw [← hAe]; exact Or.inr h
  have hS : va_S A s.heap s.heap [] := va_S.rf
  refine kGenW (fun Q hQ => ?_)
  have wf0 := hts (.fieldLink RX5 7 "IceCoreDaterModel" "now" "[I") (by decide +kernel)
  have hinX5 : ∀ w ∈ wsX50, w ∈ wsX5_tune := by decide +kernel
  have wf2 := hts (.fieldLink RX5 16 "IceCoreDaterModel" "thinnings" "[I") (by decide +kernel)
  have wf3 := hts (.constant RX5 105 (-1000000003)) (by decide +kernel)
  have B49 : ∀ (nx49 : KM × Int32 × Int32 × Int32 → Option (Int32 × KM)) (hn49 : ∀ (uM : KM) (x1 : Int32) (x2 : Int32) (x3 : Int32), nx49 (uM, x1, x2, x3) = some res → ∀ (H : Heap) (locs : List Loc) (ls : Array Slot), va_P D vwCl (wM ty adM uM) H → va_D A (wM ty adM uM) → va_S A s.heap H locs → lv_has ls 4 [(0, .ref (adM 0)), (1, .int x1), (2, .int x2), (3, .int x3)] → W p l e (headSpec wsX5_tune { frames := 7, cells := 0, slots := 0, locals := 161 }).room s m ([.ref (adM 0)] : List Value).toArray below meth c H locs 0 0 Q (F0 m 49 ls [])) (uM : KM) (x1 : Int32) (x2 : Int32) (x3 : Int32), fX5_tune_c49 uM x1 x2 x3 nx49 = some res → ∀ (H : Heap) (locs : List Loc) (ls : Array Slot), va_P D vwCl (wM ty adM uM) H → va_D A (wM ty adM uM) → va_S A s.heap H locs → lv_has ls 4 [(0, .ref (adM 0)), (1, .int x1), (2, .int x2), (3, .int x3)] → W p l e (headSpec wsX5_tune { frames := 7, cells := 0, slots := 0, locals := 161 }).room s m ([.ref (adM 0)] : List Value).toArray below meth c H locs 0 0 Q (F0 m 49 ls []) := by
    intro  nx49 hn49 uM x1 x2 x3 h H locs ls hP hD hS hl
    unfold fX5_tune_c49 at h
    refine lv_iload_n hx hb dX5_tune_49 rfl (lv_at hl 3 rfl) ?_
    refine lv_aload_n hx hb dX5_tune_50 rfl (lv_at hl 0 rfl) ?_
    refine va_get (D := D) (ci := 5) (v := .ref (adM 1)) (C := RX5) (T := TX5) (N := 12) hx hb hts hinX5 hown hK.1 hP 0 rfl rfl 0 (by decide) wf0 (fun _ h9 => h9) rfl dX5_tune_51 ?_
    refine lv_iconst (v := 0) hx hb dX5_tune_54 (by decide) ?_
    obtain ⟨b55, h⟩ := kIf h
    refine va_iald (f := uM.2.2.2.2.2.2.1) (n := 133) hx hb hK.1 hP 1 0 rfl rfl (kIn_ok b55) dX5_tune_55 ?_
    refine lv_icmp_ge (tgt := 104) hx hb dX5_tune_56 (by decide) (fun c56 => ?_) (fun c56 => ?_)
    · have h := kT h c56
      refine lv_aload_n hx hb dX5_tune_104 rfl (lv_at hl 0 rfl) ?_
      obtain ⟨r105, e105, h⟩ := kBd h
      refine kCallVI (As := []) (rest := []) (wc := wM ty adM uM) (w1 := wM ty adM uM) (wn := wM ty adM uM) ⟨hx, hb, hml, hown, hts⟩ (cX5_fits_ok l D ty adM H.size uM r105 e105) (cwV 0 hts gX5_tune_X5_fits rfl rfl rfl (by decide +kernel) ⟨Nat.le_of_ble_eq_true rfl, Nat.le_of_ble_eq_true rfl⟩) hP hK hD hS hA [0, 1, 2, 3, 4, 5, 6] (by decide) rfl 5 0 rfl rfl rfl rfl hl.1 rfl (Nat.le_of_ble_eq_true rfl) dX5_tune_105 ⟨Nat.le_of_ble_eq_true rfl, Nat.le_of_ble_eq_true rfl⟩ rfl rfl (fun H locs hP hD hS => ?_)
      obtain rfl := Option.some.inj h
      subst hQ
      exact W.iret (v := r105) hx hb hr (fun t ht hW => ⟨⟨r105, (), rfl, rfl, kEnd ht hP⟩, hS.F ht⟩) hS.2.2 dX5_tune_108
    · have h := kF h c56
      refine lv_aload_n hx hb dX5_tune_59 rfl (lv_at hl 0 rfl) ?_
      refine lv_iload_n hx hb dX5_tune_60 rfl (lv_at hl 3 rfl) ?_
      refine lv_bipush (v := 9) hx hb dX5_tune_61 (by decide) ?_
      obtain ⟨r63, e63, h⟩ := kBd h
      refine kCallVI (As := [.int x3, .int (9 : Int32)]) (rest := []) (wc := wM ty adM uM) (w1 := wM ty adM uM) (wn := wM ty adM uM) ⟨hx, hb, hml, hown, hts⟩ (cX5_of_ok l D ty adM H.size uM x3 (9 : Int32) r63 e63) (cwV 2 hts gX5_tune_X5_of rfl rfl rfl (by decide +kernel) ⟨Nat.le_of_ble_eq_true rfl, Nat.le_of_ble_eq_true rfl⟩) hP hK hD hS hA [0, 1, 2, 3, 4, 5, 6] (by decide) rfl 5 0 rfl rfl rfl rfl hl.1 rfl (Nat.le_of_ble_eq_true rfl) dX5_tune_63 ⟨Nat.le_of_ble_eq_true rfl, Nat.le_of_ble_eq_true rfl⟩ rfl rfl (fun H locs hP hD hS => ?_)
      refine lv_iconst (v := 1) hx hb dX5_tune_66 (by decide) ?_
      refine lv_icmp_ne (tgt := 98) hx hb dX5_tune_67 (by decide) (fun c67 => ?_) (fun c67 => ?_)
      · have h := kT h c67
        refine lv_iinc (v := (x3 + 1)) (lv' := [(3, .int (x3 + 1)), (0, .ref (adM 0)), (1, .int x1), (2, .int x2)]) hx hb dX5_tune_98 hl (k := 3) rfl rfl (by decide) rfl (fun ls hl => ?_)
        refine lv_goto (tgt := 49) hx hb dX5_tune_101 (by decide) ?_
        exact hn49 uM x1 x2 (x3 + 1) h H locs ls hP hD hS (lv_sub hl [1, 2, 3, 0] rfl)
      · have h := kF h (fun z => z c67)
        refine lv_aload_n hx hb dX5_tune_70 rfl (lv_at hl 0 rfl) ?_
        refine lv_iload_n hx hb dX5_tune_71 rfl (lv_at hl 1 rfl) ?_
        refine lv_iload_n hx hb dX5_tune_72 rfl (lv_at hl 3 rfl) ?_
        refine lv_aload_n hx hb dX5_tune_73 rfl (lv_at hl 0 rfl) ?_
        refine lv_iload_n hx hb dX5_tune_74 rfl (lv_at hl 3 rfl) ?_
        refine lv_bipush (v := 10) hx hb dX5_tune_75 (by decide) ?_
        obtain ⟨r77, e77, h⟩ := kBd h
        refine kCallVI (As := [.int x3, .int (10 : Int32)]) (rest := [.int x3, .int x1, .ref (adM 0)]) (wc := wM ty adM uM) (w1 := wM ty adM uM) (wn := wM ty adM uM) ⟨hx, hb, hml, hown, hts⟩ (cX5_of_ok l D ty adM H.size uM x3 (10 : Int32) r77 e77) (cwV 2 hts gX5_tune_X5_of rfl rfl rfl (by decide +kernel) ⟨Nat.le_of_ble_eq_true rfl, Nat.le_of_ble_eq_true rfl⟩) hP hK hD hS hA [0, 1, 2, 3, 4, 5, 6] (by decide) rfl 5 0 rfl rfl rfl rfl hl.1 rfl (Nat.le_of_ble_eq_true rfl) dX5_tune_77 ⟨Nat.le_of_ble_eq_true rfl, Nat.le_of_ble_eq_true rfl⟩ rfl rfl (fun H locs hP hD hS => ?_)
        refine lv_iload_n hx hb dX5_tune_80 rfl (lv_at hl 2 rfl) ?_
        refine lv_isub hx hb dX5_tune_81 ?_
        refine lv_i2l hx hb dX5_tune_82 rfl ?_
        obtain ⟨r83, e83, h⟩ := kBd h
        refine kCallVV (As := [.int x1, .int x3, .long (r77 - x2).toInt64]) (rest := []) (wc := wM ty adM uM) (w1 := wM ty adM r83) (wn := wM ty adM r83) ⟨hx, hb, hml, hown, hts⟩ (cX5_tuneSegment_ok l D ty adM H.size uM x1 x3 ((r77 - x2).toInt64) r83 e83) (cwV 3 hts gX5_tune_X5_tuneSegment rfl rfl rfl (by decide +kernel) ⟨Nat.le_of_ble_eq_true rfl, Nat.le_of_ble_eq_true rfl⟩) hP hK hD hS hA [0, 1, 2, 3, 4, 5, 6] (by decide) rfl 5 0 rfl rfl rfl rfl hl.1 rfl (Nat.le_of_ble_eq_true rfl) dX5_tune_83 ⟨Nat.le_of_ble_eq_true rfl, Nat.le_of_ble_eq_true rfl⟩ rfl rfl (fun H locs hP hD hS => ?_)
        refine lv_iload_n hx hb dX5_tune_86 rfl (lv_at hl 3 rfl) ?_
        refine lv_iconst (v := 1) hx hb dX5_tune_87 (by decide) ?_
        refine lv_iadd hx hb dX5_tune_88 ?_
        refine lv_istore_n (lv' := [(1, .int (x3 + (1 : Int32))), (0, .ref (adM 0)), (2, .int x2), (3, .int x3)]) hx hb dX5_tune_89 rfl hl (by decide) rfl (fun ls hl => ?_)
        refine lv_aload_n hx hb dX5_tune_90 rfl (lv_at hl 1 rfl) ?_
        refine lv_iload_n hx hb dX5_tune_91 rfl (lv_at hl 3 rfl) ?_
        refine lv_bipush (v := 10) hx hb dX5_tune_92 (by decide) ?_
        obtain ⟨r94, e94, h⟩ := kBd h
        refine kCallVI (As := [.int x3, .int (10 : Int32)]) (rest := []) (wc := wM ty adM r83) (w1 := wM ty adM r83) (wn := wM ty adM r83) ⟨hx, hb, hml, hown, hts⟩ (cX5_of_ok l D ty adM H.size r83 x3 (10 : Int32) r94 e94) (cwV 2 hts gX5_tune_X5_of rfl rfl rfl (by decide +kernel) ⟨Nat.le_of_ble_eq_true rfl, Nat.le_of_ble_eq_true rfl⟩) hP hK hD hS hA [0, 1, 2, 3, 4, 5, 6] (by decide) rfl 5 0 rfl rfl rfl rfl hl.1 rfl (Nat.le_of_ble_eq_true rfl) dX5_tune_94 ⟨Nat.le_of_ble_eq_true rfl, Nat.le_of_ble_eq_true rfl⟩ rfl rfl (fun H locs hP hD hS => ?_)
        refine lv_istore_n (lv' := [(2, .int r94), (1, .int (x3 + (1 : Int32))), (0, .ref (adM 0)), (3, .int x3)]) hx hb dX5_tune_97 rfl hl (by decide) rfl (fun ls hl => ?_)
        refine lv_iinc (v := (x3 + 1)) (lv' := [(3, .int (x3 + 1)), (2, .int r94), (1, .int (x3 + (1 : Int32))), (0, .ref (adM 0))]) hx hb dX5_tune_98 hl (k := 3) rfl rfl (by decide) rfl (fun ls hl => ?_)
        refine lv_goto (tgt := 49) hx hb dX5_tune_101 (by decide) ?_
        exact hn49 r83 (x3 + (1 : Int32)) r94 (x3 + 1) h H locs ls hP hD hS (lv_sub hl [3, 2, 1, 0] rfl)
  have L49 : ∀  (n : Nat) (uM : KM) (x1 : Int32) (x2 : Int32) (x3 : Int32), kLoopC n (fun q nx49 => fX5_tune_c49 q.1 q.2.1 q.2.2.1 q.2.2.2 nx49) (uM, x1, x2, x3) = some res → ∀ (H : Heap) (locs : List Loc) (ls : Array Slot), va_P D vwCl (wM ty adM uM) H → va_D A (wM ty adM uM) → va_S A s.heap H locs → lv_has ls 4 [(0, .ref (adM 0)), (1, .int x1), (2, .int x2), (3, .int x3)] → W p l e (headSpec wsX5_tune { frames := 7, cells := 0, slots := 0, locals := 161 }).room s m ([.ref (adM 0)] : List Value).toArray below meth c H locs 0 0 Q (F0 m 49 ls []) := by
    intro  n
    induction n with
    | zero => intro uM x1 x2 x3 h; exact absurd h (by simp [kLoopC])
    | succ n ih => intro uM x1 x2 x3 h; exact B49  (kLoopC n (fun q nx49 => fX5_tune_c49 q.1 q.2.1 q.2.2.1 q.2.2.2 nx49)) ih uM x1 x2 x3 h
  have B16 : ∀ (nx16 : KM × Int32 → Option (Int32 × KM)) (hn16 : ∀ (uM : KM) (x1 : Int32), nx16 (uM, x1) = some res → ∀ (H : Heap) (locs : List Loc) (ls : Array Slot), va_P D vwCl (wM ty adM uM) H → va_D A (wM ty adM uM) → va_S A s.heap H locs → lv_has ls 4 [(0, .ref (adM 0)), (1, .int x1)] → W p l e (headSpec wsX5_tune { frames := 7, cells := 0, slots := 0, locals := 161 }).room s m ([.ref (adM 0)] : List Value).toArray below meth c H locs 0 0 Q (F0 m 16 ls [])) (uM : KM) (x1 : Int32), fX5_tune_c16 uM x1 nx16 = some res → ∀ (H : Heap) (locs : List Loc) (ls : Array Slot), va_P D vwCl (wM ty adM uM) H → va_D A (wM ty adM uM) → va_S A s.heap H locs → lv_has ls 4 [(0, .ref (adM 0)), (1, .int x1)] → W p l e (headSpec wsX5_tune { frames := 7, cells := 0, slots := 0, locals := 161 }).room s m ([.ref (adM 0)] : List Value).toArray below meth c H locs 0 0 Q (F0 m 16 ls []) := by
    intro  nx16 hn16 uM x1 h H locs ls hP hD hS hl
    unfold fX5_tune_c16 at h
    refine lv_iload_n hx hb dX5_tune_16 rfl (lv_at hl 1 rfl) ?_
    refine lv_aload_n hx hb dX5_tune_17 rfl (lv_at hl 0 rfl) ?_
    refine va_get (D := D) (ci := 5) (v := .ref (adM 1)) (C := RX5) (T := TX5) (N := 12) hx hb hts hinX5 hown hK.1 hP 0 rfl rfl 0 (by decide) wf0 (fun _ h9 => h9) rfl dX5_tune_18 ?_
    refine lv_iconst (v := 0) hx hb dX5_tune_21 (by decide) ?_
    obtain ⟨b22, h⟩ := kIf h
    refine va_iald (f := uM.2.2.2.2.2.2.1) (n := 133) hx hb hK.1 hP 1 0 rfl rfl (kIn_ok b22) dX5_tune_22 ?_
    refine lv_icmp_ge (tgt := 43) hx hb dX5_tune_23 (by decide) (fun c23 => ?_) (fun c23 => ?_)
    · have h := kT h c23
      refine lv_iconst (v := 0) hx hb dX5_tune_43 (by decide) ?_
      refine lv_istore_n (lv' := [(1, .int (0 : Int32)), (0, .ref (adM 0))]) hx hb dX5_tune_44 rfl hl (by decide) rfl (fun ls hl => ?_)
      refine lv_iconst (v := 0) hx hb dX5_tune_45 (by decide) ?_
      refine lv_istore_n (lv' := [(2, .int (0 : Int32)), (1, .int (0 : Int32)), (0, .ref (adM 0))]) hx hb dX5_tune_46 rfl hl (by decide) rfl (fun ls hl => ?_)
      refine lv_iconst (v := 0) hx hb dX5_tune_47 (by decide) ?_
      refine lv_istore_n (lv' := [(3, .int (0 : Int32)), (2, .int (0 : Int32)), (1, .int (0 : Int32)), (0, .ref (adM 0))]) hx hb dX5_tune_48 rfl hl (by decide) rfl (fun ls hl => ?_)
      exact L49   kFu uM (0 : Int32) (0 : Int32) (0 : Int32) h H locs ls hP hD hS (lv_sub hl [3, 2, 1, 0] rfl)
    · have h := kF h c23
      refine lv_aload_n hx hb dX5_tune_26 rfl (lv_at hl 0 rfl) ?_
      refine va_get (D := D) (ci := 5) (v := .ref (adM 3)) (C := RX5) (T := TX5) (N := 12) hx hb hts hinX5 hown hK.1 hP 0 rfl rfl 5 (by decide) wf2 (fun _ h9 => h9) rfl dX5_tune_27 ?_
      refine lv_iload_n hx hb dX5_tune_30 rfl (lv_at hl 1 rfl) ?_
      refine lv_aload_n hx hb dX5_tune_31 rfl (lv_at hl 0 rfl) ?_
      refine lv_iload_n hx hb dX5_tune_32 rfl (lv_at hl 1 rfl) ?_
      obtain ⟨r33, e33, h⟩ := kBd h
      refine kCallVI (As := [.int x1]) (rest := [.int x1, .ref (adM 3)]) (wc := wM ty adM uM) (w1 := wM ty adM uM) (wn := wM ty adM uM) ⟨hx, hb, hml, hown, hts⟩ (cX5_thinningOf_ok l D ty adM H.size uM x1 r33 e33) (cwV 1 hts gX5_tune_X5_thinningOf rfl rfl rfl (by decide +kernel) ⟨Nat.le_of_ble_eq_true rfl, Nat.le_of_ble_eq_true rfl⟩) hP hK hD hS hA [0, 1, 2, 3, 4, 5, 6] (by decide) rfl 5 0 rfl rfl rfl rfl hl.1 rfl (Nat.le_of_ble_eq_true rfl) dX5_tune_33 ⟨Nat.le_of_ble_eq_true rfl, Nat.le_of_ble_eq_true rfl⟩ rfl rfl (fun H locs hP hD hS => ?_)
      obtain ⟨b36, h⟩ := kIf h
      refine va_iast (f := uM.2.2.2.2.2.2.2.2.1) (n := 16) hx hb hK.1 hP hD hS 3 0 rfl rfl (kIn_ok b36) dX5_tune_36 (fun H locs hP hD hS => ?_)
      have hP : va_P D vwCl (wM ty adM (uM.1, uM.2.1, uM.2.2.1, uM.2.2.2.1, uM.2.2.2.2.1, uM.2.2.2.2.2.1, uM.2.2.2.2.2.2.1, uM.2.2.2.2.2.2.2.1, (upd uM.2.2.2.2.2.2.2.2.1 x1.toNatClampNeg r33), uM.2.2.2.2.2.2.2.2.2)) H := hP
      have hD : va_D A (wM ty adM (uM.1, uM.2.1, uM.2.2.1, uM.2.2.2.1, uM.2.2.2.2.1, uM.2.2.2.2.2.1, uM.2.2.2.2.2.2.1, uM.2.2.2.2.2.2.2.1, (upd uM.2.2.2.2.2.2.2.2.1 x1.toNatClampNeg r33), uM.2.2.2.2.2.2.2.2.2)) := hD
      refine lv_iinc (v := (x1 + 1)) (lv' := [(1, .int (x1 + 1)), (0, .ref (adM 0))]) hx hb dX5_tune_37 hl (k := 1) rfl rfl (by decide) rfl (fun ls hl => ?_)
      refine lv_goto (tgt := 16) hx hb dX5_tune_40 (by decide) ?_
      exact hn16 (uM.1, uM.2.1, uM.2.2.1, uM.2.2.2.1, uM.2.2.2.2.1, uM.2.2.2.2.2.1, uM.2.2.2.2.2.2.1, uM.2.2.2.2.2.2.2.1, (upd uM.2.2.2.2.2.2.2.2.1 x1.toNatClampNeg r33), uM.2.2.2.2.2.2.2.2.2) (x1 + 1) h H locs ls hP hD hS (lv_sub hl [1, 0] rfl)
  have L16 : ∀  (n : Nat) (uM : KM) (x1 : Int32), kLoopC n (fun q nx16 => fX5_tune_c16 q.1 q.2 nx16) (uM, x1) = some res → ∀ (H : Heap) (locs : List Loc) (ls : Array Slot), va_P D vwCl (wM ty adM uM) H → va_D A (wM ty adM uM) → va_S A s.heap H locs → lv_has ls 4 [(0, .ref (adM 0)), (1, .int x1)] → W p l e (headSpec wsX5_tune { frames := 7, cells := 0, slots := 0, locals := 161 }).room s m ([.ref (adM 0)] : List Value).toArray below meth c H locs 0 0 Q (F0 m 16 ls []) := by
    intro  n
    induction n with
    | zero => intro uM x1 h; exact absurd h (by simp [kLoopC])
    | succ n ih => intro uM x1 h; exact B16  (kLoopC n (fun q nx16 => fX5_tune_c16 q.1 q.2 nx16)) ih uM x1 h
  have hl := lv_entry ([.ref (adM 0)]) (n := 4) (Nat.le_of_ble_eq_true rfl)
  rw [lg_entry_eq]
  generalize (lg_sl ([.ref (adM 0)]) ++ List.replicate (4 - (lg_sl ([.ref (adM 0)])).length) Slot.unset).toArray = ls at hl ⊢
  have hl : lv_has ls 4 [(0, .ref (adM 0))] := hl
  unfold fX5_tune at h
  have E0 : ∀ (H : Heap) (locs : List Loc) (ls : Array Slot), va_P D vwCl (wM ty adM vM) H → va_D A (wM ty adM vM) → va_S A s.heap H locs → lv_has ls 4 [(0, .ref (adM 0))] → W p l e (headSpec wsX5_tune { frames := 7, cells := 0, slots := 0, locals := 161 }).room s m ([.ref (adM 0)] : List Value).toArray below meth c H locs 0 0 Q (F0 m 0 ls []) := by
    intro H locs ls hP hD hS hl
    refine lv_aload_n hx hb dX5_tune_0 rfl (lv_at hl 0 rfl) ?_
    obtain ⟨r1, e1, h⟩ := kBd h
    refine kCallVI (As := []) (rest := []) (wc := wM ty adM vM) (w1 := wM ty adM vM) (wn := wM ty adM vM) ⟨hx, hb, hml, hown, hts⟩ (cX5_canTune_ok l D ty adM H.size vM r1 e1) (cwV 0 hts gX5_tune_X5_canTune rfl rfl rfl (by decide +kernel) ⟨Nat.le_of_ble_eq_true rfl, Nat.le_of_ble_eq_true rfl⟩) hP hK hD hS hA [0, 1, 2, 3, 4, 5, 6] (by decide) rfl 5 0 rfl rfl rfl rfl hl.1 rfl (Nat.le_of_ble_eq_true rfl) dX5_tune_1 ⟨Nat.le_of_ble_eq_true rfl, Nat.le_of_ble_eq_true rfl⟩ rfl rfl (fun H locs hP hD hS => ?_)
    refine lv_if_ne (tgt := 10) hx hb dX5_tune_4 (by decide) (fun c4 => ?_) (fun c4 => ?_)
    · have h := kT h c4
      refine lv_aload_n hx hb dX5_tune_10 rfl (lv_at hl 0 rfl) ?_
      obtain ⟨r11, e11, h⟩ := kBd h
      refine kCallVV (As := []) (rest := []) (wc := wM ty adM vM) (w1 := wM ty adM r11) (wn := wM ty adM r11) ⟨hx, hb, hml, hown, hts⟩ (cX5_record_ok l D ty adM H.size vM r11 e11) (cwV 0 hts gX5_tune_X5_record rfl rfl rfl (by decide +kernel) ⟨Nat.le_of_ble_eq_true rfl, Nat.le_of_ble_eq_true rfl⟩) hP hK hD hS hA [0, 1, 2, 3, 4, 5, 6] (by decide) rfl 5 0 rfl rfl rfl rfl hl.1 rfl (Nat.le_of_ble_eq_true rfl) dX5_tune_11 ⟨Nat.le_of_ble_eq_true rfl, Nat.le_of_ble_eq_true rfl⟩ rfl rfl (fun H locs hP hD hS => ?_)
      refine lv_iconst (v := 0) hx hb dX5_tune_14 (by decide) ?_
      refine lv_istore_n (lv' := [(1, .int (0 : Int32)), (0, .ref (adM 0))]) hx hb dX5_tune_15 rfl hl (by decide) rfl (fun ls hl => ?_)
      exact L16   kFu r11 (0 : Int32) h H locs ls hP hD hS (lv_sub hl [1, 0] rfl)
    · have h := kF h (fun z => z c4)
      refine lv_ldc hx hb hown wf3 dX5_tune_7 ?_
      obtain rfl := Option.some.inj h
      subst hQ
      exact W.iret (v := (-1000000003 : Int32)) hx hb hr (fun t ht hW => ⟨⟨(-1000000003 : Int32), (), rfl, rfl, kEnd ht hP⟩, hS.F ht⟩) hS.2.2 dX5_tune_9
  exact E0 s.heap [] ls hP hD hS hl
def fX5_type (vM : KM) (p1 : Int32) : Option (Int32 × KM) := (fX5_in p1 (32 : Int32) (126 : Int32)).bind fun r5 => if ¬ r5 = (0 : Int32) then (if ¬ vM.2.2.2.1 = (80 : Int32) then (if kIn vM.2.2.2.1 80 = true then (some ((vM.2.2.2.1 + (1 : Int32)), (vM.1, vM.2.1, vM.2.2.1, (vM.2.2.2.1 + (1 : Int32)), vM.2.2.2.2.1, vM.2.2.2.2.2.1, vM.2.2.2.2.2.2.1, vM.2.2.2.2.2.2.2.1, vM.2.2.2.2.2.2.2.2.1, (upd vM.2.2.2.2.2.2.2.2.2.1 vM.2.2.2.1.toNatClampNeg p1), vM.2.2.2.2.2.2.2.2.2.2))) else none) else (some ((-1000000004 : Int32), vM))) else (some ((-1000000002 : Int32), vM))
set_option maxHeartbeats 4000000 in
set_option maxRecDepth 100000 in
theorem cX5_type_ok (l : Launch) (D : va_G) (ty : kTy) (adM : Nat → Nat) (sz : Nat) (vM : KM) (p1 : Int32) (res : Int32 × KM) (h : fX5_type vM p1 = some res) : kMI l yX5_type wsX5_type { frames := 1, cells := 0, slots := 0, locals := 22 } [.ref (adM 0), .int p1] D ty (wM ty adM vM) sz res.1 (wM ty adM res.2) := by
  refine Met.ofW (cc := cX5_type) (maxL := 2) (ret := (some .int)) (by decide) rfl ?_
  intro p e s m args below meth c s₁ B hml hv
  obtain ⟨rfl, hsz, hP, hK, hD0⟩ := hv
  have hx := B.exec
  have hb := B.bytes
  have hr := B.returns
  have hts := atoms_spec (ws := wsX5_type) B.pre
  have hown : s.vm.findClass RX5 = some m.cls := findClass_of_methodNamed B.named
  have hlocks := B.notSynchronized
  subst hsz
  have hD := hD0.self (sz := s.heap.size)
  generalize hAe : va_A (wM ty adM vM) s.heap.size = A at hD ⊢
  have hA : ∀ q : Nat, s.heap.size ≤ q → A q := fun q h => by rw [← hAe]; exact Or.inr h
  have hS : va_S A s.heap s.heap [] := va_S.rf
  refine kGenW (fun Q hQ => ?_)
  have wf0 := hts (.fieldLink RX5 139 "IceCoreDaterModel" "texted" "I") (by decide +kernel)
  have hinX5 : ∀ w ∈ wsX50, w ∈ wsX5_type := by decide +kernel
  have wf2 := hts (.fieldLink RX5 19 "IceCoreDaterModel" "text" "[I") (by decide +kernel)
  have wf3 := hts (.constant RX5 106 (-1000000004)) (by decide +kernel)
  have wf4 := hts (.constant RX5 100 (-1000000002)) (by decide +kernel)
  have hl := lv_entry ([.ref (adM 0), .int p1]) (n := 2) (Nat.le_of_ble_eq_true rfl)
  rw [lg_entry_eq]
  generalize (lg_sl ([.ref (adM 0), .int p1]) ++ List.replicate (2 - (lg_sl ([.ref (adM 0), .int p1])).length) Slot.unset).toArray = ls at hl ⊢
  have hl : lv_has ls 2 [(0, .ref (adM 0)), (1, .int p1)] := hl
  unfold fX5_type at h
  have E0 : ∀ (H : Heap) (locs : List Loc) (ls : Array Slot), va_P D vwCl (wM ty adM vM) H → va_D A (wM ty adM vM) → va_S A s.heap H locs → lv_has ls 2 [(0, .ref (adM 0)), (1, .int p1)] → W p l e (headSpec wsX5_type { frames := 1, cells := 0, slots := 0, locals := 22 }).room s m ([.ref (adM 0), .int p1] : List Value).toArray below meth c H locs 0 0 Q (F0 m 0 ls []) := by
    intro H locs ls hP hD hS hl
    refine lv_iload_n hx hb dX5_type_0 rfl (lv_at hl 1 rfl) ?_
    refine lv_bipush (v := 32) hx hb dX5_type_1 (by decide) ?_
    refine lv_bipush (v := 126) hx hb dX5_type_3 (by decide) ?_
    obtain ⟨r5, e5, h⟩ := kBd h
    refine kCallSI (As := [.int p1, .int (32 : Int32), .int (126 : Int32)]) (rest := []) ⟨hx, hb, hml, hown, hts⟩ (cX5_in_ok l D ty  H.size p1 (32 : Int32) (126 : Int32) r5 e5) (va_cwS 3 hts gX5_type_X5_in rfl rfl rfl (by decide +kernel) ⟨Nat.le_of_ble_eq_true rfl, Nat.le_of_ble_eq_true rfl⟩) hP hK hD hS hA rfl hl.1 rfl (Nat.le_of_ble_eq_true rfl) dX5_type_5 ⟨Nat.le_of_ble_eq_true rfl, Nat.le_of_ble_eq_true rfl⟩ (fun H locs hP hS => ?_)
    refine lv_if_ne (tgt := 14) hx hb dX5_type_8 (by decide) (fun c8 => ?_) (fun c8 => ?_)
    · have h := kT h c8
      refine lv_aload_n hx hb dX5_type_14 rfl (lv_at hl 0 rfl) ?_
      refine va_get (D := D) (ci := 5) (v := .int vM.2.2.2.1) (C := RX5) (T := TX5) (N := 12) hx hb hts hinX5 hown hK.1 hP 0 rfl rfl 7 (by decide) wf0 (fun _ h9 => h9) rfl dX5_type_15 ?_
      refine lv_bipush (v := 80) hx hb dX5_type_18 (by decide) ?_
      refine lv_icmp_ne (tgt := 26) hx hb dX5_type_20 (by decide) (fun c20 => ?_) (fun c20 => ?_)
      · have h := kT h c20
        refine lv_aload_n hx hb dX5_type_26 rfl (lv_at hl 0 rfl) ?_
        refine va_get (D := D) (ci := 5) (v := .ref (adM 4)) (C := RX5) (T := TX5) (N := 12) hx hb hts hinX5 hown hK.1 hP 0 rfl rfl 6 (by decide) wf2 (fun _ h9 => h9) rfl dX5_type_27 ?_
        refine lv_aload_n hx hb dX5_type_30 rfl (lv_at hl 0 rfl) ?_
        refine va_get (D := D) (ci := 5) (v := .int vM.2.2.2.1) (C := RX5) (T := TX5) (N := 12) hx hb hts hinX5 hown hK.1 hP 0 rfl rfl 7 (by decide) wf0 (fun _ h9 => h9) rfl dX5_type_31 ?_
        refine lv_iload_n hx hb dX5_type_34 rfl (lv_at hl 1 rfl) ?_
        obtain ⟨b35, h⟩ := kIf h
        refine va_iast (f := vM.2.2.2.2.2.2.2.2.2.1) (n := 80) hx hb hK.1 hP hD hS 4 0 rfl rfl (kIn_ok b35) dX5_type_35 (fun H locs hP hD hS => ?_)
        have hP : va_P D vwCl (wM ty adM (vM.1, vM.2.1, vM.2.2.1, vM.2.2.2.1, vM.2.2.2.2.1, vM.2.2.2.2.2.1, vM.2.2.2.2.2.2.1, vM.2.2.2.2.2.2.2.1, vM.2.2.2.2.2.2.2.2.1, (upd vM.2.2.2.2.2.2.2.2.2.1 vM.2.2.2.1.toNatClampNeg p1), vM.2.2.2.2.2.2.2.2.2.2)) H := hP
        have hD : va_D A (wM ty adM (vM.1, vM.2.1, vM.2.2.1, vM.2.2.2.1, vM.2.2.2.2.1, vM.2.2.2.2.2.1, vM.2.2.2.2.2.2.1, vM.2.2.2.2.2.2.2.1, vM.2.2.2.2.2.2.2.2.1, (upd vM.2.2.2.2.2.2.2.2.2.1 vM.2.2.2.1.toNatClampNeg p1), vM.2.2.2.2.2.2.2.2.2.2)) := hD
        refine lv_aload_n hx hb dX5_type_36 rfl (lv_at hl 0 rfl) ?_
        refine lv_dup hx hb dX5_type_37 rfl ?_
        refine va_get (D := D) (ci := 5) (v := .int vM.2.2.2.1) (C := RX5) (T := TX5) (N := 12) hx hb hts hinX5 hown hK.1 hP 0 rfl rfl 7 (by decide) wf0 (fun _ h9 => h9) rfl dX5_type_38 ?_
        refine lv_iconst (v := 1) hx hb dX5_type_41 (by decide) ?_
        refine lv_iadd hx hb dX5_type_42 ?_
        refine va_put (D := D) (ci := 5) (v := .int (vM.2.2.2.1 + (1 : Int32))) (ty := .int) (C := RX5) (T := TX5) (N := 12) hx hb hts hinX5 tyX5 tyX5_ok nmX5 hown hK.1 hP hD hS 0 rfl rfl 7 (by decide) wf0 (fun _ h9 => h9) rfl (by decide +kernel) rfl rfl (Nat.le_of_ble_eq_true rfl) dX5_type_43 (fun H locs hP hD hS => ?_)
        have hP : va_P D vwCl (wM ty adM (vM.1, vM.2.1, vM.2.2.1, (vM.2.2.2.1 + (1 : Int32)), vM.2.2.2.2.1, vM.2.2.2.2.2.1, vM.2.2.2.2.2.2.1, vM.2.2.2.2.2.2.2.1, vM.2.2.2.2.2.2.2.2.1, (upd vM.2.2.2.2.2.2.2.2.2.1 vM.2.2.2.1.toNatClampNeg p1), vM.2.2.2.2.2.2.2.2.2.2)) H := hP
        have hD : va_D A (wM ty adM (vM.1, vM.2.1, vM.2.2.1, (vM.2.2.2.1 + (1 : Int32)), vM.2.2.2.2.1, vM.2.2.2.2.2.1, vM.2.2.2.2.2.2.1, vM.2.2.2.2.2.2.2.1, vM.2.2.2.2.2.2.2.2.1, (upd vM.2.2.2.2.2.2.2.2.2.1 vM.2.2.2.1.toNatClampNeg p1), vM.2.2.2.2.2.2.2.2.2.2)) := hD
        refine lv_aload_n hx hb dX5_type_46 rfl (lv_at hl 0 rfl) ?_
        refine va_get (D := D) (ci := 5) (v := .int (vM.2.2.2.1 + (1 : Int32))) (C := RX5) (T := TX5) (N := 12) hx hb hts hinX5 hown hK.1 hP 0 rfl rfl 7 (by decide) wf0 (fun _ h9 => h9) rfl dX5_type_47 ?_
        obtain rfl := Option.some.inj h
        subst hQ
        exact W.iret (v := (vM.2.2.2.1 + (1 : Int32))) hx hb hr (fun t ht hW => ⟨⟨(vM.2.2.2.1 + (1 : Int32)), (), rfl, rfl, kEnd ht hP⟩, hS.F ht⟩) hS.2.2 dX5_type_50
      · have h := kF h (fun z => z c20)
        refine lv_ldc hx hb hown wf3 dX5_type_23 ?_
        obtain rfl := Option.some.inj h
        subst hQ
        exact W.iret (v := (-1000000004 : Int32)) hx hb hr (fun t ht hW => ⟨⟨(-1000000004 : Int32), (), rfl, rfl, kEnd ht hP⟩, hS.F ht⟩) hS.2.2 dX5_type_25
    · have h := kF h (fun z => z c8)
      refine lv_ldc hx hb hown wf4 dX5_type_11 ?_
      obtain rfl := Option.some.inj h
      subst hQ
      exact W.iret (v := (-1000000002 : Int32)) hx hb hr (fun t ht hW => ⟨⟨(-1000000002 : Int32), (), rfl, rfl, kEnd ht hP⟩, hS.F ht⟩) hS.2.2 dX5_type_13
  exact E0 s.heap [] ls hP hD hS hl
def fX5_clearText (vM : KM) : Option (Int32 × KM) := some (vM.2.2.2.1, (vM.1, vM.2.1, vM.2.2.1, (0 : Int32), vM.2.2.2.2))
set_option maxHeartbeats 4000000 in
set_option maxRecDepth 100000 in
theorem cX5_clearText_ok (l : Launch) (D : va_G) (ty : kTy) (adM : Nat → Nat) (sz : Nat) (vM : KM) (res : Int32 × KM) (h : fX5_clearText vM = some res) : kMI l yX5_clearText wsX5_clearText { frames := 0, cells := 0, slots := 0, locals := 0 } [.ref (adM 0)] D ty (wM ty adM vM) sz res.1 (wM ty adM res.2) := by
  refine Met.ofW (cc := cX5_clearText) (maxL := 2) (ret := (some .int)) (by decide) rfl ?_
  intro p e s m args below meth c s₁ B hml hv
  obtain ⟨rfl, hsz, hP, hK, hD0⟩ := hv
  have hx := B.exec
  have hb := B.bytes
  have hr := B.returns
  have hts := atoms_spec (ws := wsX5_clearText) B.pre
  have hown : s.vm.findClass RX5 = some m.cls := findClass_of_methodNamed B.named
  have hlocks := B.notSynchronized
  subst hsz
  have hD := hD0.self (sz := s.heap.size)
  generalize hAe : va_A (wM ty adM vM) s.heap.size = A at hD ⊢
  have hA : ∀ q : Nat, s.heap.size ≤ q → A q := fun q h => by rw [← hAe]; exact Or.inr h
  have hS : va_S A s.heap s.heap [] := va_S.rf
  refine kGenW (fun Q hQ => ?_)
  have wf0 := hts (.fieldLink RX5 139 "IceCoreDaterModel" "texted" "I") (by decide +kernel)
  have hinX5 : ∀ w ∈ wsX50, w ∈ wsX5_clearText := by decide +kernel
  have hl := lv_entry ([.ref (adM 0)]) (n := 2) (Nat.le_of_ble_eq_true rfl)
  rw [lg_entry_eq]
  generalize (lg_sl ([.ref (adM 0)]) ++ List.replicate (2 - (lg_sl ([.ref (adM 0)])).length) Slot.unset).toArray = ls at hl ⊢
  have hl : lv_has ls 2 [(0, .ref (adM 0))] := hl
  unfold fX5_clearText at h
  have E0 : ∀ (H : Heap) (locs : List Loc) (ls : Array Slot), va_P D vwCl (wM ty adM vM) H → va_D A (wM ty adM vM) → va_S A s.heap H locs → lv_has ls 2 [(0, .ref (adM 0))] → W p l e (headSpec wsX5_clearText { frames := 0, cells := 0, slots := 0, locals := 0 }).room s m ([.ref (adM 0)] : List Value).toArray below meth c H locs 0 0 Q (F0 m 0 ls []) := by
    intro H locs ls hP hD hS hl
    refine lv_aload_n hx hb dX5_clearText_0 rfl (lv_at hl 0 rfl) ?_
    refine va_get (D := D) (ci := 5) (v := .int vM.2.2.2.1) (C := RX5) (T := TX5) (N := 12) hx hb hts hinX5 hown hK.1 hP 0 rfl rfl 7 (by decide) wf0 (fun _ h9 => h9) rfl dX5_clearText_1 ?_
    refine lv_istore_n (lv' := [(1, .int vM.2.2.2.1), (0, .ref (adM 0))]) hx hb dX5_clearText_4 rfl hl (by decide) rfl (fun ls hl => ?_)
    refine lv_aload_n hx hb dX5_clearText_5 rfl (lv_at hl 1 rfl) ?_
    refine lv_iconst (v := 0) hx hb dX5_clearText_6 (by decide) ?_
    refine va_put (D := D) (ci := 5) (v := .int (0 : Int32)) (ty := .int) (C := RX5) (T := TX5) (N := 12) hx hb hts hinX5 tyX5 tyX5_ok nmX5 hown hK.1 hP hD hS 0 rfl rfl 7 (by decide) wf0 (fun _ h9 => h9) rfl (by decide +kernel) rfl rfl (Nat.le_of_ble_eq_true rfl) dX5_clearText_7 (fun H locs hP hD hS => ?_)
    have hP : va_P D vwCl (wM ty adM (vM.1, vM.2.1, vM.2.2.1, (0 : Int32), vM.2.2.2.2)) H := hP
    have hD : va_D A (wM ty adM (vM.1, vM.2.1, vM.2.2.1, (0 : Int32), vM.2.2.2.2)) := hD
    refine lv_iload_n hx hb dX5_clearText_10 rfl (lv_at hl 0 rfl) ?_
    obtain rfl := Option.some.inj h
    subst hQ
    exact W.iret (v := vM.2.2.2.1) hx hb hr (fun t ht hW => ⟨⟨vM.2.2.2.1, (), rfl, rfl, kEnd ht hP⟩, hS.F ht⟩) hS.2.2 dX5_clearText_11
  exact E0 s.heap [] ls hP hD hS hl
def fX5_word_c84 (x5 : Int32) (s0 : Int64) : Option (Int64) := if ¬ x5 = (0 : Int32) then (some (((128 : Int64) * s0) + x5.toInt64)) else some s0
def fX5_word_c62 (x4 : Int32) (x5 : Int32) (s0 : Int64) : Option (Int64) := if ¬ x4 = (0 : Int32) then (fX5_word_c84 x5 (((128 : Int64) * s0) + x4.toInt64)) else (fX5_word_c84 x5 s0)
def fX5_word_c42 (x3 : Int32) (x4 : Int32) (x5 : Int32) (s0 : Int64) : Option (Int64) := if ¬ x3 = (0 : Int32) then (fX5_word_c62 x4 x5 (((128 : Int64) * s0) + x3.toInt64)) else (fX5_word_c62 x4 x5 s0)
def fX5_word_c22 (x2 : Int32) (x3 : Int32) (x4 : Int32) (x5 : Int32) (s0 : Int64) : Option (Int64) := if ¬ x2 = (0 : Int32) then (fX5_word_c42 x3 x4 x5 (((128 : Int64) * s0) + x2.toInt64)) else (fX5_word_c42 x3 x4 x5 s0)
def fX5_word (p0 : Int32) (p1 : Int32) (p2 : Int32) (p3 : Int32) (p4 : Int32) (p5 : Int32) : Option (Int64) := if ¬ p1 = (0 : Int32) then (fX5_word_c22 p2 p3 p4 p5 (((128 : Int64) * p0.toInt64) + p1.toInt64)) else (fX5_word_c22 p2 p3 p4 p5 p0.toInt64)
set_option maxHeartbeats 4000000 in
set_option maxRecDepth 100000 in
theorem cX5_word_ok (l : Launch) (D : va_G) (ty : kTy)  (sz : Nat) (p0 : Int32) (p1 : Int32) (p2 : Int32) (p3 : Int32) (p4 : Int32) (p5 : Int32) (res : Int64) (h : fX5_word p0 p1 p2 p3 p4 p5 = some res) : kML l yX5_word wsX5_word { frames := 0, cells := 0, slots := 0, locals := 0 } [.int p0, .int p1, .int p2, .int p3, .int p4, .int p5] D ty (([] : va_W)) sz res (([] : va_W)) := by
  refine Met.ofW (cc := cX5_word) (maxL := 8) (ret := (some .long)) (by decide) rfl ?_
  intro p e s m args below meth c s₁ B hml hv
  obtain ⟨rfl, hsz, hP, hK, hD0⟩ := hv
  have hx := B.exec
  have hb := B.bytes
  have hr := B.returns
  have hts := atoms_spec (ws := wsX5_word) B.pre
  have hown : s.vm.findClass RX5 = some m.cls := findClass_of_methodNamed B.named
  have hlocks := B.notSynchronized
  subst hsz
  have hD := hD0.self (sz := s.heap.size)
  generalize hAe : va_A (([] : va_W)) s.heap.size = A at hD ⊢
  have hA : ∀ q : Nat, s.heap.size ≤ q → A q := fun q h => by rw [← hAe]; exact Or.inr h
  have hS : va_S A s.heap s.heap [] := va_S.rf
  refine kGenW (fun Q hQ => ?_)
  have wf0 := hts (.constantLong RX5 142 (128)) (by decide +kernel)
  have J84 : ∀ (x5 : Int32) (s0 : Int64), fX5_word_c84 x5 s0 = some res → ∀ (H : Heap) (locs : List Loc) (ls : Array Slot), va_P D vwCl (([] : va_W)) H → va_D A (([] : va_W)) → va_S A s.heap H locs → lv_has ls 8 [(5, .int x5)] → W p l e (headSpec wsX5_word { frames := 0, cells := 0, slots := 0, locals := 0 }).room s m ([.int p0, .int p1, .int p2, .int p3, .int p4, .int p5] : List Value).toArray below meth c H locs 0 0 Q (F0 m 84 ls [.long s0]) := by
    intro x5 s0 h H locs ls hP hD hS hl
    unfold fX5_word_c84 at h
    refine lv_lstore (lv' := [(6, .long s0), (5, .int x5)]) hx hb dX5_word_84 hl (by decide) rfl (fun ls hl => ?_)
    refine lv_iload hx hb dX5_word_86 (lv_at hl 1 rfl) ?_
    refine lv_if_ne (tgt := 96) hx hb dX5_word_88 (by decide) (fun c88 => ?_) (fun c88 => ?_)
    · have h := kT h c88
      refine lv_ldc2 hx hb hown wf0 dX5_word_96 ?_
      refine lv_lload hx hb dX5_word_99 (lv_at hl 0 rfl) ?_
      refine lv_lmul hx hb dX5_word_101 ?_
      refine lv_iload hx hb dX5_word_102 (lv_at hl 1 rfl) ?_
      refine lv_i2l hx hb dX5_word_104 rfl ?_
      refine lv_ladd hx hb dX5_word_105 ?_
      obtain rfl := Option.some.inj h
      subst hQ
      exact W.lret (v := (((128 : Int64) * s0) + x5.toInt64)) hx hb hr (fun t ht hW => ⟨⟨(((128 : Int64) * s0) + x5.toInt64), (), rfl, rfl, kEnd ht hP⟩, hS.F ht⟩) hS.2.2 dX5_word_106
    · have h := kF h (fun z => z c88)
      refine lv_lload hx hb dX5_word_91 (lv_at hl 0 rfl) ?_
      refine lv_goto (tgt := 106) hx hb dX5_word_93 (by decide) ?_
      obtain rfl := Option.some.inj h
      subst hQ
      exact W.lret (v := s0) hx hb hr (fun t ht hW => ⟨⟨s0, (), rfl, rfl, kEnd ht hP⟩, hS.F ht⟩) hS.2.2 dX5_word_106
  have J62 : ∀ (x4 : Int32) (x5 : Int32) (s0 : Int64), fX5_word_c62 x4 x5 s0 = some res → ∀ (H : Heap) (locs : List Loc) (ls : Array Slot), va_P D vwCl (([] : va_W)) H → va_D A (([] : va_W)) → va_S A s.heap H locs → lv_has ls 8 [(4, .int x4), (5, .int x5)] → W p l e (headSpec wsX5_word { frames := 0, cells := 0, slots := 0, locals := 0 }).room s m ([.int p0, .int p1, .int p2, .int p3, .int p4, .int p5] : List Value).toArray below meth c H locs 0 0 Q (F0 m 62 ls [.long s0]) := by
    intro x4 x5 s0 h H locs ls hP hD hS hl
    unfold fX5_word_c62 at h
    refine lv_lstore (lv' := [(6, .long s0), (4, .int x4), (5, .int x5)]) hx hb dX5_word_62 hl (by decide) rfl (fun ls hl => ?_)
    refine lv_iload hx hb dX5_word_64 (lv_at hl 1 rfl) ?_
    refine lv_if_ne (tgt := 74) hx hb dX5_word_66 (by decide) (fun c66 => ?_) (fun c66 => ?_)
    · have h := kT h c66
      refine lv_ldc2 hx hb hown wf0 dX5_word_74 ?_
      refine lv_lload hx hb dX5_word_77 (lv_at hl 0 rfl) ?_
      refine lv_lmul hx hb dX5_word_79 ?_
      refine lv_iload hx hb dX5_word_80 (lv_at hl 1 rfl) ?_
      refine lv_i2l hx hb dX5_word_82 rfl ?_
      refine lv_ladd hx hb dX5_word_83 ?_
      exact J84 x5 (((128 : Int64) * s0) + x4.toInt64) h H locs ls hP hD hS (lv_sub hl [2] rfl)
    · have h := kF h (fun z => z c66)
      refine lv_lload hx hb dX5_word_69 (lv_at hl 0 rfl) ?_
      refine lv_goto (tgt := 84) hx hb dX5_word_71 (by decide) ?_
      exact J84 x5 s0 h H locs ls hP hD hS (lv_sub hl [2] rfl)
  have J42 : ∀ (x3 : Int32) (x4 : Int32) (x5 : Int32) (s0 : Int64), fX5_word_c42 x3 x4 x5 s0 = some res → ∀ (H : Heap) (locs : List Loc) (ls : Array Slot), va_P D vwCl (([] : va_W)) H → va_D A (([] : va_W)) → va_S A s.heap H locs → lv_has ls 8 [(3, .int x3), (4, .int x4), (5, .int x5)] → W p l e (headSpec wsX5_word { frames := 0, cells := 0, slots := 0, locals := 0 }).room s m ([.int p0, .int p1, .int p2, .int p3, .int p4, .int p5] : List Value).toArray below meth c H locs 0 0 Q (F0 m 42 ls [.long s0]) := by
    intro x3 x4 x5 s0 h H locs ls hP hD hS hl
    unfold fX5_word_c42 at h
    refine lv_lstore (lv' := [(6, .long s0), (3, .int x3), (4, .int x4), (5, .int x5)]) hx hb dX5_word_42 hl (by decide) rfl (fun ls hl => ?_)
    refine lv_iload_n hx hb dX5_word_44 rfl (lv_at hl 1 rfl) ?_
    refine lv_if_ne (tgt := 53) hx hb dX5_word_45 (by decide) (fun c45 => ?_) (fun c45 => ?_)
    · have h := kT h c45
      refine lv_ldc2 hx hb hown wf0 dX5_word_53 ?_
      refine lv_lload hx hb dX5_word_56 (lv_at hl 0 rfl) ?_
      refine lv_lmul hx hb dX5_word_58 ?_
      refine lv_iload_n hx hb dX5_word_59 rfl (lv_at hl 1 rfl) ?_
      refine lv_i2l hx hb dX5_word_60 rfl ?_
      refine lv_ladd hx hb dX5_word_61 ?_
      exact J62 x4 x5 (((128 : Int64) * s0) + x3.toInt64) h H locs ls hP hD hS (lv_sub hl [2, 3] rfl)
    · have h := kF h (fun z => z c45)
      refine lv_lload hx hb dX5_word_48 (lv_at hl 0 rfl) ?_
      refine lv_goto (tgt := 62) hx hb dX5_word_50 (by decide) ?_
      exact J62 x4 x5 s0 h H locs ls hP hD hS (lv_sub hl [2, 3] rfl)
  have J22 : ∀ (x2 : Int32) (x3 : Int32) (x4 : Int32) (x5 : Int32) (s0 : Int64), fX5_word_c22 x2 x3 x4 x5 s0 = some res → ∀ (H : Heap) (locs : List Loc) (ls : Array Slot), va_P D vwCl (([] : va_W)) H → va_D A (([] : va_W)) → va_S A s.heap H locs → lv_has ls 8 [(2, .int x2), (3, .int x3), (4, .int x4), (5, .int x5)] → W p l e (headSpec wsX5_word { frames := 0, cells := 0, slots := 0, locals := 0 }).room s m ([.int p0, .int p1, .int p2, .int p3, .int p4, .int p5] : List Value).toArray below meth c H locs 0 0 Q (F0 m 22 ls [.long s0]) := by
    intro x2 x3 x4 x5 s0 h H locs ls hP hD hS hl
    unfold fX5_word_c22 at h
    refine lv_lstore (lv' := [(6, .long s0), (2, .int x2), (3, .int x3), (4, .int x4), (5, .int x5)]) hx hb dX5_word_22 hl (by decide) rfl (fun ls hl => ?_)
    refine lv_iload_n hx hb dX5_word_24 rfl (lv_at hl 1 rfl) ?_
    refine lv_if_ne (tgt := 33) hx hb dX5_word_25 (by decide) (fun c25 => ?_) (fun c25 => ?_)
    · have h := kT h c25
      refine lv_ldc2 hx hb hown wf0 dX5_word_33 ?_
      refine lv_lload hx hb dX5_word_36 (lv_at hl 0 rfl) ?_
      refine lv_lmul hx hb dX5_word_38 ?_
      refine lv_iload_n hx hb dX5_word_39 rfl (lv_at hl 1 rfl) ?_
      refine lv_i2l hx hb dX5_word_40 rfl ?_
      refine lv_ladd hx hb dX5_word_41 ?_
      exact J42 x3 x4 x5 (((128 : Int64) * s0) + x2.toInt64) h H locs ls hP hD hS (lv_sub hl [2, 3, 4] rfl)
    · have h := kF h (fun z => z c25)
      refine lv_lload hx hb dX5_word_28 (lv_at hl 0 rfl) ?_
      refine lv_goto (tgt := 42) hx hb dX5_word_30 (by decide) ?_
      exact J42 x3 x4 x5 s0 h H locs ls hP hD hS (lv_sub hl [2, 3, 4] rfl)
  have hl := lv_entry ([.int p0, .int p1, .int p2, .int p3, .int p4, .int p5]) (n := 8) (Nat.le_of_ble_eq_true rfl)
  rw [lg_entry_eq]
  generalize (lg_sl ([.int p0, .int p1, .int p2, .int p3, .int p4, .int p5]) ++ List.replicate (8 - (lg_sl ([.int p0, .int p1, .int p2, .int p3, .int p4, .int p5])).length) Slot.unset).toArray = ls at hl ⊢
  have hl : lv_has ls 8 [(0, .int p0), (1, .int p1), (2, .int p2), (3, .int p3), (4, .int p4), (5, .int p5)] := hl
  unfold fX5_word at h
  have E0 : ∀ (H : Heap) (locs : List Loc) (ls : Array Slot), va_P D vwCl (([] : va_W)) H → va_D A (([] : va_W)) → va_S A s.heap H locs → lv_has ls 8 [(0, .int p0), (1, .int p1), (2, .int p2), (3, .int p3), (4, .int p4), (5, .int p5)] → W p l e (headSpec wsX5_word { frames := 0, cells := 0, slots := 0, locals := 0 }).room s m ([.int p0, .int p1, .int p2, .int p3, .int p4, .int p5] : List Value).toArray below meth c H locs 0 0 Q (F0 m 0 ls []) := by
    intro H locs ls hP hD hS hl
    refine lv_iload_n hx hb dX5_word_0 rfl (lv_at hl 0 rfl) ?_
    refine lv_i2l hx hb dX5_word_1 rfl ?_
    refine lv_lstore (lv' := [(6, .long p0.toInt64), (0, .int p0), (1, .int p1), (2, .int p2), (3, .int p3), (4, .int p4), (5, .int p5)]) hx hb dX5_word_2 hl (by decide) rfl (fun ls hl => ?_)
    refine lv_iload_n hx hb dX5_word_4 rfl (lv_at hl 2 rfl) ?_
    refine lv_if_ne (tgt := 13) hx hb dX5_word_5 (by decide) (fun c5 => ?_) (fun c5 => ?_)
    · have h := kT h c5
      refine lv_ldc2 hx hb hown wf0 dX5_word_13 ?_
      refine lv_lload hx hb dX5_word_16 (lv_at hl 0 rfl) ?_
      refine lv_lmul hx hb dX5_word_18 ?_
      refine lv_iload_n hx hb dX5_word_19 rfl (lv_at hl 2 rfl) ?_
      refine lv_i2l hx hb dX5_word_20 rfl ?_
      refine lv_ladd hx hb dX5_word_21 ?_
      exact J22 p2 p3 p4 p5 (((128 : Int64) * p0.toInt64) + p1.toInt64) h H locs ls hP hD hS (lv_sub hl [3, 4, 5, 6] rfl)
    · have h := kF h (fun z => z c5)
      refine lv_lload hx hb dX5_word_8 (lv_at hl 0 rfl) ?_
      refine lv_goto (tgt := 22) hx hb dX5_word_10 (by decide) ?_
      exact J22 p2 p3 p4 p5 p0.toInt64 h H locs ls hP hD hS (lv_sub hl [3, 4, 5, 6] rfl)
  exact E0 s.heap [] ls hP hD hS hl
def fX5_readWord_c23 (uM : KM) (x1 : Int32) (x2 : Int32) (x3 : Int64) (x5 : Int32) (x6 : Int32) (x7 : Int32) (nx23 : Int64 × Int32 × Int32 × Int32 → Option (KM)) : Option (KM) := if x2 ≤ x7 then (if kIn uM.2.2.2.2.2.1 40 = true then (if x6 = (0 : Int32) then (if kIn uM.2.2.2.2.2.1 40 = true then (some (uM.1, uM.2.1, uM.2.2.1, uM.2.2.2.1, uM.2.2.2.2.1, (uM.2.2.2.2.2.1 + (1 : Int32)), uM.2.2.2.2.2.2.1, uM.2.2.2.2.2.2.2.1, uM.2.2.2.2.2.2.2.2.1, uM.2.2.2.2.2.2.2.2.2.1, (vp_updL uM.2.2.2.2.2.2.2.2.2.2.1 uM.2.2.2.2.2.1.toNatClampNeg x3), (upd uM.2.2.2.2.2.2.2.2.2.2.2 uM.2.2.2.2.2.1.toNatClampNeg (-1000000005 : Int32)))) else none) else (if kIn uM.2.2.2.2.2.1 40 = true then (some (uM.1, uM.2.1, uM.2.2.1, uM.2.2.2.1, uM.2.2.2.2.1, (uM.2.2.2.2.2.1 + (1 : Int32)), uM.2.2.2.2.2.2.1, uM.2.2.2.2.2.2.2.1, uM.2.2.2.2.2.2.2.2.1, uM.2.2.2.2.2.2.2.2.2.1, (vp_updL uM.2.2.2.2.2.2.2.2.2.2.1 uM.2.2.2.2.2.1.toNatClampNeg x3), (upd uM.2.2.2.2.2.2.2.2.2.2.2 uM.2.2.2.2.2.1.toNatClampNeg x5))) else none)) else none) else (if (x2 - x1) ≤ (8 : Int32) then (if kIn x7 80 = true then ((some (((128 : Int64) * x3) + (uM.2.2.2.2.2.2.2.2.2.1 x7.toNatClampNeg).toInt64)).bind fun y55 => if x6 = (0 : Int32) then (if (0 : Int32) = (0 : Int32) then (nx23 (y55, (0 : Int32), (0 : Int32), (x7 + 1))) else (if kIn x7 80 = true then ((some ((((10 : Int32) * x5) + (uM.2.2.2.2.2.2.2.2.2.1 x7.toNatClampNeg)) - (48 : Int32))).bind fun y110 => nx23 (y55, y110, (0 : Int32), (x7 + 1))) else none)) else (if kIn x7 80 = true then ((fX5_in (uM.2.2.2.2.2.2.2.2.2.1 x7.toNatClampNeg) (48 : Int32) (57 : Int32)).bind fun r72 => if r72 = (0 : Int32) then (if (0 : Int32) = (0 : Int32) then (nx23 (y55, (0 : Int32), (0 : Int32), (x7 + 1))) else (if kIn x7 80 = true then ((some ((((10 : Int32) * x5) + (uM.2.2.2.2.2.2.2.2.2.1 x7.toNatClampNeg)) - (48 : Int32))).bind fun y110 => nx23 (y55, y110, (0 : Int32), (x7 + 1))) else none)) else (if (1 : Int32) = (0 : Int32) then (nx23 (y55, (0 : Int32), (1 : Int32), (x7 + 1))) else (if kIn x7 80 = true then ((some ((((10 : Int32) * x5) + (uM.2.2.2.2.2.2.2.2.2.1 x7.toNatClampNeg)) - (48 : Int32))).bind fun y110 => nx23 (y55, y110, (1 : Int32), (x7 + 1))) else none))) else none)) else none) else (if x6 = (0 : Int32) then (if (0 : Int32) = (0 : Int32) then (nx23 ((0 : Int64), (0 : Int32), (0 : Int32), (x7 + 1))) else (if kIn x7 80 = true then ((some ((((10 : Int32) * x5) + (uM.2.2.2.2.2.2.2.2.2.1 x7.toNatClampNeg)) - (48 : Int32))).bind fun y110 => nx23 ((0 : Int64), y110, (0 : Int32), (x7 + 1))) else none)) else (if kIn x7 80 = true then ((fX5_in (uM.2.2.2.2.2.2.2.2.2.1 x7.toNatClampNeg) (48 : Int32) (57 : Int32)).bind fun r72 => if r72 = (0 : Int32) then (if (0 : Int32) = (0 : Int32) then (nx23 ((0 : Int64), (0 : Int32), (0 : Int32), (x7 + 1))) else (if kIn x7 80 = true then ((some ((((10 : Int32) * x5) + (uM.2.2.2.2.2.2.2.2.2.1 x7.toNatClampNeg)) - (48 : Int32))).bind fun y110 => nx23 ((0 : Int64), y110, (0 : Int32), (x7 + 1))) else none)) else (if (1 : Int32) = (0 : Int32) then (nx23 ((0 : Int64), (0 : Int32), (1 : Int32), (x7 + 1))) else (if kIn x7 80 = true then ((some ((((10 : Int32) * x5) + (uM.2.2.2.2.2.2.2.2.2.1 x7.toNatClampNeg)) - (48 : Int32))).bind fun y110 => nx23 ((0 : Int64), y110, (1 : Int32), (x7 + 1))) else none))) else none)))
def fX5_readWord (vM : KM) (p1 : Int32) (p2 : Int32) : Option (KM) := if (9 : Int32) < (p2 - p1) then (kLoopC kFu (fun q nx23 => fX5_readWord_c23 vM p1 p2 q.1 q.2.1 q.2.2.1 q.2.2.2 nx23) ((0 : Int64), (0 : Int32), (0 : Int32), p1)) else (kLoopC kFu (fun q nx23 => fX5_readWord_c23 vM p1 p2 q.1 q.2.1 q.2.2.1 q.2.2.2 nx23) ((0 : Int64), (0 : Int32), (1 : Int32), p1))
set_option maxHeartbeats 4000000 in
set_option maxRecDepth 100000 in
theorem cX5_readWord_ok (l : Launch) (D : va_G) (ty : kTy) (adM : Nat → Nat) (sz : Nat) (vM : KM) (p1 : Int32) (p2 : Int32) (res : KM) (h : fX5_readWord vM p1 p2 = some res) : kMV l yX5_readWord wsX5_readWord { frames := 1, cells := 0, slots := 0, locals := 22 } [.ref (adM 0), .int p1, .int p2] D ty (wM ty adM vM) sz (wM ty adM res) := by
  refine Met.ofW (cc := cX5_readWord) (maxL := 8) (ret := none) (by decide) rfl ?_
  intro p e s m args below meth c s₁ B hml hv
  obtain ⟨rfl, hsz, hP, hK, hD0⟩ := hv
  have hx := B.exec
  have hb := B.bytes
  have hr := B.returns
  have hts := atoms_spec (ws := wsX5_readWord) B.pre
  have hown : s.vm.findClass RX5 = some m.cls := findClass_of_methodNamed B.named
  have hlocks := B.notSynchronized
  subst hsz
  have hD := hD0.self (sz := s.heap.size)
  generalize hAe : va_A (wM ty adM vM) s.heap.size = A at hD ⊢
  have hA : ∀ q : Nat, s.heap.size ≤ q → A q := fun q h => by rw [← hAe]; exact Or.inr h
  have hS : va_S A s.heap s.heap [] := va_S.rf
  refine kGenW (fun Q hQ => ?_)
  have wf0 := hts (.fieldLink RX5 27 "IceCoreDaterModel" "spelled" "[J") (by decide +kernel)
  have hinX5 : ∀ w ∈ wsX50, w ∈ wsX5_readWord := by decide +kernel
  have wf2 := hts (.fieldLink RX5 144 "IceCoreDaterModel" "words" "I") (by decide +kernel)
  have wf3 := hts (.fieldLink RX5 31 "IceCoreDaterModel" "numbers" "[I") (by decide +kernel)
  have wf4 := hts (.constant RX5 22 (-1000000005)) (by decide +kernel)
  have wf5 := hts (.constantLong RX5 142 (128)) (by decide +kernel)
  have wf6 := hts (.fieldLink RX5 19 "IceCoreDaterModel" "text" "[I") (by decide +kernel)
  have B23 : ∀ (uM : KM) (x1 : Int32) (x2 : Int32) (nx23 : Int64 × Int32 × Int32 × Int32 → Option (KM)) (hn23 : ∀ (x3 : Int64) (x5 : Int32) (x6 : Int32) (x7 : Int32), nx23 (x3, x5, x6, x7) = some res → ∀ (H : Heap) (locs : List Loc) (ls : Array Slot), va_P D vwCl (wM ty adM uM) H → va_D A (wM ty adM uM) → va_S A s.heap H locs → lv_has ls 8 [(0, .ref (adM 0)), (1, .int x1), (2, .int x2), (3, .long x3), (5, .int x5), (6, .int x6), (7, .int x7)] → W p l e (headSpec wsX5_readWord { frames := 1, cells := 0, slots := 0, locals := 22 }).room s m ([.ref (adM 0), .int p1, .int p2] : List Value).toArray below meth c H locs 0 0 Q (F0 m 23 ls [])) (x3 : Int64) (x5 : Int32) (x6 : Int32) (x7 : Int32), fX5_readWord_c23 uM x1 x2 x3 x5 x6 x7 nx23 = some res → ∀ (H : Heap) (locs : List Loc) (ls : Array Slot), va_P D vwCl (wM ty adM uM) H → va_D A (wM ty adM uM) → va_S A s.heap H locs → lv_has ls 8 [(0, .ref (adM 0)), (1, .int x1), (2, .int x2), (3, .long x3), (5, .int x5), (6, .int x6), (7, .int x7)] → W p l e (headSpec wsX5_readWord { frames := 1, cells := 0, slots := 0, locals := 22 }).room s m ([.ref (adM 0), .int p1, .int p2] : List Value).toArray below meth c H locs 0 0 Q (F0 m 23 ls []) := by
    intro uM x1 x2 nx23 hn23 x3 x5 x6 x7 h H locs ls hP hD hS hl
    unfold fX5_readWord_c23 at h
    refine lv_iload hx hb dX5_readWord_23 (lv_at hl 6 rfl) ?_
    refine lv_iload_n hx hb dX5_readWord_25 rfl (lv_at hl 2 rfl) ?_
    refine lv_icmp_ge (tgt := 118) hx hb dX5_readWord_26 (by decide) (fun c26 => ?_) (fun c26 => ?_)
    · have h := kT h c26
      refine lv_aload_n hx hb dX5_readWord_118 rfl (lv_at hl 0 rfl) ?_
      refine va_get (D := D) (ci := 5) (v := .ref (adM 5)) (C := RX5) (T := TX5) (N := 12) hx hb hts hinX5 hown hK.1 hP 0 rfl rfl 10 (by decide) wf0 (fun _ h9 => h9) rfl dX5_readWord_119 ?_
      refine lv_aload_n hx hb dX5_readWord_122 rfl (lv_at hl 0 rfl) ?_
      refine va_get (D := D) (ci := 5) (v := .int uM.2.2.2.2.2.1) (C := RX5) (T := TX5) (N := 12) hx hb hts hinX5 hown hK.1 hP 0 rfl rfl 9 (by decide) wf2 (fun _ h9 => h9) rfl dX5_readWord_123 ?_
      refine lv_lload_n hx hb dX5_readWord_126 rfl (lv_at hl 3 rfl) ?_
      obtain ⟨b127, h⟩ := kIf h
      refine va_last (f := uM.2.2.2.2.2.2.2.2.2.2.1) (n := 40) hx hb hK.1 hP hD hS 5 1 rfl rfl (kIn_ok b127) dX5_readWord_127 (fun H locs hP hD hS => ?_)
      have hP : va_P D vwCl (wM ty adM (uM.1, uM.2.1, uM.2.2.1, uM.2.2.2.1, uM.2.2.2.2.1, uM.2.2.2.2.2.1, uM.2.2.2.2.2.2.1, uM.2.2.2.2.2.2.2.1, uM.2.2.2.2.2.2.2.2.1, uM.2.2.2.2.2.2.2.2.2.1, (vp_updL uM.2.2.2.2.2.2.2.2.2.2.1 uM.2.2.2.2.2.1.toNatClampNeg x3), uM.2.2.2.2.2.2.2.2.2.2.2)) H := hP
      have hD : va_D A (wM ty adM (uM.1, uM.2.1, uM.2.2.1, uM.2.2.2.1, uM.2.2.2.2.1, uM.2.2.2.2.2.1, uM.2.2.2.2.2.2.1, uM.2.2.2.2.2.2.2.1, uM.2.2.2.2.2.2.2.2.1, uM.2.2.2.2.2.2.2.2.2.1, (vp_updL uM.2.2.2.2.2.2.2.2.2.2.1 uM.2.2.2.2.2.1.toNatClampNeg x3), uM.2.2.2.2.2.2.2.2.2.2.2)) := hD
      refine lv_aload_n hx hb dX5_readWord_128 rfl (lv_at hl 0 rfl) ?_
      refine va_get (D := D) (ci := 5) (v := .ref (adM 6)) (C := RX5) (T := TX5) (N := 12) hx hb hts hinX5 hown hK.1 hP 0 rfl rfl 11 (by decide) wf3 (fun _ h9 => h9) rfl dX5_readWord_129 ?_
      refine lv_aload_n hx hb dX5_readWord_132 rfl (lv_at hl 0 rfl) ?_
      refine va_get (D := D) (ci := 5) (v := .int uM.2.2.2.2.2.1) (C := RX5) (T := TX5) (N := 12) hx hb hts hinX5 hown hK.1 hP 0 rfl rfl 9 (by decide) wf2 (fun _ h9 => h9) rfl dX5_readWord_133 ?_
      refine lv_iload hx hb dX5_readWord_136 (lv_at hl 5 rfl) ?_
      refine lv_if_eq (tgt := 146) hx hb dX5_readWord_138 (by decide) (fun c138 => ?_) (fun c138 => ?_)
      · have h := kT h c138
        refine lv_ldc hx hb hown wf4 dX5_readWord_146 ?_
        obtain ⟨b148, h⟩ := kIf h
        refine va_iast (f := uM.2.2.2.2.2.2.2.2.2.2.2) (n := 40) hx hb hK.1 hP hD hS 6 0 rfl rfl (kIn_ok b148) dX5_readWord_148 (fun H locs hP hD hS => ?_)
        have hP : va_P D vwCl (wM ty adM (uM.1, uM.2.1, uM.2.2.1, uM.2.2.2.1, uM.2.2.2.2.1, uM.2.2.2.2.2.1, uM.2.2.2.2.2.2.1, uM.2.2.2.2.2.2.2.1, uM.2.2.2.2.2.2.2.2.1, uM.2.2.2.2.2.2.2.2.2.1, (vp_updL uM.2.2.2.2.2.2.2.2.2.2.1 uM.2.2.2.2.2.1.toNatClampNeg x3), (upd uM.2.2.2.2.2.2.2.2.2.2.2 uM.2.2.2.2.2.1.toNatClampNeg (-1000000005 : Int32)))) H := hP
        have hD : va_D A (wM ty adM (uM.1, uM.2.1, uM.2.2.1, uM.2.2.2.1, uM.2.2.2.2.1, uM.2.2.2.2.2.1, uM.2.2.2.2.2.2.1, uM.2.2.2.2.2.2.2.1, uM.2.2.2.2.2.2.2.2.1, uM.2.2.2.2.2.2.2.2.2.1, (vp_updL uM.2.2.2.2.2.2.2.2.2.2.1 uM.2.2.2.2.2.1.toNatClampNeg x3), (upd uM.2.2.2.2.2.2.2.2.2.2.2 uM.2.2.2.2.2.1.toNatClampNeg (-1000000005 : Int32)))) := hD
        refine lv_aload_n hx hb dX5_readWord_149 rfl (lv_at hl 0 rfl) ?_
        refine lv_dup hx hb dX5_readWord_150 rfl ?_
        refine va_get (D := D) (ci := 5) (v := .int uM.2.2.2.2.2.1) (C := RX5) (T := TX5) (N := 12) hx hb hts hinX5 hown hK.1 hP 0 rfl rfl 9 (by decide) wf2 (fun _ h9 => h9) rfl dX5_readWord_151 ?_
        refine lv_iconst (v := 1) hx hb dX5_readWord_154 (by decide) ?_
        refine lv_iadd hx hb dX5_readWord_155 ?_
        refine va_put (D := D) (ci := 5) (v := .int (uM.2.2.2.2.2.1 + (1 : Int32))) (ty := .int) (C := RX5) (T := TX5) (N := 12) hx hb hts hinX5 tyX5 tyX5_ok nmX5 hown hK.1 hP hD hS 0 rfl rfl 9 (by decide) wf2 (fun _ h9 => h9) rfl (by decide +kernel) rfl rfl (Nat.le_of_ble_eq_true rfl) dX5_readWord_156 (fun H locs hP hD hS => ?_)
        have hP : va_P D vwCl (wM ty adM (uM.1, uM.2.1, uM.2.2.1, uM.2.2.2.1, uM.2.2.2.2.1, (uM.2.2.2.2.2.1 + (1 : Int32)), uM.2.2.2.2.2.2.1, uM.2.2.2.2.2.2.2.1, uM.2.2.2.2.2.2.2.2.1, uM.2.2.2.2.2.2.2.2.2.1, (vp_updL uM.2.2.2.2.2.2.2.2.2.2.1 uM.2.2.2.2.2.1.toNatClampNeg x3), (upd uM.2.2.2.2.2.2.2.2.2.2.2 uM.2.2.2.2.2.1.toNatClampNeg (-1000000005 : Int32)))) H := hP
        have hD : va_D A (wM ty adM (uM.1, uM.2.1, uM.2.2.1, uM.2.2.2.1, uM.2.2.2.2.1, (uM.2.2.2.2.2.1 + (1 : Int32)), uM.2.2.2.2.2.2.1, uM.2.2.2.2.2.2.2.1, uM.2.2.2.2.2.2.2.2.1, uM.2.2.2.2.2.2.2.2.2.1, (vp_updL uM.2.2.2.2.2.2.2.2.2.2.1 uM.2.2.2.2.2.1.toNatClampNeg x3), (upd uM.2.2.2.2.2.2.2.2.2.2.2 uM.2.2.2.2.2.1.toNatClampNeg (-1000000005 : Int32)))) := hD
        obtain rfl := Option.some.inj h
        subst hQ
        exact W.vret hx hb hr (fun t ht hW => ⟨⟨(), rfl, trivial, kEnd ht hP⟩, hS.F ht⟩) hS.2.2 dX5_readWord_159
      · have h := kF h c138
        refine lv_iload hx hb dX5_readWord_141 (lv_at hl 4 rfl) ?_
        refine lv_goto (tgt := 148) hx hb dX5_readWord_143 (by decide) ?_
        obtain ⟨b148, h⟩ := kIf h
        refine va_iast (f := uM.2.2.2.2.2.2.2.2.2.2.2) (n := 40) hx hb hK.1 hP hD hS 6 0 rfl rfl (kIn_ok b148) dX5_readWord_148 (fun H locs hP hD hS => ?_)
        have hP : va_P D vwCl (wM ty adM (uM.1, uM.2.1, uM.2.2.1, uM.2.2.2.1, uM.2.2.2.2.1, uM.2.2.2.2.2.1, uM.2.2.2.2.2.2.1, uM.2.2.2.2.2.2.2.1, uM.2.2.2.2.2.2.2.2.1, uM.2.2.2.2.2.2.2.2.2.1, (vp_updL uM.2.2.2.2.2.2.2.2.2.2.1 uM.2.2.2.2.2.1.toNatClampNeg x3), (upd uM.2.2.2.2.2.2.2.2.2.2.2 uM.2.2.2.2.2.1.toNatClampNeg x5))) H := hP
        have hD : va_D A (wM ty adM (uM.1, uM.2.1, uM.2.2.1, uM.2.2.2.1, uM.2.2.2.2.1, uM.2.2.2.2.2.1, uM.2.2.2.2.2.2.1, uM.2.2.2.2.2.2.2.1, uM.2.2.2.2.2.2.2.2.1, uM.2.2.2.2.2.2.2.2.2.1, (vp_updL uM.2.2.2.2.2.2.2.2.2.2.1 uM.2.2.2.2.2.1.toNatClampNeg x3), (upd uM.2.2.2.2.2.2.2.2.2.2.2 uM.2.2.2.2.2.1.toNatClampNeg x5))) := hD
        refine lv_aload_n hx hb dX5_readWord_149 rfl (lv_at hl 0 rfl) ?_
        refine lv_dup hx hb dX5_readWord_150 rfl ?_
        refine va_get (D := D) (ci := 5) (v := .int uM.2.2.2.2.2.1) (C := RX5) (T := TX5) (N := 12) hx hb hts hinX5 hown hK.1 hP 0 rfl rfl 9 (by decide) wf2 (fun _ h9 => h9) rfl dX5_readWord_151 ?_
        refine lv_iconst (v := 1) hx hb dX5_readWord_154 (by decide) ?_
        refine lv_iadd hx hb dX5_readWord_155 ?_
        refine va_put (D := D) (ci := 5) (v := .int (uM.2.2.2.2.2.1 + (1 : Int32))) (ty := .int) (C := RX5) (T := TX5) (N := 12) hx hb hts hinX5 tyX5 tyX5_ok nmX5 hown hK.1 hP hD hS 0 rfl rfl 9 (by decide) wf2 (fun _ h9 => h9) rfl (by decide +kernel) rfl rfl (Nat.le_of_ble_eq_true rfl) dX5_readWord_156 (fun H locs hP hD hS => ?_)
        have hP : va_P D vwCl (wM ty adM (uM.1, uM.2.1, uM.2.2.1, uM.2.2.2.1, uM.2.2.2.2.1, (uM.2.2.2.2.2.1 + (1 : Int32)), uM.2.2.2.2.2.2.1, uM.2.2.2.2.2.2.2.1, uM.2.2.2.2.2.2.2.2.1, uM.2.2.2.2.2.2.2.2.2.1, (vp_updL uM.2.2.2.2.2.2.2.2.2.2.1 uM.2.2.2.2.2.1.toNatClampNeg x3), (upd uM.2.2.2.2.2.2.2.2.2.2.2 uM.2.2.2.2.2.1.toNatClampNeg x5))) H := hP
        have hD : va_D A (wM ty adM (uM.1, uM.2.1, uM.2.2.1, uM.2.2.2.1, uM.2.2.2.2.1, (uM.2.2.2.2.2.1 + (1 : Int32)), uM.2.2.2.2.2.2.1, uM.2.2.2.2.2.2.2.1, uM.2.2.2.2.2.2.2.2.1, uM.2.2.2.2.2.2.2.2.2.1, (vp_updL uM.2.2.2.2.2.2.2.2.2.2.1 uM.2.2.2.2.2.1.toNatClampNeg x3), (upd uM.2.2.2.2.2.2.2.2.2.2.2 uM.2.2.2.2.2.1.toNatClampNeg x5))) := hD
        obtain rfl := Option.some.inj h
        subst hQ
        exact W.vret hx hb hr (fun t ht hW => ⟨⟨(), rfl, trivial, kEnd ht hP⟩, hS.F ht⟩) hS.2.2 dX5_readWord_159
    · have h := kF h c26
      refine lv_iload_n hx hb dX5_readWord_29 rfl (lv_at hl 2 rfl) ?_
      refine lv_iload_n hx hb dX5_readWord_30 rfl (lv_at hl 1 rfl) ?_
      refine lv_isub hx hb dX5_readWord_31 ?_
      refine lv_bipush (v := 8) hx hb dX5_readWord_32 (by decide) ?_
      refine lv_icmp_le (tgt := 41) hx hb dX5_readWord_34 (by decide) (fun c34 => ?_) (fun c34 => ?_)
      · have h := kT h c34
        refine lv_ldc2 hx hb hown wf5 dX5_readWord_41 ?_
        refine lv_lload_n hx hb dX5_readWord_44 rfl (lv_at hl 3 rfl) ?_
        refine lv_lmul hx hb dX5_readWord_45 ?_
        refine lv_aload_n hx hb dX5_readWord_46 rfl (lv_at hl 0 rfl) ?_
        refine va_get (D := D) (ci := 5) (v := .ref (adM 4)) (C := RX5) (T := TX5) (N := 12) hx hb hts hinX5 hown hK.1 hP 0 rfl rfl 6 (by decide) wf6 (fun _ h9 => h9) rfl dX5_readWord_47 ?_
        refine lv_iload hx hb dX5_readWord_50 (lv_at hl 6 rfl) ?_
        obtain ⟨b52, h⟩ := kIf h
        refine va_iald (f := uM.2.2.2.2.2.2.2.2.2.1) (n := 80) hx hb hK.1 hP 4 0 rfl rfl (kIn_ok b52) dX5_readWord_52 ?_
        refine lv_i2l hx hb dX5_readWord_53 rfl ?_
        refine lv_ladd hx hb dX5_readWord_54 ?_
        refine lv_topl (fun y55 ey55 => ?_)
        have h := kBs h ey55
        refine lv_lstore_n (lv' := [(3, .long y55), (0, .ref (adM 0)), (1, .int x1), (2, .int x2), (5, .int x5), (6, .int x6), (7, .int x7)]) hx hb dX5_readWord_55 rfl hl (by decide) rfl (fun ls hl => ?_)
        refine lv_iload hx hb dX5_readWord_56 (lv_at hl 5 rfl) ?_
        refine lv_if_eq (tgt := 82) hx hb dX5_readWord_58 (by decide) (fun c58 => ?_) (fun c58 => ?_)
        · have h := kT h c58
          refine lv_iconst (v := 0) hx hb dX5_readWord_82 (by decide) ?_
          refine lv_istore (lv' := [(6, .int (0 : Int32)), (3, .long y55), (0, .ref (adM 0)), (1, .int x1), (2, .int x2), (5, .int x5), (7, .int x7)]) hx hb dX5_readWord_83 hl (by decide) rfl (fun ls hl => ?_)
          refine lv_iload hx hb dX5_readWord_85 (lv_at hl 0 rfl) ?_
          refine lv_if_eq (tgt := 109) hx hb dX5_readWord_87 (by decide) (fun c87 => ?_) (fun c87 => ?_)
          · have h := kT h c87
            refine lv_iconst (v := 0) hx hb dX5_readWord_109 (by decide) ?_
            refine lv_istore (lv' := [(5, .int (0 : Int32)), (6, .int (0 : Int32)), (3, .long y55), (0, .ref (adM 0)), (1, .int x1), (2, .int x2), (7, .int x7)]) hx hb dX5_readWord_110 hl (by decide) rfl (fun ls hl => ?_)
            refine lv_iinc (v := (x7 + 1)) (lv' := [(7, .int (x7 + 1)), (5, .int (0 : Int32)), (6, .int (0 : Int32)), (3, .long y55), (0, .ref (adM 0)), (1, .int x1), (2, .int x2)]) hx hb dX5_readWord_112 hl (k := 6) rfl rfl (by decide) rfl (fun ls hl => ?_)
            refine lv_goto (tgt := 23) hx hb dX5_readWord_115 (by decide) ?_
            exact hn23 y55 (0 : Int32) (0 : Int32) (x7 + 1) h H locs ls hP hD hS (lv_sub hl [4, 5, 6, 3, 1, 2, 0] rfl)
          · have h := kF h c87
            refine lv_bipush (v := 10) hx hb dX5_readWord_90 (by decide) ?_
            refine lv_iload hx hb dX5_readWord_92 (lv_at hl 5 rfl) ?_
            refine lv_imul hx hb dX5_readWord_94 ?_
            refine lv_aload_n hx hb dX5_readWord_95 rfl (lv_at hl 2 rfl) ?_
            refine va_get (D := D) (ci := 5) (v := .ref (adM 4)) (C := RX5) (T := TX5) (N := 12) hx hb hts hinX5 hown hK.1 hP 0 rfl rfl 6 (by decide) wf6 (fun _ h9 => h9) rfl dX5_readWord_96 ?_
            refine lv_iload hx hb dX5_readWord_99 (lv_at hl 6 rfl) ?_
            obtain ⟨b101, h⟩ := kIf h
            refine va_iald (f := uM.2.2.2.2.2.2.2.2.2.1) (n := 80) hx hb hK.1 hP 4 0 rfl rfl (kIn_ok b101) dX5_readWord_101 ?_
            refine lv_iadd hx hb dX5_readWord_102 ?_
            refine lv_bipush (v := 48) hx hb dX5_readWord_103 (by decide) ?_
            refine lv_isub hx hb dX5_readWord_105 ?_
            refine lv_goto (tgt := 110) hx hb dX5_readWord_106 (by decide) ?_
            refine lv_topi (fun y110 ey110 => ?_)
            have h := kBs h ey110
            refine lv_istore (lv' := [(5, .int y110), (6, .int (0 : Int32)), (3, .long y55), (0, .ref (adM 0)), (1, .int x1), (2, .int x2), (7, .int x7)]) hx hb dX5_readWord_110 hl (by decide) rfl (fun ls hl => ?_)
            refine lv_iinc (v := (x7 + 1)) (lv' := [(7, .int (x7 + 1)), (5, .int y110), (6, .int (0 : Int32)), (3, .long y55), (0, .ref (adM 0)), (1, .int x1), (2, .int x2)]) hx hb dX5_readWord_112 hl (k := 6) rfl rfl (by decide) rfl (fun ls hl => ?_)
            refine lv_goto (tgt := 23) hx hb dX5_readWord_115 (by decide) ?_
            exact hn23 y55 y110 (0 : Int32) (x7 + 1) h H locs ls hP hD hS (lv_sub hl [4, 5, 6, 3, 1, 2, 0] rfl)
        · have h := kF h c58
          refine lv_aload_n hx hb dX5_readWord_61 rfl (lv_at hl 1 rfl) ?_
          refine va_get (D := D) (ci := 5) (v := .ref (adM 4)) (C := RX5) (T := TX5) (N := 12) hx hb hts hinX5 hown hK.1 hP 0 rfl rfl 6 (by decide) wf6 (fun _ h9 => h9) rfl dX5_readWord_62 ?_
          refine lv_iload hx hb dX5_readWord_65 (lv_at hl 6 rfl) ?_
          obtain ⟨b67, h⟩ := kIf h
          refine va_iald (f := uM.2.2.2.2.2.2.2.2.2.1) (n := 80) hx hb hK.1 hP 4 0 rfl rfl (kIn_ok b67) dX5_readWord_67 ?_
          refine lv_bipush (v := 48) hx hb dX5_readWord_68 (by decide) ?_
          refine lv_bipush (v := 57) hx hb dX5_readWord_70 (by decide) ?_
          obtain ⟨r72, e72, h⟩ := kBd h
          refine kCallSI (As := [.int (uM.2.2.2.2.2.2.2.2.2.1 x7.toNatClampNeg), .int (48 : Int32), .int (57 : Int32)]) (rest := []) ⟨hx, hb, hml, hown, hts⟩ (cX5_in_ok l D ty  H.size (uM.2.2.2.2.2.2.2.2.2.1 x7.toNatClampNeg) (48 : Int32) (57 : Int32) r72 e72) (va_cwS 3 hts gX5_readWord_X5_in rfl rfl rfl (by decide +kernel) ⟨Nat.le_of_ble_eq_true rfl, Nat.le_of_ble_eq_true rfl⟩) hP hK hD hS hA rfl hl.1 rfl (Nat.le_of_ble_eq_true rfl) dX5_readWord_72 ⟨Nat.le_of_ble_eq_true rfl, Nat.le_of_ble_eq_true rfl⟩ (fun H locs hP hS => ?_)
          refine lv_if_eq (tgt := 82) hx hb dX5_readWord_75 (by decide) (fun c75 => ?_) (fun c75 => ?_)
          · have h := kT h c75
            refine lv_iconst (v := 0) hx hb dX5_readWord_82 (by decide) ?_
            refine lv_istore (lv' := [(6, .int (0 : Int32)), (3, .long y55), (0, .ref (adM 0)), (1, .int x1), (2, .int x2), (5, .int x5), (7, .int x7)]) hx hb dX5_readWord_83 hl (by decide) rfl (fun ls hl => ?_)
            refine lv_iload hx hb dX5_readWord_85 (lv_at hl 0 rfl) ?_
            refine lv_if_eq (tgt := 109) hx hb dX5_readWord_87 (by decide) (fun c87 => ?_) (fun c87 => ?_)
            · have h := kT h c87
              refine lv_iconst (v := 0) hx hb dX5_readWord_109 (by decide) ?_
              refine lv_istore (lv' := [(5, .int (0 : Int32)), (6, .int (0 : Int32)), (3, .long y55), (0, .ref (adM 0)), (1, .int x1), (2, .int x2), (7, .int x7)]) hx hb dX5_readWord_110 hl (by decide) rfl (fun ls hl => ?_)
              refine lv_iinc (v := (x7 + 1)) (lv' := [(7, .int (x7 + 1)), (5, .int (0 : Int32)), (6, .int (0 : Int32)), (3, .long y55), (0, .ref (adM 0)), (1, .int x1), (2, .int x2)]) hx hb dX5_readWord_112 hl (k := 6) rfl rfl (by decide) rfl (fun ls hl => ?_)
              refine lv_goto (tgt := 23) hx hb dX5_readWord_115 (by decide) ?_
              exact hn23 y55 (0 : Int32) (0 : Int32) (x7 + 1) h H locs ls hP hD hS (lv_sub hl [4, 5, 6, 3, 1, 2, 0] rfl)
            · have h := kF h c87
              refine lv_bipush (v := 10) hx hb dX5_readWord_90 (by decide) ?_
              refine lv_iload hx hb dX5_readWord_92 (lv_at hl 5 rfl) ?_
              refine lv_imul hx hb dX5_readWord_94 ?_
              refine lv_aload_n hx hb dX5_readWord_95 rfl (lv_at hl 2 rfl) ?_
              refine va_get (D := D) (ci := 5) (v := .ref (adM 4)) (C := RX5) (T := TX5) (N := 12) hx hb hts hinX5 hown hK.1 hP 0 rfl rfl 6 (by decide) wf6 (fun _ h9 => h9) rfl dX5_readWord_96 ?_
              refine lv_iload hx hb dX5_readWord_99 (lv_at hl 6 rfl) ?_
              obtain ⟨b101, h⟩ := kIf h
              refine va_iald (f := uM.2.2.2.2.2.2.2.2.2.1) (n := 80) hx hb hK.1 hP 4 0 rfl rfl (kIn_ok b101) dX5_readWord_101 ?_
              refine lv_iadd hx hb dX5_readWord_102 ?_
              refine lv_bipush (v := 48) hx hb dX5_readWord_103 (by decide) ?_
              refine lv_isub hx hb dX5_readWord_105 ?_
              refine lv_goto (tgt := 110) hx hb dX5_readWord_106 (by decide) ?_
              refine lv_topi (fun y110 ey110 => ?_)
              have h := kBs h ey110
              refine lv_istore (lv' := [(5, .int y110), (6, .int (0 : Int32)), (3, .long y55), (0, .ref (adM 0)), (1, .int x1), (2, .int x2), (7, .int x7)]) hx hb dX5_readWord_110 hl (by decide) rfl (fun ls hl => ?_)
              refine lv_iinc (v := (x7 + 1)) (lv' := [(7, .int (x7 + 1)), (5, .int y110), (6, .int (0 : Int32)), (3, .long y55), (0, .ref (adM 0)), (1, .int x1), (2, .int x2)]) hx hb dX5_readWord_112 hl (k := 6) rfl rfl (by decide) rfl (fun ls hl => ?_)
              refine lv_goto (tgt := 23) hx hb dX5_readWord_115 (by decide) ?_
              exact hn23 y55 y110 (0 : Int32) (x7 + 1) h H locs ls hP hD hS (lv_sub hl [4, 5, 6, 3, 1, 2, 0] rfl)
          · have h := kF h c75
            refine lv_iconst (v := 1) hx hb dX5_readWord_78 (by decide) ?_
            refine lv_goto (tgt := 83) hx hb dX5_readWord_79 (by decide) ?_
            refine lv_istore (lv' := [(6, .int (1 : Int32)), (3, .long y55), (0, .ref (adM 0)), (1, .int x1), (2, .int x2), (5, .int x5), (7, .int x7)]) hx hb dX5_readWord_83 hl (by decide) rfl (fun ls hl => ?_)
            refine lv_iload hx hb dX5_readWord_85 (lv_at hl 0 rfl) ?_
            refine lv_if_eq (tgt := 109) hx hb dX5_readWord_87 (by decide) (fun c87 => ?_) (fun c87 => ?_)
            · have h := kT h c87
              refine lv_iconst (v := 0) hx hb dX5_readWord_109 (by decide) ?_
              refine lv_istore (lv' := [(5, .int (0 : Int32)), (6, .int (1 : Int32)), (3, .long y55), (0, .ref (adM 0)), (1, .int x1), (2, .int x2), (7, .int x7)]) hx hb dX5_readWord_110 hl (by decide) rfl (fun ls hl => ?_)
              refine lv_iinc (v := (x7 + 1)) (lv' := [(7, .int (x7 + 1)), (5, .int (0 : Int32)), (6, .int (1 : Int32)), (3, .long y55), (0, .ref (adM 0)), (1, .int x1), (2, .int x2)]) hx hb dX5_readWord_112 hl (k := 6) rfl rfl (by decide) rfl (fun ls hl => ?_)
              refine lv_goto (tgt := 23) hx hb dX5_readWord_115 (by decide) ?_
              exact hn23 y55 (0 : Int32) (1 : Int32) (x7 + 1) h H locs ls hP hD hS (lv_sub hl [4, 5, 6, 3, 1, 2, 0] rfl)
            · have h := kF h c87
              refine lv_bipush (v := 10) hx hb dX5_readWord_90 (by decide) ?_
              refine lv_iload hx hb dX5_readWord_92 (lv_at hl 5 rfl) ?_
              refine lv_imul hx hb dX5_readWord_94 ?_
              refine lv_aload_n hx hb dX5_readWord_95 rfl (lv_at hl 2 rfl) ?_
              refine va_get (D := D) (ci := 5) (v := .ref (adM 4)) (C := RX5) (T := TX5) (N := 12) hx hb hts hinX5 hown hK.1 hP 0 rfl rfl 6 (by decide) wf6 (fun _ h9 => h9) rfl dX5_readWord_96 ?_
              refine lv_iload hx hb dX5_readWord_99 (lv_at hl 6 rfl) ?_
              obtain ⟨b101, h⟩ := kIf h
              refine va_iald (f := uM.2.2.2.2.2.2.2.2.2.1) (n := 80) hx hb hK.1 hP 4 0 rfl rfl (kIn_ok b101) dX5_readWord_101 ?_
              refine lv_iadd hx hb dX5_readWord_102 ?_
              refine lv_bipush (v := 48) hx hb dX5_readWord_103 (by decide) ?_
              refine lv_isub hx hb dX5_readWord_105 ?_
              refine lv_goto (tgt := 110) hx hb dX5_readWord_106 (by decide) ?_
              refine lv_topi (fun y110 ey110 => ?_)
              have h := kBs h ey110
              refine lv_istore (lv' := [(5, .int y110), (6, .int (1 : Int32)), (3, .long y55), (0, .ref (adM 0)), (1, .int x1), (2, .int x2), (7, .int x7)]) hx hb dX5_readWord_110 hl (by decide) rfl (fun ls hl => ?_)
              refine lv_iinc (v := (x7 + 1)) (lv' := [(7, .int (x7 + 1)), (5, .int y110), (6, .int (1 : Int32)), (3, .long y55), (0, .ref (adM 0)), (1, .int x1), (2, .int x2)]) hx hb dX5_readWord_112 hl (k := 6) rfl rfl (by decide) rfl (fun ls hl => ?_)
              refine lv_goto (tgt := 23) hx hb dX5_readWord_115 (by decide) ?_
              exact hn23 y55 y110 (1 : Int32) (x7 + 1) h H locs ls hP hD hS (lv_sub hl [4, 5, 6, 3, 1, 2, 0] rfl)
      · have h := kF h c34
        refine lv_lconst (v := 0) hx hb dX5_readWord_37 (by decide) ?_
        refine lv_goto (tgt := 55) hx hb dX5_readWord_38 (by decide) ?_
        refine lv_lstore_n (lv' := [(3, .long (0 : Int64)), (0, .ref (adM 0)), (1, .int x1), (2, .int x2), (5, .int x5), (6, .int x6), (7, .int x7)]) hx hb dX5_readWord_55 rfl hl (by decide) rfl (fun ls hl => ?_)
        refine lv_iload hx hb dX5_readWord_56 (lv_at hl 5 rfl) ?_
        refine lv_if_eq (tgt := 82) hx hb dX5_readWord_58 (by decide) (fun c58 => ?_) (fun c58 => ?_)
        · have h := kT h c58
          refine lv_iconst (v := 0) hx hb dX5_readWord_82 (by decide) ?_
          refine lv_istore (lv' := [(6, .int (0 : Int32)), (3, .long (0 : Int64)), (0, .ref (adM 0)), (1, .int x1), (2, .int x2), (5, .int x5), (7, .int x7)]) hx hb dX5_readWord_83 hl (by decide) rfl (fun ls hl => ?_)
          refine lv_iload hx hb dX5_readWord_85 (lv_at hl 0 rfl) ?_
          refine lv_if_eq (tgt := 109) hx hb dX5_readWord_87 (by decide) (fun c87 => ?_) (fun c87 => ?_)
          · have h := kT h c87
            refine lv_iconst (v := 0) hx hb dX5_readWord_109 (by decide) ?_
            refine lv_istore (lv' := [(5, .int (0 : Int32)), (6, .int (0 : Int32)), (3, .long (0 : Int64)), (0, .ref (adM 0)), (1, .int x1), (2, .int x2), (7, .int x7)]) hx hb dX5_readWord_110 hl (by decide) rfl (fun ls hl => ?_)
            refine lv_iinc (v := (x7 + 1)) (lv' := [(7, .int (x7 + 1)), (5, .int (0 : Int32)), (6, .int (0 : Int32)), (3, .long (0 : Int64)), (0, .ref (adM 0)), (1, .int x1), (2, .int x2)]) hx hb dX5_readWord_112 hl (k := 6) rfl rfl (by decide) rfl (fun ls hl => ?_)
            refine lv_goto (tgt := 23) hx hb dX5_readWord_115 (by decide) ?_
            exact hn23 (0 : Int64) (0 : Int32) (0 : Int32) (x7 + 1) h H locs ls hP hD hS (lv_sub hl [4, 5, 6, 3, 1, 2, 0] rfl)
          · have h := kF h c87
            refine lv_bipush (v := 10) hx hb dX5_readWord_90 (by decide) ?_
            refine lv_iload hx hb dX5_readWord_92 (lv_at hl 5 rfl) ?_
            refine lv_imul hx hb dX5_readWord_94 ?_
            refine lv_aload_n hx hb dX5_readWord_95 rfl (lv_at hl 2 rfl) ?_
            refine va_get (D := D) (ci := 5) (v := .ref (adM 4)) (C := RX5) (T := TX5) (N := 12) hx hb hts hinX5 hown hK.1 hP 0 rfl rfl 6 (by decide) wf6 (fun _ h9 => h9) rfl dX5_readWord_96 ?_
            refine lv_iload hx hb dX5_readWord_99 (lv_at hl 6 rfl) ?_
            obtain ⟨b101, h⟩ := kIf h
            refine va_iald (f := uM.2.2.2.2.2.2.2.2.2.1) (n := 80) hx hb hK.1 hP 4 0 rfl rfl (kIn_ok b101) dX5_readWord_101 ?_
            refine lv_iadd hx hb dX5_readWord_102 ?_
            refine lv_bipush (v := 48) hx hb dX5_readWord_103 (by decide) ?_
            refine lv_isub hx hb dX5_readWord_105 ?_
            refine lv_goto (tgt := 110) hx hb dX5_readWord_106 (by decide) ?_
            refine lv_topi (fun y110 ey110 => ?_)
            have h := kBs h ey110
            refine lv_istore (lv' := [(5, .int y110), (6, .int (0 : Int32)), (3, .long (0 : Int64)), (0, .ref (adM 0)), (1, .int x1), (2, .int x2), (7, .int x7)]) hx hb dX5_readWord_110 hl (by decide) rfl (fun ls hl => ?_)
            refine lv_iinc (v := (x7 + 1)) (lv' := [(7, .int (x7 + 1)), (5, .int y110), (6, .int (0 : Int32)), (3, .long (0 : Int64)), (0, .ref (adM 0)), (1, .int x1), (2, .int x2)]) hx hb dX5_readWord_112 hl (k := 6) rfl rfl (by decide) rfl (fun ls hl => ?_)
            refine lv_goto (tgt := 23) hx hb dX5_readWord_115 (by decide) ?_
            exact hn23 (0 : Int64) y110 (0 : Int32) (x7 + 1) h H locs ls hP hD hS (lv_sub hl [4, 5, 6, 3, 1, 2, 0] rfl)
        · have h := kF h c58
          refine lv_aload_n hx hb dX5_readWord_61 rfl (lv_at hl 1 rfl) ?_
          refine va_get (D := D) (ci := 5) (v := .ref (adM 4)) (C := RX5) (T := TX5) (N := 12) hx hb hts hinX5 hown hK.1 hP 0 rfl rfl 6 (by decide) wf6 (fun _ h9 => h9) rfl dX5_readWord_62 ?_
          refine lv_iload hx hb dX5_readWord_65 (lv_at hl 6 rfl) ?_
          obtain ⟨b67, h⟩ := kIf h
          refine va_iald (f := uM.2.2.2.2.2.2.2.2.2.1) (n := 80) hx hb hK.1 hP 4 0 rfl rfl (kIn_ok b67) dX5_readWord_67 ?_
          refine lv_bipush (v := 48) hx hb dX5_readWord_68 (by decide) ?_
          refine lv_bipush (v := 57) hx hb dX5_readWord_70 (by decide) ?_
          obtain ⟨r72, e72, h⟩ := kBd h
          refine kCallSI (As := [.int (uM.2.2.2.2.2.2.2.2.2.1 x7.toNatClampNeg), .int (48 : Int32), .int (57 : Int32)]) (rest := []) ⟨hx, hb, hml, hown, hts⟩ (cX5_in_ok l D ty  H.size (uM.2.2.2.2.2.2.2.2.2.1 x7.toNatClampNeg) (48 : Int32) (57 : Int32) r72 e72) (va_cwS 3 hts gX5_readWord_X5_in rfl rfl rfl (by decide +kernel) ⟨Nat.le_of_ble_eq_true rfl, Nat.le_of_ble_eq_true rfl⟩) hP hK hD hS hA rfl hl.1 rfl (Nat.le_of_ble_eq_true rfl) dX5_readWord_72 ⟨Nat.le_of_ble_eq_true rfl, Nat.le_of_ble_eq_true rfl⟩ (fun H locs hP hS => ?_)
          refine lv_if_eq (tgt := 82) hx hb dX5_readWord_75 (by decide) (fun c75 => ?_) (fun c75 => ?_)
          · have h := kT h c75
            refine lv_iconst (v := 0) hx hb dX5_readWord_82 (by decide) ?_
            refine lv_istore (lv' := [(6, .int (0 : Int32)), (3, .long (0 : Int64)), (0, .ref (adM 0)), (1, .int x1), (2, .int x2), (5, .int x5), (7, .int x7)]) hx hb dX5_readWord_83 hl (by decide) rfl (fun ls hl => ?_)
            refine lv_iload hx hb dX5_readWord_85 (lv_at hl 0 rfl) ?_
            refine lv_if_eq (tgt := 109) hx hb dX5_readWord_87 (by decide) (fun c87 => ?_) (fun c87 => ?_)
            · have h := kT h c87
              refine lv_iconst (v := 0) hx hb dX5_readWord_109 (by decide) ?_
              refine lv_istore (lv' := [(5, .int (0 : Int32)), (6, .int (0 : Int32)), (3, .long (0 : Int64)), (0, .ref (adM 0)), (1, .int x1), (2, .int x2), (7, .int x7)]) hx hb dX5_readWord_110 hl (by decide) rfl (fun ls hl => ?_)
              refine lv_iinc (v := (x7 + 1)) (lv' := [(7, .int (x7 + 1)), (5, .int (0 : Int32)), (6, .int (0 : Int32)), (3, .long (0 : Int64)), (0, .ref (adM 0)), (1, .int x1), (2, .int x2)]) hx hb dX5_readWord_112 hl (k := 6) rfl rfl (by decide) rfl (fun ls hl => ?_)
              refine lv_goto (tgt := 23) hx hb dX5_readWord_115 (by decide) ?_
              exact hn23 (0 : Int64) (0 : Int32) (0 : Int32) (x7 + 1) h H locs ls hP hD hS (lv_sub hl [4, 5, 6, 3, 1, 2, 0] rfl)
            · have h := kF h c87
              refine lv_bipush (v := 10) hx hb dX5_readWord_90 (by decide) ?_
              refine lv_iload hx hb dX5_readWord_92 (lv_at hl 5 rfl) ?_
              refine lv_imul hx hb dX5_readWord_94 ?_
              refine lv_aload_n hx hb dX5_readWord_95 rfl (lv_at hl 2 rfl) ?_
              refine va_get (D := D) (ci := 5) (v := .ref (adM 4)) (C := RX5) (T := TX5) (N := 12) hx hb hts hinX5 hown hK.1 hP 0 rfl rfl 6 (by decide) wf6 (fun _ h9 => h9) rfl dX5_readWord_96 ?_
              refine lv_iload hx hb dX5_readWord_99 (lv_at hl 6 rfl) ?_
              obtain ⟨b101, h⟩ := kIf h
              refine va_iald (f := uM.2.2.2.2.2.2.2.2.2.1) (n := 80) hx hb hK.1 hP 4 0 rfl rfl (kIn_ok b101) dX5_readWord_101 ?_
              refine lv_iadd hx hb dX5_readWord_102 ?_
              refine lv_bipush (v := 48) hx hb dX5_readWord_103 (by decide) ?_
              refine lv_isub hx hb dX5_readWord_105 ?_
              refine lv_goto (tgt := 110) hx hb dX5_readWord_106 (by decide) ?_
              refine lv_topi (fun y110 ey110 => ?_)
              have h := kBs h ey110
              refine lv_istore (lv' := [(5, .int y110), (6, .int (0 : Int32)), (3, .long (0 : Int64)), (0, .ref (adM 0)), (1, .int x1), (2, .int x2), (7, .int x7)]) hx hb dX5_readWord_110 hl (by decide) rfl (fun ls hl => ?_)
              refine lv_iinc (v := (x7 + 1)) (lv' := [(7, .int (x7 + 1)), (5, .int y110), (6, .int (0 : Int32)), (3, .long (0 : Int64)), (0, .ref (adM 0)), (1, .int x1), (2, .int x2)]) hx hb dX5_readWord_112 hl (k := 6) rfl rfl (by decide) rfl (fun ls hl => ?_)
              refine lv_goto (tgt := 23) hx hb dX5_readWord_115 (by decide) ?_
              exact hn23 (0 : Int64) y110 (0 : Int32) (x7 + 1) h H locs ls hP hD hS (lv_sub hl [4, 5, 6, 3, 1, 2, 0] rfl)
          · have h := kF h c75
            refine lv_iconst (v := 1) hx hb dX5_readWord_78 (by decide) ?_
            refine lv_goto (tgt := 83) hx hb dX5_readWord_79 (by decide) ?_
            refine lv_istore (lv' := [(6, .int (1 : Int32)), (3, .long (0 : Int64)), (0, .ref (adM 0)), (1, .int x1), (2, .int x2), (5, .int x5), (7, .int x7)]) hx hb dX5_readWord_83 hl (by decide) rfl (fun ls hl => ?_)
            refine lv_iload hx hb dX5_readWord_85 (lv_at hl 0 rfl) ?_
            refine lv_if_eq (tgt := 109) hx hb dX5_readWord_87 (by decide) (fun c87 => ?_) (fun c87 => ?_)
            · have h := kT h c87
              refine lv_iconst (v := 0) hx hb dX5_readWord_109 (by decide) ?_
              refine lv_istore (lv' := [(5, .int (0 : Int32)), (6, .int (1 : Int32)), (3, .long (0 : Int64)), (0, .ref (adM 0)), (1, .int x1), (2, .int x2), (7, .int x7)]) hx hb dX5_readWord_110 hl (by decide) rfl (fun ls hl => ?_)
              refine lv_iinc (v := (x7 + 1)) (lv' := [(7, .int (x7 + 1)), (5, .int (0 : Int32)), (6, .int (1 : Int32)), (3, .long (0 : Int64)), (0, .ref (adM 0)), (1, .int x1), (2, .int x2)]) hx hb dX5_readWord_112 hl (k := 6) rfl rfl (by decide) rfl (fun ls hl => ?_)
              refine lv_goto (tgt := 23) hx hb dX5_readWord_115 (by decide) ?_
              exact hn23 (0 : Int64) (0 : Int32) (1 : Int32) (x7 + 1) h H locs ls hP hD hS (lv_sub hl [4, 5, 6, 3, 1, 2, 0] rfl)
            · have h := kF h c87
              refine lv_bipush (v := 10) hx hb dX5_readWord_90 (by decide) ?_
              refine lv_iload hx hb dX5_readWord_92 (lv_at hl 5 rfl) ?_
              refine lv_imul hx hb dX5_readWord_94 ?_
              refine lv_aload_n hx hb dX5_readWord_95 rfl (lv_at hl 2 rfl) ?_
              refine va_get (D := D) (ci := 5) (v := .ref (adM 4)) (C := RX5) (T := TX5) (N := 12) hx hb hts hinX5 hown hK.1 hP 0 rfl rfl 6 (by decide) wf6 (fun _ h9 => h9) rfl dX5_readWord_96 ?_
              refine lv_iload hx hb dX5_readWord_99 (lv_at hl 6 rfl) ?_
              obtain ⟨b101, h⟩ := kIf h
              refine va_iald (f := uM.2.2.2.2.2.2.2.2.2.1) (n := 80) hx hb hK.1 hP 4 0 rfl rfl (kIn_ok b101) dX5_readWord_101 ?_
              refine lv_iadd hx hb dX5_readWord_102 ?_
              refine lv_bipush (v := 48) hx hb dX5_readWord_103 (by decide) ?_
              refine lv_isub hx hb dX5_readWord_105 ?_
              refine lv_goto (tgt := 110) hx hb dX5_readWord_106 (by decide) ?_
              refine lv_topi (fun y110 ey110 => ?_)
              have h := kBs h ey110
              refine lv_istore (lv' := [(5, .int y110), (6, .int (1 : Int32)), (3, .long (0 : Int64)), (0, .ref (adM 0)), (1, .int x1), (2, .int x2), (7, .int x7)]) hx hb dX5_readWord_110 hl (by decide) rfl (fun ls hl => ?_)
              refine lv_iinc (v := (x7 + 1)) (lv' := [(7, .int (x7 + 1)), (5, .int y110), (6, .int (1 : Int32)), (3, .long (0 : Int64)), (0, .ref (adM 0)), (1, .int x1), (2, .int x2)]) hx hb dX5_readWord_112 hl (k := 6) rfl rfl (by decide) rfl (fun ls hl => ?_)
              refine lv_goto (tgt := 23) hx hb dX5_readWord_115 (by decide) ?_
              exact hn23 (0 : Int64) y110 (1 : Int32) (x7 + 1) h H locs ls hP hD hS (lv_sub hl [4, 5, 6, 3, 1, 2, 0] rfl)
  have L23 : ∀ (uM : KM) (x1 : Int32) (x2 : Int32) (n : Nat) (x3 : Int64) (x5 : Int32) (x6 : Int32) (x7 : Int32), kLoopC n (fun q nx23 => fX5_readWord_c23 uM x1 x2 q.1 q.2.1 q.2.2.1 q.2.2.2 nx23) (x3, x5, x6, x7) = some res → ∀ (H : Heap) (locs : List Loc) (ls : Array Slot), va_P D vwCl (wM ty adM uM) H → va_D A (wM ty adM uM) → va_S A s.heap H locs → lv_has ls 8 [(0, .ref (adM 0)), (1, .int x1), (2, .int x2), (3, .long x3), (5, .int x5), (6, .int x6), (7, .int x7)] → W p l e (headSpec wsX5_readWord { frames := 1, cells := 0, slots := 0, locals := 22 }).room s m ([.ref (adM 0), .int p1, .int p2] : List Value).toArray below meth c H locs 0 0 Q (F0 m 23 ls []) := by
    intro uM x1 x2 n
    induction n with
    | zero => intro x3 x5 x6 x7 h; exact absurd h (by simp [kLoopC])
    | succ n ih => intro x3 x5 x6 x7 h; exact B23 uM x1 x2 (kLoopC n (fun q nx23 => fX5_readWord_c23 uM x1 x2 q.1 q.2.1 q.2.2.1 q.2.2.2 nx23)) ih x3 x5 x6 x7 h
  have hl := lv_entry ([.ref (adM 0), .int p1, .int p2]) (n := 8) (Nat.le_of_ble_eq_true rfl)
  rw [lg_entry_eq]
  generalize (lg_sl ([.ref (adM 0), .int p1, .int p2]) ++ List.replicate (8 - (lg_sl ([.ref (adM 0), .int p1, .int p2])).length) Slot.unset).toArray = ls at hl ⊢
  have hl : lv_has ls 8 [(0, .ref (adM 0)), (1, .int p1), (2, .int p2)] := hl
  unfold fX5_readWord at h
  have E0 : ∀ (H : Heap) (locs : List Loc) (ls : Array Slot), va_P D vwCl (wM ty adM vM) H → va_D A (wM ty adM vM) → va_S A s.heap H locs → lv_has ls 8 [(0, .ref (adM 0)), (1, .int p1), (2, .int p2)] → W p l e (headSpec wsX5_readWord { frames := 1, cells := 0, slots := 0, locals := 22 }).room s m ([.ref (adM 0), .int p1, .int p2] : List Value).toArray below meth c H locs 0 0 Q (F0 m 0 ls []) := by
    intro H locs ls hP hD hS hl
    refine lv_lconst (v := 0) hx hb dX5_readWord_0 (by decide) ?_
    refine lv_lstore_n (lv' := [(3, .long (0 : Int64)), (0, .ref (adM 0)), (1, .int p1), (2, .int p2)]) hx hb dX5_readWord_1 rfl hl (by decide) rfl (fun ls hl => ?_)
    refine lv_iconst (v := 0) hx hb dX5_readWord_2 (by decide) ?_
    refine lv_istore (lv' := [(5, .int (0 : Int32)), (3, .long (0 : Int64)), (0, .ref (adM 0)), (1, .int p1), (2, .int p2)]) hx hb dX5_readWord_3 hl (by decide) rfl (fun ls hl => ?_)
    refine lv_iload_n hx hb dX5_readWord_5 rfl (lv_at hl 4 rfl) ?_
    refine lv_iload_n hx hb dX5_readWord_6 rfl (lv_at hl 3 rfl) ?_
    refine lv_isub hx hb dX5_readWord_7 ?_
    refine lv_bipush (v := 9) hx hb dX5_readWord_8 (by decide) ?_
    refine lv_icmp_gt (tgt := 17) hx hb dX5_readWord_10 (by decide) (fun c10 => ?_) (fun c10 => ?_)
    · have h := kT h c10
      refine lv_iconst (v := 0) hx hb dX5_readWord_17 (by decide) ?_
      refine lv_istore (lv' := [(6, .int (0 : Int32)), (5, .int (0 : Int32)), (3, .long (0 : Int64)), (0, .ref (adM 0)), (1, .int p1), (2, .int p2)]) hx hb dX5_readWord_18 hl (by decide) rfl (fun ls hl => ?_)
      refine lv_iload_n hx hb dX5_readWord_20 rfl (lv_at hl 4 rfl) ?_
      refine lv_istore (lv' := [(7, .int p1), (6, .int (0 : Int32)), (5, .int (0 : Int32)), (3, .long (0 : Int64)), (0, .ref (adM 0)), (1, .int p1), (2, .int p2)]) hx hb dX5_readWord_21 hl (by decide) rfl (fun ls hl => ?_)
      exact L23 vM p1 p2  kFu (0 : Int64) (0 : Int32) (0 : Int32) p1 h H locs ls hP hD hS (lv_sub hl [4, 5, 6, 3, 2, 1, 0] rfl)
    · have h := kF h c10
      refine lv_iconst (v := 1) hx hb dX5_readWord_13 (by decide) ?_
      refine lv_goto (tgt := 18) hx hb dX5_readWord_14 (by decide) ?_
      refine lv_istore (lv' := [(6, .int (1 : Int32)), (5, .int (0 : Int32)), (3, .long (0 : Int64)), (0, .ref (adM 0)), (1, .int p1), (2, .int p2)]) hx hb dX5_readWord_18 hl (by decide) rfl (fun ls hl => ?_)
      refine lv_iload_n hx hb dX5_readWord_20 rfl (lv_at hl 4 rfl) ?_
      refine lv_istore (lv' := [(7, .int p1), (6, .int (1 : Int32)), (5, .int (0 : Int32)), (3, .long (0 : Int64)), (0, .ref (adM 0)), (1, .int p1), (2, .int p2)]) hx hb dX5_readWord_21 hl (by decide) rfl (fun ls hl => ?_)
      exact L23 vM p1 p2  kFu (0 : Int64) (0 : Int32) (1 : Int32) p1 h H locs ls hP hD hS (lv_sub hl [4, 5, 6, 3, 2, 1, 0] rfl)
  exact E0 s.heap [] ls hP hD hS hl
def fX5_readCommand_c45 (uM : KM) (x2 : Int32) (x3 : Int32) (nx7 : KM × Int32 → Option (Int32 × KM)) (nx45 : Int32 → Option (Int32 × KM)) : Option (Int32 × KM) := if uM.2.2.2.1 ≤ x3 then ((fX5_readWord uM x2 x3).bind fun r84 => nx7 (r84, x3)) else (if kIn x3 80 = true then (if (uM.2.2.2.2.2.2.2.2.2.1 x3.toNatClampNeg) = (59 : Int32) then ((fX5_readWord uM x2 x3).bind fun r84 => nx7 (r84, x3)) else (if kIn x3 80 = true then (if (uM.2.2.2.2.2.2.2.2.2.1 x3.toNatClampNeg) = (32 : Int32) then ((fX5_readWord uM x2 x3).bind fun r84 => nx7 (r84, x3)) else (nx45 (x3 + 1))) else none)) else none)
def fX5_readCommand_c7 (uM : KM) (x2 : Int32) (nx7 : KM × Int32 → Option (Int32 × KM)) : Option (Int32 × KM) := if uM.2.2.2.1 ≤ x2 then (some (x2, uM)) else (if kIn x2 80 = true then (if (uM.2.2.2.2.2.2.2.2.2.1 x2.toNatClampNeg) = (59 : Int32) then (some (x2, uM)) else (if kIn x2 80 = true then (if ¬ (uM.2.2.2.2.2.2.2.2.2.1 x2.toNatClampNeg) = (32 : Int32) then (kLoopC kFu (fun q nx45 => fX5_readCommand_c45 uM x2 q nx7 nx45) x2) else (nx7 (uM, (x2 + 1)))) else none)) else none)
def fX5_readCommand (vM : KM) (p1 : Int32) : Option (Int32 × KM) := kLoopC kFu (fun q nx7 => fX5_readCommand_c7 q.1 q.2 nx7) ((vM.1, vM.2.1, vM.2.2.1, vM.2.2.2.1, vM.2.2.2.2.1, (0 : Int32), vM.2.2.2.2.2.2), p1)
set_option maxHeartbeats 4000000 in
set_option maxRecDepth 100000 in
theorem cX5_readCommand_ok (l : Launch) (D : va_G) (ty : kTy) (adM : Nat → Nat) (sz : Nat) (vM : KM) (p1 : Int32) (res : Int32 × KM) (h : fX5_readCommand vM p1 = some res) : kMI l yX5_readCommand wsX5_readCommand { frames := 2, cells := 0, slots := 0, locals := 49 } [.ref (adM 0), .int p1] D ty (wM ty adM vM) sz res.1 (wM ty adM res.2) := by
  refine Met.ofW (cc := cX5_readCommand) (maxL := 4) (ret := (some .int)) (by decide) rfl ?_
  intro p e s m args below meth c s₁ B hml hv
  obtain ⟨rfl, hsz, hP, hK, hD0⟩ := hv
  have hx := B.exec
  have hb := B.bytes
  have hr := B.returns
  have hts := atoms_spec (ws := wsX5_readCommand) B.pre
  have hown : s.vm.findClass RX5 = some m.cls := findClass_of_methodNamed B.named
  have hlocks := B.notSynchronized
  subst hsz
  have hD := hD0.self (sz := s.heap.size)
  generalize hAe : va_A (wM ty adM vM) s.heap.size = A at hD ⊢
  have hA : ∀ q : Nat, s.heap.size ≤ q → A q := fun q h => by rw [← hAe]; exact Or.inr h
  have hS : va_S A s.heap s.heap [] := va_S.rf
  refine kGenW (fun Q hQ => ?_)
  have wf0 := hts (.fieldLink RX5 139 "IceCoreDaterModel" "texted" "I") (by decide +kernel)
  have hinX5 : ∀ w ∈ wsX50, w ∈ wsX5_readCommand := by decide +kernel
  have wf2 := hts (.fieldLink RX5 19 "IceCoreDaterModel" "text" "[I") (by decide +kernel)
  have wf3 := hts (.fieldLink RX5 144 "IceCoreDaterModel" "words" "I") (by decide +kernel)
  have B45 : ∀ (uM : KM) (x2 : Int32) (nx7 : KM × Int32 → Option (Int32 × KM)) (hn7 : ∀ (uM : KM) (x2 : Int32), nx7 (uM, x2) = some res → ∀ (H : Heap) (locs : List Loc) (ls : Array Slot), va_P D vwCl (wM ty adM uM) H → va_D A (wM ty adM uM) → va_S A s.heap H locs → lv_has ls 4 [(0, .ref (adM 0)), (2, .int x2)] → W p l e (headSpec wsX5_readCommand { frames := 2, cells := 0, slots := 0, locals := 49 }).room s m ([.ref (adM 0), .int p1] : List Value).toArray below meth c H locs 0 0 Q (F0 m 7 ls [])) (nx45 : Int32 → Option (Int32 × KM)) (hn45 : ∀ (x3 : Int32), nx45 x3 = some res → ∀ (H : Heap) (locs : List Loc) (ls : Array Slot), va_P D vwCl (wM ty adM uM) H → va_D A (wM ty adM uM) → va_S A s.heap H locs → lv_has ls 4 [(0, .ref (adM 0)), (2, .int x2), (3, .int x3)] → W p l e (headSpec wsX5_readCommand { frames := 2, cells := 0, slots := 0, locals := 49 }).room s m ([.ref (adM 0), .int p1] : List Value).toArray below meth c H locs 0 0 Q (F0 m 45 ls [])) (x3 : Int32), fX5_readCommand_c45 uM x2 x3 nx7 nx45 = some res → ∀ (H : Heap) (locs : List Loc) (ls : Array Slot), va_P D vwCl (wM ty adM uM) H → va_D A (wM ty adM uM) → va_S A s.heap H locs → lv_has ls 4 [(0, .ref (adM 0)), (2, .int x2), (3, .int x3)] → W p l e (headSpec wsX5_readCommand { frames := 2, cells := 0, slots := 0, locals := 49 }).room s m ([.ref (adM 0), .int p1] : List Value).toArray below meth c H locs 0 0 Q (F0 m 45 ls []) := by
    intro uM x2 nx7 hn7 nx45 hn45 x3 h H locs ls hP hD hS hl
    unfold fX5_readCommand_c45 at h
    refine lv_iload_n hx hb dX5_readCommand_45 rfl (lv_at hl 2 rfl) ?_
    refine lv_aload_n hx hb dX5_readCommand_46 rfl (lv_at hl 0 rfl) ?_
    refine va_get (D := D) (ci := 5) (v := .int uM.2.2.2.1) (C := RX5) (T := TX5) (N := 12) hx hb hts hinX5 hown hK.1 hP 0 rfl rfl 7 (by decide) wf0 (fun _ h9 => h9) rfl dX5_readCommand_47 ?_
    refine lv_icmp_ge (tgt := 81) hx hb dX5_readCommand_50 (by decide) (fun c50 => ?_) (fun c50 => ?_)
    · have h := kT h c50
      refine lv_aload_n hx hb dX5_readCommand_81 rfl (lv_at hl 0 rfl) ?_
      refine lv_iload_n hx hb dX5_readCommand_82 rfl (lv_at hl 1 rfl) ?_
      refine lv_iload_n hx hb dX5_readCommand_83 rfl (lv_at hl 2 rfl) ?_
      obtain ⟨r84, e84, h⟩ := kBd h
      refine kCallVV (As := [.int x2, .int x3]) (rest := []) (wc := wM ty adM uM) (w1 := wM ty adM r84) (wn := wM ty adM r84) ⟨hx, hb, hml, hown, hts⟩ (cX5_readWord_ok l D ty adM H.size uM x2 x3 r84 e84) (cwV 2 hts gX5_readCommand_X5_readWord rfl rfl rfl (by decide +kernel) ⟨Nat.le_of_ble_eq_true rfl, Nat.le_of_ble_eq_true rfl⟩) hP hK hD hS hA [0, 1, 2, 3, 4, 5, 6] (by decide) rfl 5 0 rfl rfl rfl rfl hl.1 rfl (Nat.le_of_ble_eq_true rfl) dX5_readCommand_84 ⟨Nat.le_of_ble_eq_true rfl, Nat.le_of_ble_eq_true rfl⟩ rfl rfl (fun H locs hP hD hS => ?_)
      refine lv_iload_n hx hb dX5_readCommand_87 rfl (lv_at hl 2 rfl) ?_
      refine lv_istore_n (lv' := [(2, .int x3), (0, .ref (adM 0)), (3, .int x3)]) hx hb dX5_readCommand_88 rfl hl (by decide) rfl (fun ls hl => ?_)
      refine lv_goto (tgt := 7) hx hb dX5_readCommand_89 (by decide) ?_
      exact hn7 r84 x3 h H locs ls hP hD hS (lv_sub hl [1, 0] rfl)
    · have h := kF h c50
      refine lv_aload_n hx hb dX5_readCommand_53 rfl (lv_at hl 0 rfl) ?_
      refine va_get (D := D) (ci := 5) (v := .ref (adM 4)) (C := RX5) (T := TX5) (N := 12) hx hb hts hinX5 hown hK.1 hP 0 rfl rfl 6 (by decide) wf2 (fun _ h9 => h9) rfl dX5_readCommand_54 ?_
      refine lv_iload_n hx hb dX5_readCommand_57 rfl (lv_at hl 2 rfl) ?_
      obtain ⟨b58, h⟩ := kIf h
      refine va_iald (f := uM.2.2.2.2.2.2.2.2.2.1) (n := 80) hx hb hK.1 hP 4 0 rfl rfl (kIn_ok b58) dX5_readCommand_58 ?_
      refine lv_bipush (v := 59) hx hb dX5_readCommand_59 (by decide) ?_
      refine lv_icmp_eq (tgt := 81) hx hb dX5_readCommand_61 (by decide) (fun c61 => ?_) (fun c61 => ?_)
      · have h := kT h c61
        refine lv_aload_n hx hb dX5_readCommand_81 rfl (lv_at hl 0 rfl) ?_
        refine lv_iload_n hx hb dX5_readCommand_82 rfl (lv_at hl 1 rfl) ?_
        refine lv_iload_n hx hb dX5_readCommand_83 rfl (lv_at hl 2 rfl) ?_
        obtain ⟨r84, e84, h⟩ := kBd h
        refine kCallVV (As := [.int x2, .int x3]) (rest := []) (wc := wM ty adM uM) (w1 := wM ty adM r84) (wn := wM ty adM r84) ⟨hx, hb, hml, hown, hts⟩ (cX5_readWord_ok l D ty adM H.size uM x2 x3 r84 e84) (cwV 2 hts gX5_readCommand_X5_readWord rfl rfl rfl (by decide +kernel) ⟨Nat.le_of_ble_eq_true rfl, Nat.le_of_ble_eq_true rfl⟩) hP hK hD hS hA [0, 1, 2, 3, 4, 5, 6] (by decide) rfl 5 0 rfl rfl rfl rfl hl.1 rfl (Nat.le_of_ble_eq_true rfl) dX5_readCommand_84 ⟨Nat.le_of_ble_eq_true rfl, Nat.le_of_ble_eq_true rfl⟩ rfl rfl (fun H locs hP hD hS => ?_)
        refine lv_iload_n hx hb dX5_readCommand_87 rfl (lv_at hl 2 rfl) ?_
        refine lv_istore_n (lv' := [(2, .int x3), (0, .ref (adM 0)), (3, .int x3)]) hx hb dX5_readCommand_88 rfl hl (by decide) rfl (fun ls hl => ?_)
        refine lv_goto (tgt := 7) hx hb dX5_readCommand_89 (by decide) ?_
        exact hn7 r84 x3 h H locs ls hP hD hS (lv_sub hl [1, 0] rfl)
      · have h := kF h c61
        refine lv_aload_n hx hb dX5_readCommand_64 rfl (lv_at hl 0 rfl) ?_
        refine va_get (D := D) (ci := 5) (v := .ref (adM 4)) (C := RX5) (T := TX5) (N := 12) hx hb hts hinX5 hown hK.1 hP 0 rfl rfl 6 (by decide) wf2 (fun _ h9 => h9) rfl dX5_readCommand_65 ?_
        refine lv_iload_n hx hb dX5_readCommand_68 rfl (lv_at hl 2 rfl) ?_
        obtain ⟨b69, h⟩ := kIf h
        refine va_iald (f := uM.2.2.2.2.2.2.2.2.2.1) (n := 80) hx hb hK.1 hP 4 0 rfl rfl (kIn_ok b69) dX5_readCommand_69 ?_
        refine lv_bipush (v := 32) hx hb dX5_readCommand_70 (by decide) ?_
        refine lv_icmp_eq (tgt := 81) hx hb dX5_readCommand_72 (by decide) (fun c72 => ?_) (fun c72 => ?_)
        · have h := kT h c72
          refine lv_aload_n hx hb dX5_readCommand_81 rfl (lv_at hl 0 rfl) ?_
          refine lv_iload_n hx hb dX5_readCommand_82 rfl (lv_at hl 1 rfl) ?_
          refine lv_iload_n hx hb dX5_readCommand_83 rfl (lv_at hl 2 rfl) ?_
          obtain ⟨r84, e84, h⟩ := kBd h
          refine kCallVV (As := [.int x2, .int x3]) (rest := []) (wc := wM ty adM uM) (w1 := wM ty adM r84) (wn := wM ty adM r84) ⟨hx, hb, hml, hown, hts⟩ (cX5_readWord_ok l D ty adM H.size uM x2 x3 r84 e84) (cwV 2 hts gX5_readCommand_X5_readWord rfl rfl rfl (by decide +kernel) ⟨Nat.le_of_ble_eq_true rfl, Nat.le_of_ble_eq_true rfl⟩) hP hK hD hS hA [0, 1, 2, 3, 4, 5, 6] (by decide) rfl 5 0 rfl rfl rfl rfl hl.1 rfl (Nat.le_of_ble_eq_true rfl) dX5_readCommand_84 ⟨Nat.le_of_ble_eq_true rfl, Nat.le_of_ble_eq_true rfl⟩ rfl rfl (fun H locs hP hD hS => ?_)
          refine lv_iload_n hx hb dX5_readCommand_87 rfl (lv_at hl 2 rfl) ?_
          refine lv_istore_n (lv' := [(2, .int x3), (0, .ref (adM 0)), (3, .int x3)]) hx hb dX5_readCommand_88 rfl hl (by decide) rfl (fun ls hl => ?_)
          refine lv_goto (tgt := 7) hx hb dX5_readCommand_89 (by decide) ?_
          exact hn7 r84 x3 h H locs ls hP hD hS (lv_sub hl [1, 0] rfl)
        · have h := kF h c72
          refine lv_iinc (v := (x3 + 1)) (lv' := [(3, .int (x3 + 1)), (0, .ref (adM 0)), (2, .int x2)]) hx hb dX5_readCommand_75 hl (k := 2) rfl rfl (by decide) rfl (fun ls hl => ?_)
          refine lv_goto (tgt := 45) hx hb dX5_readCommand_78 (by decide) ?_
          exact hn45 (x3 + 1) h H locs ls hP hD hS (lv_sub hl [1, 2, 0] rfl)
  have L45 : ∀ (uM : KM) (x2 : Int32) (nx7 : KM × Int32 → Option (Int32 × KM)) (hn7 : ∀ (uM : KM) (x2 : Int32), nx7 (uM, x2) = some res → ∀ (H : Heap) (locs : List Loc) (ls : Array Slot), va_P D vwCl (wM ty adM uM) H → va_D A (wM ty adM uM) → va_S A s.heap H locs → lv_has ls 4 [(0, .ref (adM 0)), (2, .int x2)] → W p l e (headSpec wsX5_readCommand { frames := 2, cells := 0, slots := 0, locals := 49 }).room s m ([.ref (adM 0), .int p1] : List Value).toArray below meth c H locs 0 0 Q (F0 m 7 ls [])) (n : Nat) (x3 : Int32), kLoopC n (fun q nx45 => fX5_readCommand_c45 uM x2 q nx7 nx45) x3 = some res → ∀ (H : Heap) (locs : List Loc) (ls : Array Slot), va_P D vwCl (wM ty adM uM) H → va_D A (wM ty adM uM) → va_S A s.heap H locs → lv_has ls 4 [(0, .ref (adM 0)), (2, .int x2), (3, .int x3)] → W p l e (headSpec wsX5_readCommand { frames := 2, cells := 0, slots := 0, locals := 49 }).room s m ([.ref (adM 0), .int p1] : List Value).toArray below meth c H locs 0 0 Q (F0 m 45 ls []) := by
    intro uM x2 nx7 hn7 n
    induction n with
    | zero => intro x3 h; exact absurd h (by simp [kLoopC])
    | succ n ih => intro x3 h; exact B45 uM x2 nx7 hn7 (kLoopC n (fun q nx45 => fX5_readCommand_c45 uM x2 q nx7 nx45)) ih x3 h
  have B7 : ∀ (nx7 : KM × Int32 → Option (Int32 × KM)) (hn7 : ∀ (uM : KM) (x2 : Int32), nx7 (uM, x2) = some res → ∀ (H : Heap) (locs : List Loc) (ls : Array Slot), va_P D vwCl (wM ty adM uM) H → va_D A (wM ty adM uM) → va_S A s.heap H locs → lv_has ls 4 [(0, .ref (adM 0)), (2, .int x2)] → W p l e (headSpec wsX5_readCommand { frames := 2, cells := 0, slots := 0, locals := 49 }).room s m ([.ref (adM 0), .int p1] : List Value).toArray below meth c H locs 0 0 Q (F0 m 7 ls [])) (uM : KM) (x2 : Int32), fX5_readCommand_c7 uM x2 nx7 = some res → ∀ (H : Heap) (locs : List Loc) (ls : Array Slot), va_P D vwCl (wM ty adM uM) H → va_D A (wM ty adM uM) → va_S A s.heap H locs → lv_has ls 4 [(0, .ref (adM 0)), (2, .int x2)] → W p l e (headSpec wsX5_readCommand { frames := 2, cells := 0, slots := 0, locals := 49 }).room s m ([.ref (adM 0), .int p1] : List Value).toArray below meth c H locs 0 0 Q (F0 m 7 ls []) := by
    intro  nx7 hn7 uM x2 h H locs ls hP hD hS hl
    unfold fX5_readCommand_c7 at h
    refine lv_iload_n hx hb dX5_readCommand_7 rfl (lv_at hl 1 rfl) ?_
    refine lv_aload_n hx hb dX5_readCommand_8 rfl (lv_at hl 0 rfl) ?_
    refine va_get (D := D) (ci := 5) (v := .int uM.2.2.2.1) (C := RX5) (T := TX5) (N := 12) hx hb hts hinX5 hown hK.1 hP 0 rfl rfl 7 (by decide) wf0 (fun _ h9 => h9) rfl dX5_readCommand_9 ?_
    refine lv_icmp_ge (tgt := 92) hx hb dX5_readCommand_12 (by decide) (fun c12 => ?_) (fun c12 => ?_)
    · have h := kT h c12
      refine lv_iload_n hx hb dX5_readCommand_92 rfl (lv_at hl 1 rfl) ?_
      obtain rfl := Option.some.inj h
      subst hQ
      exact W.iret (v := x2) hx hb hr (fun t ht hW => ⟨⟨x2, (), rfl, rfl, kEnd ht hP⟩, hS.F ht⟩) hS.2.2 dX5_readCommand_93
    · have h := kF h c12
      refine lv_aload_n hx hb dX5_readCommand_15 rfl (lv_at hl 0 rfl) ?_
      refine va_get (D := D) (ci := 5) (v := .ref (adM 4)) (C := RX5) (T := TX5) (N := 12) hx hb hts hinX5 hown hK.1 hP 0 rfl rfl 6 (by decide) wf2 (fun _ h9 => h9) rfl dX5_readCommand_16 ?_
      refine lv_iload_n hx hb dX5_readCommand_19 rfl (lv_at hl 1 rfl) ?_
      obtain ⟨b20, h⟩ := kIf h
      refine va_iald (f := uM.2.2.2.2.2.2.2.2.2.1) (n := 80) hx hb hK.1 hP 4 0 rfl rfl (kIn_ok b20) dX5_readCommand_20 ?_
      refine lv_bipush (v := 59) hx hb dX5_readCommand_21 (by decide) ?_
      refine lv_icmp_eq (tgt := 92) hx hb dX5_readCommand_23 (by decide) (fun c23 => ?_) (fun c23 => ?_)
      · have h := kT h c23
        refine lv_iload_n hx hb dX5_readCommand_92 rfl (lv_at hl 1 rfl) ?_
        obtain rfl := Option.some.inj h
        subst hQ
        exact W.iret (v := x2) hx hb hr (fun t ht hW => ⟨⟨x2, (), rfl, rfl, kEnd ht hP⟩, hS.F ht⟩) hS.2.2 dX5_readCommand_93
      · have h := kF h c23
        refine lv_aload_n hx hb dX5_readCommand_26 rfl (lv_at hl 0 rfl) ?_
        refine va_get (D := D) (ci := 5) (v := .ref (adM 4)) (C := RX5) (T := TX5) (N := 12) hx hb hts hinX5 hown hK.1 hP 0 rfl rfl 6 (by decide) wf2 (fun _ h9 => h9) rfl dX5_readCommand_27 ?_
        refine lv_iload_n hx hb dX5_readCommand_30 rfl (lv_at hl 1 rfl) ?_
        obtain ⟨b31, h⟩ := kIf h
        refine va_iald (f := uM.2.2.2.2.2.2.2.2.2.1) (n := 80) hx hb hK.1 hP 4 0 rfl rfl (kIn_ok b31) dX5_readCommand_31 ?_
        refine lv_bipush (v := 32) hx hb dX5_readCommand_32 (by decide) ?_
        refine lv_icmp_ne (tgt := 43) hx hb dX5_readCommand_34 (by decide) (fun c34 => ?_) (fun c34 => ?_)
        · have h := kT h c34
          refine lv_iload_n hx hb dX5_readCommand_43 rfl (lv_at hl 1 rfl) ?_
          refine lv_istore_n (lv' := [(3, .int x2), (0, .ref (adM 0)), (2, .int x2)]) hx hb dX5_readCommand_44 rfl hl (by decide) rfl (fun ls hl => ?_)
          exact L45 uM x2 nx7 hn7 kFu x2 h H locs ls hP hD hS (lv_sub hl [1, 2, 0] rfl)
        · have h := kF h (fun z => z c34)
          refine lv_iinc (v := (x2 + 1)) (lv' := [(2, .int (x2 + 1)), (0, .ref (adM 0))]) hx hb dX5_readCommand_37 hl (k := 1) rfl rfl (by decide) rfl (fun ls hl => ?_)
          refine lv_goto (tgt := 7) hx hb dX5_readCommand_40 (by decide) ?_
          exact hn7 uM (x2 + 1) h H locs ls hP hD hS (lv_sub hl [1, 0] rfl)
  have L7 : ∀  (n : Nat) (uM : KM) (x2 : Int32), kLoopC n (fun q nx7 => fX5_readCommand_c7 q.1 q.2 nx7) (uM, x2) = some res → ∀ (H : Heap) (locs : List Loc) (ls : Array Slot), va_P D vwCl (wM ty adM uM) H → va_D A (wM ty adM uM) → va_S A s.heap H locs → lv_has ls 4 [(0, .ref (adM 0)), (2, .int x2)] → W p l e (headSpec wsX5_readCommand { frames := 2, cells := 0, slots := 0, locals := 49 }).room s m ([.ref (adM 0), .int p1] : List Value).toArray below meth c H locs 0 0 Q (F0 m 7 ls []) := by
    intro  n
    induction n with
    | zero => intro uM x2 h; exact absurd h (by simp [kLoopC])
    | succ n ih => intro uM x2 h; exact B7  (kLoopC n (fun q nx7 => fX5_readCommand_c7 q.1 q.2 nx7)) ih uM x2 h
  have hl := lv_entry ([.ref (adM 0), .int p1]) (n := 4) (Nat.le_of_ble_eq_true rfl)
  rw [lg_entry_eq]
  generalize (lg_sl ([.ref (adM 0), .int p1]) ++ List.replicate (4 - (lg_sl ([.ref (adM 0), .int p1])).length) Slot.unset).toArray = ls at hl ⊢
  have hl : lv_has ls 4 [(0, .ref (adM 0)), (1, .int p1)] := hl
  unfold fX5_readCommand at h
  have E0 : ∀ (H : Heap) (locs : List Loc) (ls : Array Slot), va_P D vwCl (wM ty adM vM) H → va_D A (wM ty adM vM) → va_S A s.heap H locs → lv_has ls 4 [(0, .ref (adM 0)), (1, .int p1)] → W p l e (headSpec wsX5_readCommand { frames := 2, cells := 0, slots := 0, locals := 49 }).room s m ([.ref (adM 0), .int p1] : List Value).toArray below meth c H locs 0 0 Q (F0 m 0 ls []) := by
    intro H locs ls hP hD hS hl
    refine lv_aload_n hx hb dX5_readCommand_0 rfl (lv_at hl 0 rfl) ?_
    refine lv_iconst (v := 0) hx hb dX5_readCommand_1 (by decide) ?_
    refine va_put (D := D) (ci := 5) (v := .int (0 : Int32)) (ty := .int) (C := RX5) (T := TX5) (N := 12) hx hb hts hinX5 tyX5 tyX5_ok nmX5 hown hK.1 hP hD hS 0 rfl rfl 9 (by decide) wf3 (fun _ h9 => h9) rfl (by decide +kernel) rfl rfl (Nat.le_of_ble_eq_true rfl) dX5_readCommand_2 (fun H locs hP hD hS => ?_)
    have hP : va_P D vwCl (wM ty adM (vM.1, vM.2.1, vM.2.2.1, vM.2.2.2.1, vM.2.2.2.2.1, (0 : Int32), vM.2.2.2.2.2.2)) H := hP
    have hD : va_D A (wM ty adM (vM.1, vM.2.1, vM.2.2.1, vM.2.2.2.1, vM.2.2.2.2.1, (0 : Int32), vM.2.2.2.2.2.2)) := hD
    refine lv_iload_n hx hb dX5_readCommand_5 rfl (lv_at hl 1 rfl) ?_
    refine lv_istore_n (lv' := [(2, .int p1), (0, .ref (adM 0)), (1, .int p1)]) hx hb dX5_readCommand_6 rfl hl (by decide) rfl (fun ls hl => ?_)
    exact L7   kFu (vM.1, vM.2.1, vM.2.2.1, vM.2.2.2.1, vM.2.2.2.2.1, (0 : Int32), vM.2.2.2.2.2.2) p1 h H locs ls hP hD hS (lv_sub hl [1, 0] rfl)
  exact E0 s.heap [] ls hP hD hS hl
def fX5_hasNumbers_c18 (vM : KM) (x1 : Int32) (x2 : Int32) (x3 : Int32) (nx18 : Int32 × Int32 → Option (Int32)) : Option (Int32) := if x1 < x3 then (if kZb x2 = true then some x2 else none) else (if x2 = (0 : Int32) then (if kZb x2 = true then some x2 else none) else (if kIn x3 40 = true then (if (vM.2.2.2.2.2.2.2.2.2.2.2 x3.toNatClampNeg) = (-1000000005 : Int32) then (nx18 ((0 : Int32), (x3 + 1))) else (nx18 ((1 : Int32), (x3 + 1)))) else none))
def fX5_hasNumbers (vM : KM) (p1 : Int32) : Option (Int32) := if ¬ vM.2.2.2.2.2.1 = (p1 + (1 : Int32)) then (kLoopC kFu (fun q nx18 => fX5_hasNumbers_c18 vM p1 q.1 q.2 nx18) ((0 : Int32), (1 : Int32))) else (kLoopC kFu (fun q nx18 => fX5_hasNumbers_c18 vM p1 q.1 q.2 nx18) ((1 : Int32), (1 : Int32)))
set_option maxHeartbeats 4000000 in
set_option maxRecDepth 100000 in
theorem cX5_hasNumbers_ok (l : Launch) (D : va_G) (ty : kTy) (adM : Nat → Nat) (sz : Nat) (vM : KM) (p1 : Int32) (res : Int32) (h : fX5_hasNumbers vM p1 = some res) : kMI l yX5_hasNumbers wsX5_hasNumbers { frames := 0, cells := 0, slots := 0, locals := 0 } [.ref (adM 0), .int p1] D ty (wM ty adM vM) sz res (wM ty adM vM) := by
  refine Met.ofW (cc := cX5_hasNumbers) (maxL := 4) (ret := (some .boolean)) (by decide) rfl ?_
  intro p e s m args below meth c s₁ B hml hv
  obtain ⟨rfl, hsz, hP, hK, hD0⟩ := hv
  have hx := B.exec
  have hb := B.bytes
  have hr := B.returns
  have hts := atoms_spec (ws := wsX5_hasNumbers) B.pre
  have hown : s.vm.findClass RX5 = some m.cls := findClass_of_methodNamed B.named
  have hlocks := B.notSynchronized
  subst hsz
  have hD := hD0.self (sz := s.heap.size)
  generalize hAe : va_A (wM ty adM vM) s.heap.size = A at hD ⊢
  have hA : ∀ q : Nat, s.heap.size ≤ q → A q := fun q h => by rw [← hAe]; exact Or.inr h
  have hS : va_S A s.heap s.heap [] := va_S.rf
  refine kGenW (fun Q hQ => ?_)
  have wf0 := hts (.fieldLink RX5 31 "IceCoreDaterModel" "numbers" "[I") (by decide +kernel)
  have hinX5 : ∀ w ∈ wsX50, w ∈ wsX5_hasNumbers := by decide +kernel
  have wf2 := hts (.constant RX5 22 (-1000000005)) (by decide +kernel)
  have wf3 := hts (.fieldLink RX5 144 "IceCoreDaterModel" "words" "I") (by decide +kernel)
  have B18 : ∀ (x1 : Int32) (nx18 : Int32 × Int32 → Option (Int32)) (hn18 : ∀ (x2 : Int32) (x3 : Int32), nx18 (x2, x3) = some res → ∀ (H : Heap) (locs : List Loc) (ls : Array Slot), va_P D vwCl (wM ty adM vM) H → va_D A (wM ty adM vM) → va_S A s.heap H locs → lv_has ls 4 [(0, .ref (adM 0)), (1, .int x1), (2, .int x2), (3, .int x3)] → W p l e (headSpec wsX5_hasNumbers { frames := 0, cells := 0, slots := 0, locals := 0 }).room s m ([.ref (adM 0), .int p1] : List Value).toArray below meth c H locs 0 0 Q (F0 m 18 ls [])) (x2 : Int32) (x3 : Int32), fX5_hasNumbers_c18 vM x1 x2 x3 nx18 = some res → ∀ (H : Heap) (locs : List Loc) (ls : Array Slot), va_P D vwCl (wM ty adM vM) H → va_D A (wM ty adM vM) → va_S A s.heap H locs → lv_has ls 4 [(0, .ref (adM 0)), (1, .int x1), (2, .int x2), (3, .int x3)] → W p l e (headSpec wsX5_hasNumbers { frames := 0, cells := 0, slots := 0, locals := 0 }).room s m ([.ref (adM 0), .int p1] : List Value).toArray below meth c H locs 0 0 Q (F0 m 18 ls []) := by
    intro x1 nx18 hn18 x2 x3 h H locs ls hP hD hS hl
    unfold fX5_hasNumbers_c18 at h
    refine lv_iload_n hx hb dX5_hasNumbers_18 rfl (lv_at hl 3 rfl) ?_
    refine lv_iload_n hx hb dX5_hasNumbers_19 rfl (lv_at hl 1 rfl) ?_
    refine lv_icmp_gt (tgt := 50) hx hb dX5_hasNumbers_20 (by decide) (fun c20 => ?_) (fun c20 => ?_)
    · have h := kT h c20
      refine lv_iload_n hx hb dX5_hasNumbers_50 rfl (lv_at hl 2 rfl) ?_
      obtain ⟨b51, h⟩ := kIf h
      obtain rfl := Option.some.inj h
      subst hQ
      exact W.zret (ty := .boolean) (v := x2) hx hb hr (kZ_ok b51) (fun t ht hW => ⟨⟨x2, (), rfl, rfl, kEnd ht hP⟩, hS.F ht⟩) hS.2.2 dX5_hasNumbers_51
    · have h := kF h c20
      refine lv_iload_n hx hb dX5_hasNumbers_23 rfl (lv_at hl 2 rfl) ?_
      refine lv_if_eq (tgt := 50) hx hb dX5_hasNumbers_24 (by decide) (fun c24 => ?_) (fun c24 => ?_)
      · have h := kT h c24
        refine lv_iload_n hx hb dX5_hasNumbers_50 rfl (lv_at hl 2 rfl) ?_
        obtain ⟨b51, h⟩ := kIf h
        obtain rfl := Option.some.inj h
        subst hQ
        exact W.zret (ty := .boolean) (v := x2) hx hb hr (kZ_ok b51) (fun t ht hW => ⟨⟨x2, (), rfl, rfl, kEnd ht hP⟩, hS.F ht⟩) hS.2.2 dX5_hasNumbers_51
      · have h := kF h c24
        refine lv_aload_n hx hb dX5_hasNumbers_27 rfl (lv_at hl 0 rfl) ?_
        refine va_get (D := D) (ci := 5) (v := .ref (adM 6)) (C := RX5) (T := TX5) (N := 12) hx hb hts hinX5 hown hK.1 hP 0 rfl rfl 11 (by decide) wf0 (fun _ h9 => h9) rfl dX5_hasNumbers_28 ?_
        refine lv_iload_n hx hb dX5_hasNumbers_31 rfl (lv_at hl 3 rfl) ?_
        obtain ⟨b32, h⟩ := kIf h
        refine va_iald (f := vM.2.2.2.2.2.2.2.2.2.2.2) (n := 40) hx hb hK.1 hP 6 0 rfl rfl (kIn_ok b32) dX5_hasNumbers_32 ?_
        refine lv_ldc hx hb hown wf2 dX5_hasNumbers_33 ?_
        refine lv_icmp_eq (tgt := 42) hx hb dX5_hasNumbers_35 (by decide) (fun c35 => ?_) (fun c35 => ?_)
        · have h := kT h c35
          refine lv_iconst (v := 0) hx hb dX5_hasNumbers_42 (by decide) ?_
          refine lv_istore_n (lv' := [(2, .int (0 : Int32)), (0, .ref (adM 0)), (1, .int x1), (3, .int x3)]) hx hb dX5_hasNumbers_43 rfl hl (by decide) rfl (fun ls hl => ?_)
          refine lv_iinc (v := (x3 + 1)) (lv' := [(3, .int (x3 + 1)), (2, .int (0 : Int32)), (0, .ref (adM 0)), (1, .int x1)]) hx hb dX5_hasNumbers_44 hl (k := 3) rfl rfl (by decide) rfl (fun ls hl => ?_)
          refine lv_goto (tgt := 18) hx hb dX5_hasNumbers_47 (by decide) ?_
          exact hn18 (0 : Int32) (x3 + 1) h H locs ls hP hD hS (lv_sub hl [2, 3, 1, 0] rfl)
        · have h := kF h c35
          refine lv_iconst (v := 1) hx hb dX5_hasNumbers_38 (by decide) ?_
          refine lv_goto (tgt := 43) hx hb dX5_hasNumbers_39 (by decide) ?_
          refine lv_istore_n (lv' := [(2, .int (1 : Int32)), (0, .ref (adM 0)), (1, .int x1), (3, .int x3)]) hx hb dX5_hasNumbers_43 rfl hl (by decide) rfl (fun ls hl => ?_)
          refine lv_iinc (v := (x3 + 1)) (lv' := [(3, .int (x3 + 1)), (2, .int (1 : Int32)), (0, .ref (adM 0)), (1, .int x1)]) hx hb dX5_hasNumbers_44 hl (k := 3) rfl rfl (by decide) rfl (fun ls hl => ?_)
          refine lv_goto (tgt := 18) hx hb dX5_hasNumbers_47 (by decide) ?_
          exact hn18 (1 : Int32) (x3 + 1) h H locs ls hP hD hS (lv_sub hl [2, 3, 1, 0] rfl)
  have L18 : ∀ (x1 : Int32) (n : Nat) (x2 : Int32) (x3 : Int32), kLoopC n (fun q nx18 => fX5_hasNumbers_c18 vM x1 q.1 q.2 nx18) (x2, x3) = some res → ∀ (H : Heap) (locs : List Loc) (ls : Array Slot), va_P D vwCl (wM ty adM vM) H → va_D A (wM ty adM vM) → va_S A s.heap H locs → lv_has ls 4 [(0, .ref (adM 0)), (1, .int x1), (2, .int x2), (3, .int x3)] → W p l e (headSpec wsX5_hasNumbers { frames := 0, cells := 0, slots := 0, locals := 0 }).room s m ([.ref (adM 0), .int p1] : List Value).toArray below meth c H locs 0 0 Q (F0 m 18 ls []) := by
    intro x1 n
    induction n with
    | zero => intro x2 x3 h; exact absurd h (by simp [kLoopC])
    | succ n ih => intro x2 x3 h; exact B18 x1 (kLoopC n (fun q nx18 => fX5_hasNumbers_c18 vM x1 q.1 q.2 nx18)) ih x2 x3 h
  have hl := lv_entry ([.ref (adM 0), .int p1]) (n := 4) (Nat.le_of_ble_eq_true rfl)
  rw [lg_entry_eq]
  generalize (lg_sl ([.ref (adM 0), .int p1]) ++ List.replicate (4 - (lg_sl ([.ref (adM 0), .int p1])).length) Slot.unset).toArray = ls at hl ⊢
  have hl : lv_has ls 4 [(0, .ref (adM 0)), (1, .int p1)] := hl
  unfold fX5_hasNumbers at h
  have E0 : ∀ (H : Heap) (locs : List Loc) (ls : Array Slot), va_P D vwCl (wM ty adM vM) H → va_D A (wM ty adM vM) → va_S A s.heap H locs → lv_has ls 4 [(0, .ref (adM 0)), (1, .int p1)] → W p l e (headSpec wsX5_hasNumbers { frames := 0, cells := 0, slots := 0, locals := 0 }).room s m ([.ref (adM 0), .int p1] : List Value).toArray below meth c H locs 0 0 Q (F0 m 0 ls []) := by
    intro H locs ls hP hD hS hl
    refine lv_aload_n hx hb dX5_hasNumbers_0 rfl (lv_at hl 0 rfl) ?_
    refine va_get (D := D) (ci := 5) (v := .int vM.2.2.2.2.2.1) (C := RX5) (T := TX5) (N := 12) hx hb hts hinX5 hown hK.1 hP 0 rfl rfl 9 (by decide) wf3 (fun _ h9 => h9) rfl dX5_hasNumbers_1 ?_
    refine lv_iload_n hx hb dX5_hasNumbers_4 rfl (lv_at hl 1 rfl) ?_
    refine lv_iconst (v := 1) hx hb dX5_hasNumbers_5 (by decide) ?_
    refine lv_iadd hx hb dX5_hasNumbers_6 ?_
    refine lv_icmp_ne (tgt := 14) hx hb dX5_hasNumbers_7 (by decide) (fun c7 => ?_) (fun c7 => ?_)
    · have h := kT h c7
      refine lv_iconst (v := 0) hx hb dX5_hasNumbers_14 (by decide) ?_
      refine lv_istore_n (lv' := [(2, .int (0 : Int32)), (0, .ref (adM 0)), (1, .int p1)]) hx hb dX5_hasNumbers_15 rfl hl (by decide) rfl (fun ls hl => ?_)
      refine lv_iconst (v := 1) hx hb dX5_hasNumbers_16 (by decide) ?_
      refine lv_istore_n (lv' := [(3, .int (1 : Int32)), (2, .int (0 : Int32)), (0, .ref (adM 0)), (1, .int p1)]) hx hb dX5_hasNumbers_17 rfl hl (by decide) rfl (fun ls hl => ?_)
      exact L18 p1  kFu (0 : Int32) (1 : Int32) h H locs ls hP hD hS (lv_sub hl [2, 3, 1, 0] rfl)
    · have h := kF h (fun z => z c7)
      refine lv_iconst (v := 1) hx hb dX5_hasNumbers_10 (by decide) ?_
      refine lv_goto (tgt := 15) hx hb dX5_hasNumbers_11 (by decide) ?_
      refine lv_istore_n (lv' := [(2, .int (1 : Int32)), (0, .ref (adM 0)), (1, .int p1)]) hx hb dX5_hasNumbers_15 rfl hl (by decide) rfl (fun ls hl => ?_)
      refine lv_iconst (v := 1) hx hb dX5_hasNumbers_16 (by decide) ?_
      refine lv_istore_n (lv' := [(3, .int (1 : Int32)), (2, .int (1 : Int32)), (0, .ref (adM 0)), (1, .int p1)]) hx hb dX5_hasNumbers_17 rfl hl (by decide) rfl (fun ls hl => ?_)
      exact L18 p1  kFu (1 : Int32) (1 : Int32) h H locs ls hP hD hS (lv_sub hl [2, 3, 1, 0] rfl)
  exact E0 s.heap [] ls hP hD hS hl
def fX5_outcome (p0 : Int32) : Option (Int32) := if (-1000000001 : Int32) < p0 then (some (0 : Int32)) else some p0
set_option maxHeartbeats 4000000 in
set_option maxRecDepth 100000 in
theorem cX5_outcome_ok (l : Launch) (D : va_G) (ty : kTy)  (sz : Nat) (p0 : Int32) (res : Int32) (h : fX5_outcome p0 = some res) : kMI l yX5_outcome wsX5_outcome { frames := 0, cells := 0, slots := 0, locals := 0 } [.int p0] D ty (([] : va_W)) sz res (([] : va_W)) := by
  refine Met.ofW (cc := cX5_outcome) (maxL := 1) (ret := (some .int)) (by decide) rfl ?_
  intro p e s m args below meth c s₁ B hml hv
  obtain ⟨rfl, hsz, hP, hK, hD0⟩ := hv
  have hx := B.exec
  have hb := B.bytes
  have hr := B.returns
  have hts := atoms_spec (ws := wsX5_outcome) B.pre
  have hown : s.vm.findClass RX5 = some m.cls := findClass_of_methodNamed B.named
  have hlocks := B.notSynchronized
  subst hsz
  have hD := hD0.self (sz := s.heap.size)
  generalize hAe : va_A (([] : va_W)) s.heap.size = A at hD ⊢
  have hA : ∀ q : Nat, s.heap.size ≤ q → A q := fun q h => by rw [← hAe]; exact Or.inr h
  have hS : va_S A s.heap s.heap [] := va_S.rf
  refine kGenW (fun Q hQ => ?_)
  have wf0 := hts (.constant RX5 114 (-1000000001)) (by decide +kernel)
  have hl := lv_entry ([.int p0]) (n := 1) (Nat.le_of_ble_eq_true rfl)
  rw [lg_entry_eq]
  generalize (lg_sl ([.int p0]) ++ List.replicate (1 - (lg_sl ([.int p0])).length) Slot.unset).toArray = ls at hl ⊢
  have hl : lv_has ls 1 [(0, .int p0)] := hl
  unfold fX5_outcome at h
  have E0 : ∀ (H : Heap) (locs : List Loc) (ls : Array Slot), va_P D vwCl (([] : va_W)) H → va_D A (([] : va_W)) → va_S A s.heap H locs → lv_has ls 1 [(0, .int p0)] → W p l e (headSpec wsX5_outcome { frames := 0, cells := 0, slots := 0, locals := 0 }).room s m ([.int p0] : List Value).toArray below meth c H locs 0 0 Q (F0 m 0 ls []) := by
    intro H locs ls hP hD hS hl
    refine lv_iload_n hx hb dX5_outcome_0 rfl (lv_at hl 0 rfl) ?_
    refine lv_ldc hx hb hown wf0 dX5_outcome_1 ?_
    refine lv_icmp_gt (tgt := 10) hx hb dX5_outcome_3 (by decide) (fun c3 => ?_) (fun c3 => ?_)
    · have h := kT h c3
      refine lv_iconst (v := 0) hx hb dX5_outcome_10 (by decide) ?_
      obtain rfl := Option.some.inj h
      subst hQ
      exact W.iret (v := (0 : Int32)) hx hb hr (fun t ht hW => ⟨⟨(0 : Int32), (), rfl, rfl, kEnd ht hP⟩, hS.F ht⟩) hS.2.2 dX5_outcome_11
    · have h := kF h c3
      refine lv_iload_n hx hb dX5_outcome_6 rfl (lv_at hl 0 rfl) ?_
      refine lv_goto (tgt := 11) hx hb dX5_outcome_7 (by decide) ?_
      obtain rfl := Option.some.inj h
      subst hQ
      exact W.iret (v := p0) hx hb hr (fun t ht hW => ⟨⟨p0, (), rfl, rfl, kEnd ht hP⟩, hS.F ht⟩) hS.2.2 dX5_outcome_11
  exact E0 s.heap [] ls hP hD hS hl
def fX5_use_c87 (uM : KM) (s0 : Int32) : Option (Int32 × KM) := if ¬ uM.2.2.2.2.2.1 = (2 : Int32) then (some ((1 : Int32), uM)) else (if ¬ s0 = (-1000000005 : Int32) then ((fX5_setFunction uM s0).bind fun r108 => (fX5_outcome r108.1).bind fun r111 => some (r111, r108.2)) else (some ((1 : Int32), uM)))
def fX5_use (vM : KM) : Option (Int32 × KM) := if kIn (1 : Int32) 40 = true then ((fX5_word (108 : Int32) (105 : Int32) (110 : Int32) (101 : Int32) (97 : Int32) (114 : Int32)).bind fun r18 => if ¬ (vM.2.2.2.2.2.2.2.2.2.2.1 (1 : Int32).toNatClampNeg) = r18 then (if kIn (1 : Int32) 40 = true then ((fX5_word (107 : Int32) (105 : Int32) (110 : Int32) (107 : Int32) (101 : Int32) (100 : Int32)).bind fun r47 => if ¬ (vM.2.2.2.2.2.2.2.2.2.2.1 (1 : Int32).toNatClampNeg) = r47 then (if kIn (1 : Int32) 40 = true then ((fX5_word (116 : Int32) (111 : Int32) (108 : Int32) (100 : Int32) (0 : Int32) (0 : Int32)).bind fun r74 => if ¬ (vM.2.2.2.2.2.2.2.2.2.2.1 (1 : Int32).toNatClampNeg) = r74 then (fX5_use_c87 vM (-1000000005 : Int32)) else (fX5_use_c87 vM (2 : Int32))) else none) else (fX5_use_c87 vM (1 : Int32))) else none) else (fX5_use_c87 vM (0 : Int32))) else none
set_option maxHeartbeats 4000000 in
set_option maxRecDepth 100000 in
theorem cX5_use_ok (l : Launch) (D : va_G) (ty : kTy) (adM : Nat → Nat) (sz : Nat) (vM : KM) (res : Int32 × KM) (h : fX5_use vM = some res) : kMI l yX5_use wsX5_use { frames := 3, cells := 0, slots := 0, locals := 65 } [.ref (adM 0)] D ty (wM ty adM vM) sz res.1 (wM ty adM res.2) := by
  refine Met.ofW (cc := cX5_use) (maxL := 2) (ret := (some .int)) (by decide) rfl ?_
  intro p e s m args below meth c s₁ B hml hv
  obtain ⟨rfl, hsz, hP, hK, hD0⟩ := hv
  have hx := B.exec
  have hb := B.bytes
  have hr := B.returns
  have hts := atoms_spec (ws := wsX5_use) B.pre
  have hown : s.vm.findClass RX5 = some m.cls := findClass_of_methodNamed B.named
  have hlocks := B.notSynchronized
  subst hsz
  have hD := hD0.self (sz := s.heap.size)
  generalize hAe : va_A (wM ty adM vM) s.heap.size = A at hD ⊢
  have hA : ∀ q : Nat, s.heap.size ≤ q → A q := fun q h => by rw [← hAe]; exact Or.inr h
  have hS : va_S A s.heap s.heap [] := va_S.rf
  refine kGenW (fun Q hQ => ?_)
  have wf0 := hts (.fieldLink RX5 144 "IceCoreDaterModel" "words" "I") (by decide +kernel)
  have hinX5 : ∀ w ∈ wsX50, w ∈ wsX5_use := by decide +kernel
  have wf2 := hts (.constant RX5 22 (-1000000005)) (by decide +kernel)
  have wf3 := hts (.fieldLink RX5 27 "IceCoreDaterModel" "spelled" "[J") (by decide +kernel)
  have J87 : ∀ (uM : KM) (s0 : Int32), fX5_use_c87 uM s0 = some res → ∀ (H : Heap) (locs : List Loc) (ls : Array Slot), va_P D vwCl (wM ty adM uM) H → va_D A (wM ty adM uM) → va_S A s.heap H locs → lv_has ls 2 [(0, .ref (adM 0))] → W p l e (headSpec wsX5_use { frames := 3, cells := 0, slots := 0, locals := 65 }).room s m ([.ref (adM 0)] : List Value).toArray below meth c H locs 0 0 Q (F0 m 87 ls [.int s0]) := by
    intro uM s0 h H locs ls hP hD hS hl
    unfold fX5_use_c87 at h
    refine lv_istore_n (lv' := [(1, .int s0), (0, .ref (adM 0))]) hx hb dX5_use_87 rfl hl (by decide) rfl (fun ls hl => ?_)
    refine lv_aload_n hx hb dX5_use_88 rfl (lv_at hl 1 rfl) ?_
    refine va_get (D := D) (ci := 5) (v := .int uM.2.2.2.2.2.1) (C := RX5) (T := TX5) (N := 12) hx hb hts hinX5 hown hK.1 hP 0 rfl rfl 9 (by decide) wf0 (fun _ h9 => h9) rfl dX5_use_89 ?_
    refine lv_iconst (v := 2) hx hb dX5_use_92 (by decide) ?_
    refine lv_icmp_ne (tgt := 102) hx hb dX5_use_93 (by decide) (fun c93 => ?_) (fun c93 => ?_)
    · have h := kT h c93
      refine lv_iconst (v := 1) hx hb dX5_use_102 (by decide) ?_
      refine lv_goto (tgt := 114) hx hb dX5_use_103 (by decide) ?_
      obtain rfl := Option.some.inj h
      subst hQ
      exact W.iret (v := (1 : Int32)) hx hb hr (fun t ht hW => ⟨⟨(1 : Int32), (), rfl, rfl, kEnd ht hP⟩, hS.F ht⟩) hS.2.2 dX5_use_114
    · have h := kF h (fun z => z c93)
      refine lv_iload_n hx hb dX5_use_96 rfl (lv_at hl 0 rfl) ?_
      refine lv_ldc hx hb hown wf2 dX5_use_97 ?_
      refine lv_icmp_ne (tgt := 106) hx hb dX5_use_99 (by decide) (fun c99 => ?_) (fun c99 => ?_)
      · have h := kT h c99
        refine lv_aload_n hx hb dX5_use_106 rfl (lv_at hl 1 rfl) ?_
        refine lv_iload_n hx hb dX5_use_107 rfl (lv_at hl 0 rfl) ?_
        obtain ⟨r108, e108, h⟩ := kBd h
        refine kCallVI (As := [.int s0]) (rest := []) (wc := wM ty adM uM) (w1 := wM ty adM r108.2) (wn := wM ty adM r108.2) ⟨hx, hb, hml, hown, hts⟩ (cX5_setFunction_ok l D ty adM H.size uM s0 r108 e108) (cwV 1 hts gX5_use_X5_setFunction rfl rfl rfl (by decide +kernel) ⟨Nat.le_of_ble_eq_true rfl, Nat.le_of_ble_eq_true rfl⟩) hP hK hD hS hA [0, 1, 2, 3, 4, 5, 6] (by decide) rfl 5 0 rfl rfl rfl rfl hl.1 rfl (Nat.le_of_ble_eq_true rfl) dX5_use_108 ⟨Nat.le_of_ble_eq_true rfl, Nat.le_of_ble_eq_true rfl⟩ rfl rfl (fun H locs hP hD hS => ?_)
        obtain ⟨r111, e111, h⟩ := kBd h
        refine kCallSI (As := [.int r108.1]) (rest := []) ⟨hx, hb, hml, hown, hts⟩ (cX5_outcome_ok l D ty  H.size r108.1 r111 e111) (va_cwS 1 hts gX5_use_X5_outcome rfl rfl rfl (by decide +kernel) ⟨Nat.le_of_ble_eq_true rfl, Nat.le_of_ble_eq_true rfl⟩) hP hK hD hS hA rfl hl.1 rfl (Nat.le_of_ble_eq_true rfl) dX5_use_111 ⟨Nat.le_of_ble_eq_true rfl, Nat.le_of_ble_eq_true rfl⟩ (fun H locs hP hS => ?_)
        obtain rfl := Option.some.inj h
        subst hQ
        exact W.iret (v := r111) hx hb hr (fun t ht hW => ⟨⟨r111, (), rfl, rfl, kEnd ht hP⟩, hS.F ht⟩) hS.2.2 dX5_use_114
      · have h := kF h (fun z => z c99)
        refine lv_iconst (v := 1) hx hb dX5_use_102 (by decide) ?_
        refine lv_goto (tgt := 114) hx hb dX5_use_103 (by decide) ?_
        obtain rfl := Option.some.inj h
        subst hQ
        exact W.iret (v := (1 : Int32)) hx hb hr (fun t ht hW => ⟨⟨(1 : Int32), (), rfl, rfl, kEnd ht hP⟩, hS.F ht⟩) hS.2.2 dX5_use_114
  have hl := lv_entry ([.ref (adM 0)]) (n := 2) (Nat.le_of_ble_eq_true rfl)
  rw [lg_entry_eq]
  generalize (lg_sl ([.ref (adM 0)]) ++ List.replicate (2 - (lg_sl ([.ref (adM 0)])).length) Slot.unset).toArray = ls at hl ⊢
  have hl : lv_has ls 2 [(0, .ref (adM 0))] := hl
  unfold fX5_use at h
  have E0 : ∀ (H : Heap) (locs : List Loc) (ls : Array Slot), va_P D vwCl (wM ty adM vM) H → va_D A (wM ty adM vM) → va_S A s.heap H locs → lv_has ls 2 [(0, .ref (adM 0))] → W p l e (headSpec wsX5_use { frames := 3, cells := 0, slots := 0, locals := 65 }).room s m ([.ref (adM 0)] : List Value).toArray below meth c H locs 0 0 Q (F0 m 0 ls []) := by
    intro H locs ls hP hD hS hl
    refine lv_aload_n hx hb dX5_use_0 rfl (lv_at hl 0 rfl) ?_
    refine va_get (D := D) (ci := 5) (v := .ref (adM 5)) (C := RX5) (T := TX5) (N := 12) hx hb hts hinX5 hown hK.1 hP 0 rfl rfl 10 (by decide) wf3 (fun _ h9 => h9) rfl dX5_use_1 ?_
    refine lv_iconst (v := 1) hx hb dX5_use_4 (by decide) ?_
    obtain ⟨b5, h⟩ := kIf h
    refine va_lald (f := vM.2.2.2.2.2.2.2.2.2.2.1) (n := 40) hx hb hK.1 hP 5 1 rfl rfl (kIn_ok b5) dX5_use_5 ?_
    refine lv_bipush (v := 108) hx hb dX5_use_6 (by decide) ?_
    refine lv_bipush (v := 105) hx hb dX5_use_8 (by decide) ?_
    refine lv_bipush (v := 110) hx hb dX5_use_10 (by decide) ?_
    refine lv_bipush (v := 101) hx hb dX5_use_12 (by decide) ?_
    refine lv_bipush (v := 97) hx hb dX5_use_14 (by decide) ?_
    refine lv_bipush (v := 114) hx hb dX5_use_16 (by decide) ?_
    obtain ⟨r18, e18, h⟩ := kBd h
    refine kCallSL (As := [.int (108 : Int32), .int (105 : Int32), .int (110 : Int32), .int (101 : Int32), .int (97 : Int32), .int (114 : Int32)]) (rest := [.long (vM.2.2.2.2.2.2.2.2.2.2.1 (1 : Int32).toNatClampNeg)]) ⟨hx, hb, hml, hown, hts⟩ (cX5_word_ok l D ty  H.size (108 : Int32) (105 : Int32) (110 : Int32) (101 : Int32) (97 : Int32) (114 : Int32) r18 e18) (va_cwS 6 hts gX5_use_X5_word rfl rfl rfl (by decide +kernel) ⟨Nat.le_of_ble_eq_true rfl, Nat.le_of_ble_eq_true rfl⟩) hP hK hD hS hA rfl hl.1 rfl (Nat.le_of_ble_eq_true rfl) dX5_use_18 ⟨Nat.le_of_ble_eq_true rfl, Nat.le_of_ble_eq_true rfl⟩ (fun H locs hP hS => ?_)
    refine W.lcmp hx hb dX5_use_21 ?_
    refine lv_if_ne (tgt := 29) hx hb dX5_use_22 (by decide) (fun c22 => ?_) (fun c22 => ?_)
    · have h := kT h (fun z => c22 ((lg_cmp_eq _ _).mpr z))
      refine lv_aload_n hx hb dX5_use_29 rfl (lv_at hl 0 rfl) ?_
      refine va_get (D := D) (ci := 5) (v := .ref (adM 5)) (C := RX5) (T := TX5) (N := 12) hx hb hts hinX5 hown hK.1 hP 0 rfl rfl 10 (by decide) wf3 (fun _ h9 => h9) rfl dX5_use_30 ?_
      refine lv_iconst (v := 1) hx hb dX5_use_33 (by decide) ?_
      obtain ⟨b34, h⟩ := kIf h
      refine va_lald (f := vM.2.2.2.2.2.2.2.2.2.2.1) (n := 40) hx hb hK.1 hP 5 1 rfl rfl (kIn_ok b34) dX5_use_34 ?_
      refine lv_bipush (v := 107) hx hb dX5_use_35 (by decide) ?_
      refine lv_bipush (v := 105) hx hb dX5_use_37 (by decide) ?_
      refine lv_bipush (v := 110) hx hb dX5_use_39 (by decide) ?_
      refine lv_bipush (v := 107) hx hb dX5_use_41 (by decide) ?_
      refine lv_bipush (v := 101) hx hb dX5_use_43 (by decide) ?_
      refine lv_bipush (v := 100) hx hb dX5_use_45 (by decide) ?_
      obtain ⟨r47, e47, h⟩ := kBd h
      refine kCallSL (As := [.int (107 : Int32), .int (105 : Int32), .int (110 : Int32), .int (107 : Int32), .int (101 : Int32), .int (100 : Int32)]) (rest := [.long (vM.2.2.2.2.2.2.2.2.2.2.1 (1 : Int32).toNatClampNeg)]) ⟨hx, hb, hml, hown, hts⟩ (cX5_word_ok l D ty  H.size (107 : Int32) (105 : Int32) (110 : Int32) (107 : Int32) (101 : Int32) (100 : Int32) r47 e47) (va_cwS 6 hts gX5_use_X5_word rfl rfl rfl (by decide +kernel) ⟨Nat.le_of_ble_eq_true rfl, Nat.le_of_ble_eq_true rfl⟩) hP hK hD hS hA rfl hl.1 rfl (Nat.le_of_ble_eq_true rfl) dX5_use_47 ⟨Nat.le_of_ble_eq_true rfl, Nat.le_of_ble_eq_true rfl⟩ (fun H locs hP hS => ?_)
      refine W.lcmp hx hb dX5_use_50 ?_
      refine lv_if_ne (tgt := 58) hx hb dX5_use_51 (by decide) (fun c51 => ?_) (fun c51 => ?_)
      · have h := kT h (fun z => c51 ((lg_cmp_eq _ _).mpr z))
        refine lv_aload_n hx hb dX5_use_58 rfl (lv_at hl 0 rfl) ?_
        refine va_get (D := D) (ci := 5) (v := .ref (adM 5)) (C := RX5) (T := TX5) (N := 12) hx hb hts hinX5 hown hK.1 hP 0 rfl rfl 10 (by decide) wf3 (fun _ h9 => h9) rfl dX5_use_59 ?_
        refine lv_iconst (v := 1) hx hb dX5_use_62 (by decide) ?_
        obtain ⟨b63, h⟩ := kIf h
        refine va_lald (f := vM.2.2.2.2.2.2.2.2.2.2.1) (n := 40) hx hb hK.1 hP 5 1 rfl rfl (kIn_ok b63) dX5_use_63 ?_
        refine lv_bipush (v := 116) hx hb dX5_use_64 (by decide) ?_
        refine lv_bipush (v := 111) hx hb dX5_use_66 (by decide) ?_
        refine lv_bipush (v := 108) hx hb dX5_use_68 (by decide) ?_
        refine lv_bipush (v := 100) hx hb dX5_use_70 (by decide) ?_
        refine lv_iconst (v := 0) hx hb dX5_use_72 (by decide) ?_
        refine lv_iconst (v := 0) hx hb dX5_use_73 (by decide) ?_
        obtain ⟨r74, e74, h⟩ := kBd h
        refine kCallSL (As := [.int (116 : Int32), .int (111 : Int32), .int (108 : Int32), .int (100 : Int32), .int (0 : Int32), .int (0 : Int32)]) (rest := [.long (vM.2.2.2.2.2.2.2.2.2.2.1 (1 : Int32).toNatClampNeg)]) ⟨hx, hb, hml, hown, hts⟩ (cX5_word_ok l D ty  H.size (116 : Int32) (111 : Int32) (108 : Int32) (100 : Int32) (0 : Int32) (0 : Int32) r74 e74) (va_cwS 6 hts gX5_use_X5_word rfl rfl rfl (by decide +kernel) ⟨Nat.le_of_ble_eq_true rfl, Nat.le_of_ble_eq_true rfl⟩) hP hK hD hS hA rfl hl.1 rfl (Nat.le_of_ble_eq_true rfl) dX5_use_74 ⟨Nat.le_of_ble_eq_true rfl, Nat.le_of_ble_eq_true rfl⟩ (fun H locs hP hS => ?_)
        refine W.lcmp hx hb dX5_use_77 ?_
        refine lv_if_ne (tgt := 85) hx hb dX5_use_78 (by decide) (fun c78 => ?_) (fun c78 => ?_)
        · have h := kT h (fun z => c78 ((lg_cmp_eq _ _).mpr z))
          refine lv_ldc hx hb hown wf2 dX5_use_85 ?_
          exact J87 vM (-1000000005 : Int32) h H locs ls hP hD hS (lv_sub hl [0] rfl)
        · have h := kF h (fun z => z ((lg_cmp_eq _ _).mp c78))
          refine lv_iconst (v := 2) hx hb dX5_use_81 (by decide) ?_
          refine lv_goto (tgt := 87) hx hb dX5_use_82 (by decide) ?_
          exact J87 vM (2 : Int32) h H locs ls hP hD hS (lv_sub hl [0] rfl)
      · have h := kF h (fun z => z ((lg_cmp_eq _ _).mp c51))
        refine lv_iconst (v := 1) hx hb dX5_use_54 (by decide) ?_
        refine lv_goto (tgt := 87) hx hb dX5_use_55 (by decide) ?_
        exact J87 vM (1 : Int32) h H locs ls hP hD hS (lv_sub hl [0] rfl)
    · have h := kF h (fun z => z ((lg_cmp_eq _ _).mp c22))
      refine lv_iconst (v := 0) hx hb dX5_use_25 (by decide) ?_
      refine lv_goto (tgt := 87) hx hb dX5_use_26 (by decide) ?_
      exact J87 vM (0 : Int32) h H locs ls hP hD hS (lv_sub hl [0] rfl)
  exact E0 s.heap [] ls hP hD hS hl
def fX5_perform_c17 (uM : KM) (s0 : Int64) : Option (Int32 × KM) := (fX5_word (108 : Int32) (97 : Int32) (121 : Int32) (101 : Int32) (114 : Int32) (0 : Int32)).bind fun r30 => if ¬ s0 = r30 then ((fX5_word (97 : Int32) (115 : Int32) (104 : Int32) (0 : Int32) (0 : Int32) (0 : Int32)).bind fun r79 => if ¬ s0 = r79 then ((fX5_word (99 : Int32) (111 : Int32) (117 : Int32) (110 : Int32) (116 : Int32) (0 : Int32)).bind fun r136 => if ¬ s0 = r136 then ((fX5_word (102 : Int32) (105 : Int32) (120 : Int32) (0 : Int32) (0 : Int32) (0 : Int32)).bind fun r185 => if ¬ s0 = r185 then ((fX5_word (98 : Int32) (101 : Int32) (100 : Int32) (0 : Int32) (0 : Int32) (0 : Int32)).bind fun r234 => if ¬ s0 = r234 then ((fX5_word (107 : Int32) (105 : Int32) (110 : Int32) (107 : Int32) (0 : Int32) (0 : Int32)).bind fun r278 => if ¬ s0 = r278 then ((fX5_word (99 : Int32) (108 : Int32) (111 : Int32) (115 : Int32) (101 : Int32) (0 : Int32)).bind fun r323 => if ¬ s0 = r323 then ((fX5_word (117 : Int32) (115 : Int32) (101 : Int32) (0 : Int32) (0 : Int32) (0 : Int32)).bind fun r366 => if ¬ s0 = r366 then ((fX5_word (116 : Int32) (117 : Int32) (110 : Int32) (101 : Int32) (0 : Int32) (0 : Int32)).bind fun r389 => if ¬ s0 = r389 then (some ((1 : Int32), uM)) else (if ¬ uM.2.2.2.2.2.1 = (1 : Int32) then (some ((1 : Int32), uM)) else ((fX5_tune uM).bind fun r405 => (fX5_outcome r405.1).bind fun r408 => some (r408, r405.2)))) else ((fX5_use uM).bind fun r374 => some (r374.1, r374.2))) else ((fX5_hasNumbers uM (1 : Int32)).bind fun r332 => if r332 = (0 : Int32) then (some ((1 : Int32), uM)) else (if kIn (1 : Int32) 40 = true then ((fX5_setCloseOff uM (uM.2.2.2.2.2.2.2.2.2.2.2 (1 : Int32).toNatClampNeg)).bind fun r345 => (fX5_outcome r345.1).bind fun r348 => some (r348, r345.2)) else none))) else ((fX5_hasNumbers uM (1 : Int32)).bind fun r287 => if r287 = (0 : Int32) then (some ((1 : Int32), uM)) else (if kIn (1 : Int32) 40 = true then ((fX5_setKink uM (uM.2.2.2.2.2.2.2.2.2.2.2 (1 : Int32).toNatClampNeg)).bind fun r300 => (fX5_outcome r300.1).bind fun r303 => some (r303, r300.2)) else none))) else ((fX5_hasNumbers uM (1 : Int32)).bind fun r243 => if r243 = (0 : Int32) then (some ((1 : Int32), uM)) else (if kIn (1 : Int32) 40 = true then ((fX5_setBed uM (uM.2.2.2.2.2.2.2.2.2.2.2 (1 : Int32).toNatClampNeg)).bind fun r256 => (fX5_outcome r256.1).bind fun r259 => some (r259, r256.2)) else none))) else ((fX5_hasNumbers uM (2 : Int32)).bind fun r194 => if r194 = (0 : Int32) then (some ((1 : Int32), uM)) else (if kIn (1 : Int32) 40 = true then (if kIn (2 : Int32) 40 = true then ((fX5_correct uM (uM.2.2.2.2.2.2.2.2.2.2.2 (1 : Int32).toNatClampNeg) (uM.2.2.2.2.2.2.2.2.2.2.2 (2 : Int32).toNatClampNeg)).bind fun r213 => (fX5_outcome r213.1).bind fun r216 => some (r216, r213.2)) else none) else none))) else ((fX5_hasNumbers uM (2 : Int32)).bind fun r145 => if r145 = (0 : Int32) then (some ((1 : Int32), uM)) else (if kIn (1 : Int32) 40 = true then (if kIn (2 : Int32) 40 = true then ((fX5_setCount uM (uM.2.2.2.2.2.2.2.2.2.2.2 (1 : Int32).toNatClampNeg) (uM.2.2.2.2.2.2.2.2.2.2.2 (2 : Int32).toNatClampNeg)).bind fun r164 => (fX5_outcome r164.1).bind fun r167 => some (r167, r164.2)) else none) else none))) else ((fX5_hasNumbers uM (3 : Int32)).bind fun r88 => if r88 = (0 : Int32) then (some ((1 : Int32), uM)) else (if kIn (1 : Int32) 40 = true then (if kIn (2 : Int32) 40 = true then (if kIn (3 : Int32) 40 = true then ((fX5_setAsh uM (uM.2.2.2.2.2.2.2.2.2.2.2 (1 : Int32).toNatClampNeg) (uM.2.2.2.2.2.2.2.2.2.2.2 (2 : Int32).toNatClampNeg) (uM.2.2.2.2.2.2.2.2.2.2.2 (3 : Int32).toNatClampNeg)).bind fun r113 => (fX5_outcome r113.1).bind fun r116 => some (r116, r113.2)) else none) else none) else none))) else ((fX5_hasNumbers uM (2 : Int32)).bind fun r39 => if r39 = (0 : Int32) then (some ((1 : Int32), uM)) else (if kIn (1 : Int32) 40 = true then (if kIn (2 : Int32) 40 = true then ((fX5_addLayer uM (uM.2.2.2.2.2.2.2.2.2.2.2 (1 : Int32).toNatClampNeg) (uM.2.2.2.2.2.2.2.2.2.2.2 (2 : Int32).toNatClampNeg)).bind fun r58 => (fX5_outcome r58.1).bind fun r61 => some (r61, r58.2)) else none) else none))
def fX5_perform (vM : KM) : Option (Int32 × KM) := if ¬ vM.2.2.2.2.2.1 = (0 : Int32) then (if kIn (0 : Int32) 40 = true then (fX5_perform_c17 vM (vM.2.2.2.2.2.2.2.2.2.2.1 (0 : Int32).toNatClampNeg)) else none) else (fX5_perform_c17 vM (0 : Int64))
set_option maxHeartbeats 4000000 in
set_option maxRecDepth 100000 in
theorem cX5_perform_ok (l : Launch) (D : va_G) (ty : kTy) (adM : Nat → Nat) (sz : Nat) (vM : KM) (res : Int32 × KM) (h : fX5_perform vM = some res) : kMI l yX5_perform wsX5_perform { frames := 8, cells := 0, slots := 0, locals := 184 } [.ref (adM 0)] D ty (wM ty adM vM) sz res.1 (wM ty adM res.2) := by
  refine Met.ofW (cc := cX5_perform) (maxL := 3) (ret := (some .int)) (by decide) rfl ?_
  intro p e s m args below meth c s₁ B hml hv
  obtain ⟨rfl, hsz, hP, hK, hD0⟩ := hv
  have hx := B.exec
  have hb := B.bytes
  have hr := B.returns
  have hts := atoms_spec (ws := wsX5_perform) B.pre
  have hown : s.vm.findClass RX5 = some m.cls := findClass_of_methodNamed B.named
  have hlocks := B.notSynchronized
  subst hsz
  have hD := hD0.self (sz := s.heap.size)
  generalize hAe : va_A (wM ty adM vM) s.heap.size = A at hD ⊢
  have hA : ∀ q : Nat, s.heap.size ≤ q → A q := fun q h => by rw [← hAe]; exact Or.inr h
  have hS : va_S A s.heap s.heap [] := va_S.rf
  refine kGenW (fun Q hQ => ?_)
  have wf0 := hts (.fieldLink RX5 144 "IceCoreDaterModel" "words" "I") (by decide +kernel)
  have hinX5 : ∀ w ∈ wsX50, w ∈ wsX5_perform := by decide +kernel
  have wf2 := hts (.fieldLink RX5 31 "IceCoreDaterModel" "numbers" "[I") (by decide +kernel)
  have wf3 := hts (.fieldLink RX5 27 "IceCoreDaterModel" "spelled" "[J") (by decide +kernel)
  have J17 : ∀ (uM : KM) (s0 : Int64), fX5_perform_c17 uM s0 = some res → ∀ (H : Heap) (locs : List Loc) (ls : Array Slot), va_P D vwCl (wM ty adM uM) H → va_D A (wM ty adM uM) → va_S A s.heap H locs → lv_has ls 3 [(0, .ref (adM 0))] → W p l e (headSpec wsX5_perform { frames := 8, cells := 0, slots := 0, locals := 184 }).room s m ([.ref (adM 0)] : List Value).toArray below meth c H locs 0 0 Q (F0 m 17 ls [.long s0]) := by
    intro uM s0 h H locs ls hP hD hS hl
    unfold fX5_perform_c17 at h
    refine lv_lstore_n (lv' := [(1, .long s0), (0, .ref (adM 0))]) hx hb dX5_perform_17 rfl hl (by decide) rfl (fun ls hl => ?_)
    refine lv_lload_n hx hb dX5_perform_18 rfl (lv_at hl 0 rfl) ?_
    refine lv_bipush (v := 108) hx hb dX5_perform_19 (by decide) ?_
    refine lv_bipush (v := 97) hx hb dX5_perform_21 (by decide) ?_
    refine lv_bipush (v := 121) hx hb dX5_perform_23 (by decide) ?_
    refine lv_bipush (v := 101) hx hb dX5_perform_25 (by decide) ?_
    refine lv_bipush (v := 114) hx hb dX5_perform_27 (by decide) ?_
    refine lv_iconst (v := 0) hx hb dX5_perform_29 (by decide) ?_
    obtain ⟨r30, e30, h⟩ := kBd h
    refine kCallSL (As := [.int (108 : Int32), .int (97 : Int32), .int (121 : Int32), .int (101 : Int32), .int (114 : Int32), .int (0 : Int32)]) (rest := [.long s0]) ⟨hx, hb, hml, hown, hts⟩ (cX5_word_ok l D ty  H.size (108 : Int32) (97 : Int32) (121 : Int32) (101 : Int32) (114 : Int32) (0 : Int32) r30 e30) (va_cwS 6 hts gX5_perform_X5_word rfl rfl rfl (by decide +kernel) ⟨Nat.le_of_ble_eq_true rfl, Nat.le_of_ble_eq_true rfl⟩) hP hK hD hS hA rfl hl.1 rfl (Nat.le_of_ble_eq_true rfl) dX5_perform_30 ⟨Nat.le_of_ble_eq_true rfl, Nat.le_of_ble_eq_true rfl⟩ (fun H locs hP hS => ?_)
    refine W.lcmp hx hb dX5_perform_33 ?_
    refine lv_if_ne (tgt := 69) hx hb dX5_perform_34 (by decide) (fun c34 => ?_) (fun c34 => ?_)
    · have h := kT h (fun z => c34 ((lg_cmp_eq _ _).mpr z))
      refine lv_lload_n hx hb dX5_perform_69 rfl (lv_at hl 0 rfl) ?_
      refine lv_bipush (v := 97) hx hb dX5_perform_70 (by decide) ?_
      refine lv_bipush (v := 115) hx hb dX5_perform_72 (by decide) ?_
      refine lv_bipush (v := 104) hx hb dX5_perform_74 (by decide) ?_
      refine lv_iconst (v := 0) hx hb dX5_perform_76 (by decide) ?_
      refine lv_iconst (v := 0) hx hb dX5_perform_77 (by decide) ?_
      refine lv_iconst (v := 0) hx hb dX5_perform_78 (by decide) ?_
      obtain ⟨r79, e79, h⟩ := kBd h
      refine kCallSL (As := [.int (97 : Int32), .int (115 : Int32), .int (104 : Int32), .int (0 : Int32), .int (0 : Int32), .int (0 : Int32)]) (rest := [.long s0]) ⟨hx, hb, hml, hown, hts⟩ (cX5_word_ok l D ty  H.size (97 : Int32) (115 : Int32) (104 : Int32) (0 : Int32) (0 : Int32) (0 : Int32) r79 e79) (va_cwS 6 hts gX5_perform_X5_word rfl rfl rfl (by decide +kernel) ⟨Nat.le_of_ble_eq_true rfl, Nat.le_of_ble_eq_true rfl⟩) hP hK hD hS hA rfl hl.1 rfl (Nat.le_of_ble_eq_true rfl) dX5_perform_79 ⟨Nat.le_of_ble_eq_true rfl, Nat.le_of_ble_eq_true rfl⟩ (fun H locs hP hS => ?_)
      refine W.lcmp hx hb dX5_perform_82 ?_
      refine lv_if_ne (tgt := 124) hx hb dX5_perform_83 (by decide) (fun c83 => ?_) (fun c83 => ?_)
      · have h := kT h (fun z => c83 ((lg_cmp_eq _ _).mpr z))
        refine lv_lload_n hx hb dX5_perform_124 rfl (lv_at hl 0 rfl) ?_
        refine lv_bipush (v := 99) hx hb dX5_perform_125 (by decide) ?_
        refine lv_bipush (v := 111) hx hb dX5_perform_127 (by decide) ?_
        refine lv_bipush (v := 117) hx hb dX5_perform_129 (by decide) ?_
        refine lv_bipush (v := 110) hx hb dX5_perform_131 (by decide) ?_
        refine lv_bipush (v := 116) hx hb dX5_perform_133 (by decide) ?_
        refine lv_iconst (v := 0) hx hb dX5_perform_135 (by decide) ?_
        obtain ⟨r136, e136, h⟩ := kBd h
        refine kCallSL (As := [.int (99 : Int32), .int (111 : Int32), .int (117 : Int32), .int (110 : Int32), .int (116 : Int32), .int (0 : Int32)]) (rest := [.long s0]) ⟨hx, hb, hml, hown, hts⟩ (cX5_word_ok l D ty  H.size (99 : Int32) (111 : Int32) (117 : Int32) (110 : Int32) (116 : Int32) (0 : Int32) r136 e136) (va_cwS 6 hts gX5_perform_X5_word rfl rfl rfl (by decide +kernel) ⟨Nat.le_of_ble_eq_true rfl, Nat.le_of_ble_eq_true rfl⟩) hP hK hD hS hA rfl hl.1 rfl (Nat.le_of_ble_eq_true rfl) dX5_perform_136 ⟨Nat.le_of_ble_eq_true rfl, Nat.le_of_ble_eq_true rfl⟩ (fun H locs hP hS => ?_)
        refine W.lcmp hx hb dX5_perform_139 ?_
        refine lv_if_ne (tgt := 175) hx hb dX5_perform_140 (by decide) (fun c140 => ?_) (fun c140 => ?_)
        · have h := kT h (fun z => c140 ((lg_cmp_eq _ _).mpr z))
          refine lv_lload_n hx hb dX5_perform_175 rfl (lv_at hl 0 rfl) ?_
          refine lv_bipush (v := 102) hx hb dX5_perform_176 (by decide) ?_
          refine lv_bipush (v := 105) hx hb dX5_perform_178 (by decide) ?_
          refine lv_bipush (v := 120) hx hb dX5_perform_180 (by decide) ?_
          refine lv_iconst (v := 0) hx hb dX5_perform_182 (by decide) ?_
          refine lv_iconst (v := 0) hx hb dX5_perform_183 (by decide) ?_
          refine lv_iconst (v := 0) hx hb dX5_perform_184 (by decide) ?_
          obtain ⟨r185, e185, h⟩ := kBd h
          refine kCallSL (As := [.int (102 : Int32), .int (105 : Int32), .int (120 : Int32), .int (0 : Int32), .int (0 : Int32), .int (0 : Int32)]) (rest := [.long s0]) ⟨hx, hb, hml, hown, hts⟩ (cX5_word_ok l D ty  H.size (102 : Int32) (105 : Int32) (120 : Int32) (0 : Int32) (0 : Int32) (0 : Int32) r185 e185) (va_cwS 6 hts gX5_perform_X5_word rfl rfl rfl (by decide +kernel) ⟨Nat.le_of_ble_eq_true rfl, Nat.le_of_ble_eq_true rfl⟩) hP hK hD hS hA rfl hl.1 rfl (Nat.le_of_ble_eq_true rfl) dX5_perform_185 ⟨Nat.le_of_ble_eq_true rfl, Nat.le_of_ble_eq_true rfl⟩ (fun H locs hP hS => ?_)
          refine W.lcmp hx hb dX5_perform_188 ?_
          refine lv_if_ne (tgt := 224) hx hb dX5_perform_189 (by decide) (fun c189 => ?_) (fun c189 => ?_)
          · have h := kT h (fun z => c189 ((lg_cmp_eq _ _).mpr z))
            refine lv_lload_n hx hb dX5_perform_224 rfl (lv_at hl 0 rfl) ?_
            refine lv_bipush (v := 98) hx hb dX5_perform_225 (by decide) ?_
            refine lv_bipush (v := 101) hx hb dX5_perform_227 (by decide) ?_
            refine lv_bipush (v := 100) hx hb dX5_perform_229 (by decide) ?_
            refine lv_iconst (v := 0) hx hb dX5_perform_231 (by decide) ?_
            refine lv_iconst (v := 0) hx hb dX5_perform_232 (by decide) ?_
            refine lv_iconst (v := 0) hx hb dX5_perform_233 (by decide) ?_
            obtain ⟨r234, e234, h⟩ := kBd h
            refine kCallSL (As := [.int (98 : Int32), .int (101 : Int32), .int (100 : Int32), .int (0 : Int32), .int (0 : Int32), .int (0 : Int32)]) (rest := [.long s0]) ⟨hx, hb, hml, hown, hts⟩ (cX5_word_ok l D ty  H.size (98 : Int32) (101 : Int32) (100 : Int32) (0 : Int32) (0 : Int32) (0 : Int32) r234 e234) (va_cwS 6 hts gX5_perform_X5_word rfl rfl rfl (by decide +kernel) ⟨Nat.le_of_ble_eq_true rfl, Nat.le_of_ble_eq_true rfl⟩) hP hK hD hS hA rfl hl.1 rfl (Nat.le_of_ble_eq_true rfl) dX5_perform_234 ⟨Nat.le_of_ble_eq_true rfl, Nat.le_of_ble_eq_true rfl⟩ (fun H locs hP hS => ?_)
            refine W.lcmp hx hb dX5_perform_237 ?_
            refine lv_if_ne (tgt := 267) hx hb dX5_perform_238 (by decide) (fun c238 => ?_) (fun c238 => ?_)
            · have h := kT h (fun z => c238 ((lg_cmp_eq _ _).mpr z))
              refine lv_lload_n hx hb dX5_perform_267 rfl (lv_at hl 0 rfl) ?_
              refine lv_bipush (v := 107) hx hb dX5_perform_268 (by decide) ?_
              refine lv_bipush (v := 105) hx hb dX5_perform_270 (by decide) ?_
              refine lv_bipush (v := 110) hx hb dX5_perform_272 (by decide) ?_
              refine lv_bipush (v := 107) hx hb dX5_perform_274 (by decide) ?_
              refine lv_iconst (v := 0) hx hb dX5_perform_276 (by decide) ?_
              refine lv_iconst (v := 0) hx hb dX5_perform_277 (by decide) ?_
              obtain ⟨r278, e278, h⟩ := kBd h
              refine kCallSL (As := [.int (107 : Int32), .int (105 : Int32), .int (110 : Int32), .int (107 : Int32), .int (0 : Int32), .int (0 : Int32)]) (rest := [.long s0]) ⟨hx, hb, hml, hown, hts⟩ (cX5_word_ok l D ty  H.size (107 : Int32) (105 : Int32) (110 : Int32) (107 : Int32) (0 : Int32) (0 : Int32) r278 e278) (va_cwS 6 hts gX5_perform_X5_word rfl rfl rfl (by decide +kernel) ⟨Nat.le_of_ble_eq_true rfl, Nat.le_of_ble_eq_true rfl⟩) hP hK hD hS hA rfl hl.1 rfl (Nat.le_of_ble_eq_true rfl) dX5_perform_278 ⟨Nat.le_of_ble_eq_true rfl, Nat.le_of_ble_eq_true rfl⟩ (fun H locs hP hS => ?_)
              refine W.lcmp hx hb dX5_perform_281 ?_
              refine lv_if_ne (tgt := 311) hx hb dX5_perform_282 (by decide) (fun c282 => ?_) (fun c282 => ?_)
              · have h := kT h (fun z => c282 ((lg_cmp_eq _ _).mpr z))
                refine lv_lload_n hx hb dX5_perform_311 rfl (lv_at hl 0 rfl) ?_
                refine lv_bipush (v := 99) hx hb dX5_perform_312 (by decide) ?_
                refine lv_bipush (v := 108) hx hb dX5_perform_314 (by decide) ?_
                refine lv_bipush (v := 111) hx hb dX5_perform_316 (by decide) ?_
                refine lv_bipush (v := 115) hx hb dX5_perform_318 (by decide) ?_
                refine lv_bipush (v := 101) hx hb dX5_perform_320 (by decide) ?_
                refine lv_iconst (v := 0) hx hb dX5_perform_322 (by decide) ?_
                obtain ⟨r323, e323, h⟩ := kBd h
                refine kCallSL (As := [.int (99 : Int32), .int (108 : Int32), .int (111 : Int32), .int (115 : Int32), .int (101 : Int32), .int (0 : Int32)]) (rest := [.long s0]) ⟨hx, hb, hml, hown, hts⟩ (cX5_word_ok l D ty  H.size (99 : Int32) (108 : Int32) (111 : Int32) (115 : Int32) (101 : Int32) (0 : Int32) r323 e323) (va_cwS 6 hts gX5_perform_X5_word rfl rfl rfl (by decide +kernel) ⟨Nat.le_of_ble_eq_true rfl, Nat.le_of_ble_eq_true rfl⟩) hP hK hD hS hA rfl hl.1 rfl (Nat.le_of_ble_eq_true rfl) dX5_perform_323 ⟨Nat.le_of_ble_eq_true rfl, Nat.le_of_ble_eq_true rfl⟩ (fun H locs hP hS => ?_)
                refine W.lcmp hx hb dX5_perform_326 ?_
                refine lv_if_ne (tgt := 356) hx hb dX5_perform_327 (by decide) (fun c327 => ?_) (fun c327 => ?_)
                · have h := kT h (fun z => c327 ((lg_cmp_eq _ _).mpr z))
                  refine lv_lload_n hx hb dX5_perform_356 rfl (lv_at hl 0 rfl) ?_
                  refine lv_bipush (v := 117) hx hb dX5_perform_357 (by decide) ?_
                  refine lv_bipush (v := 115) hx hb dX5_perform_359 (by decide) ?_
                  refine lv_bipush (v := 101) hx hb dX5_perform_361 (by decide) ?_
                  refine lv_iconst (v := 0) hx hb dX5_perform_363 (by decide) ?_
                  refine lv_iconst (v := 0) hx hb dX5_perform_364 (by decide) ?_
                  refine lv_iconst (v := 0) hx hb dX5_perform_365 (by decide) ?_
                  obtain ⟨r366, e366, h⟩ := kBd h
                  refine kCallSL (As := [.int (117 : Int32), .int (115 : Int32), .int (101 : Int32), .int (0 : Int32), .int (0 : Int32), .int (0 : Int32)]) (rest := [.long s0]) ⟨hx, hb, hml, hown, hts⟩ (cX5_word_ok l D ty  H.size (117 : Int32) (115 : Int32) (101 : Int32) (0 : Int32) (0 : Int32) (0 : Int32) r366 e366) (va_cwS 6 hts gX5_perform_X5_word rfl rfl rfl (by decide +kernel) ⟨Nat.le_of_ble_eq_true rfl, Nat.le_of_ble_eq_true rfl⟩) hP hK hD hS hA rfl hl.1 rfl (Nat.le_of_ble_eq_true rfl) dX5_perform_366 ⟨Nat.le_of_ble_eq_true rfl, Nat.le_of_ble_eq_true rfl⟩ (fun H locs hP hS => ?_)
                  refine W.lcmp hx hb dX5_perform_369 ?_
                  refine lv_if_ne (tgt := 378) hx hb dX5_perform_370 (by decide) (fun c370 => ?_) (fun c370 => ?_)
                  · have h := kT h (fun z => c370 ((lg_cmp_eq _ _).mpr z))
                    refine lv_lload_n hx hb dX5_perform_378 rfl (lv_at hl 0 rfl) ?_
                    refine lv_bipush (v := 116) hx hb dX5_perform_379 (by decide) ?_
                    refine lv_bipush (v := 117) hx hb dX5_perform_381 (by decide) ?_
                    refine lv_bipush (v := 110) hx hb dX5_perform_383 (by decide) ?_
                    refine lv_bipush (v := 101) hx hb dX5_perform_385 (by decide) ?_
                    refine lv_iconst (v := 0) hx hb dX5_perform_387 (by decide) ?_
                    refine lv_iconst (v := 0) hx hb dX5_perform_388 (by decide) ?_
                    obtain ⟨r389, e389, h⟩ := kBd h
                    refine kCallSL (As := [.int (116 : Int32), .int (117 : Int32), .int (110 : Int32), .int (101 : Int32), .int (0 : Int32), .int (0 : Int32)]) (rest := [.long s0]) ⟨hx, hb, hml, hown, hts⟩ (cX5_word_ok l D ty  H.size (116 : Int32) (117 : Int32) (110 : Int32) (101 : Int32) (0 : Int32) (0 : Int32) r389 e389) (va_cwS 6 hts gX5_perform_X5_word rfl rfl rfl (by decide +kernel) ⟨Nat.le_of_ble_eq_true rfl, Nat.le_of_ble_eq_true rfl⟩) hP hK hD hS hA rfl hl.1 rfl (Nat.le_of_ble_eq_true rfl) dX5_perform_389 ⟨Nat.le_of_ble_eq_true rfl, Nat.le_of_ble_eq_true rfl⟩ (fun H locs hP hS => ?_)
                    refine W.lcmp hx hb dX5_perform_392 ?_
                    refine lv_if_ne (tgt := 414) hx hb dX5_perform_393 (by decide) (fun c393 => ?_) (fun c393 => ?_)
                    · have h := kT h (fun z => c393 ((lg_cmp_eq _ _).mpr z))
                      refine lv_iconst (v := 1) hx hb dX5_perform_414 (by decide) ?_
                      obtain rfl := Option.some.inj h
                      subst hQ
                      exact W.iret (v := (1 : Int32)) hx hb hr (fun t ht hW => ⟨⟨(1 : Int32), (), rfl, rfl, kEnd ht hP⟩, hS.F ht⟩) hS.2.2 dX5_perform_415
                    · have h := kF h (fun z => z ((lg_cmp_eq _ _).mp c393))
                      refine lv_aload_n hx hb dX5_perform_396 rfl (lv_at hl 1 rfl) ?_
                      refine va_get (D := D) (ci := 5) (v := .int uM.2.2.2.2.2.1) (C := RX5) (T := TX5) (N := 12) hx hb hts hinX5 hown hK.1 hP 0 rfl rfl 9 (by decide) wf0 (fun _ h9 => h9) rfl dX5_perform_397 ?_
                      refine lv_iconst (v := 1) hx hb dX5_perform_400 (by decide) ?_
                      refine lv_icmp_ne (tgt := 414) hx hb dX5_perform_401 (by decide) (fun c401 => ?_) (fun c401 => ?_)
                      · have h := kT h c401
                        refine lv_iconst (v := 1) hx hb dX5_perform_414 (by decide) ?_
                        obtain rfl := Option.some.inj h
                        subst hQ
                        exact W.iret (v := (1 : Int32)) hx hb hr (fun t ht hW => ⟨⟨(1 : Int32), (), rfl, rfl, kEnd ht hP⟩, hS.F ht⟩) hS.2.2 dX5_perform_415
                      · have h := kF h (fun z => z c401)
                        refine lv_aload_n hx hb dX5_perform_404 rfl (lv_at hl 1 rfl) ?_
                        obtain ⟨r405, e405, h⟩ := kBd h
                        refine kCallVI (As := []) (rest := []) (wc := wM ty adM uM) (w1 := wM ty adM r405.2) (wn := wM ty adM r405.2) ⟨hx, hb, hml, hown, hts⟩ (cX5_tune_ok l D ty adM H.size uM r405 e405) (cwV 0 hts gX5_perform_X5_tune rfl rfl rfl (by decide +kernel) ⟨Nat.le_of_ble_eq_true rfl, Nat.le_of_ble_eq_true rfl⟩) hP hK hD hS hA [0, 1, 2, 3, 4, 5, 6] (by decide) rfl 5 0 rfl rfl rfl rfl hl.1 rfl (Nat.le_of_ble_eq_true rfl) dX5_perform_405 ⟨Nat.le_of_ble_eq_true rfl, Nat.le_of_ble_eq_true rfl⟩ rfl rfl (fun H locs hP hD hS => ?_)
                        obtain ⟨r408, e408, h⟩ := kBd h
                        refine kCallSI (As := [.int r405.1]) (rest := []) ⟨hx, hb, hml, hown, hts⟩ (cX5_outcome_ok l D ty  H.size r405.1 r408 e408) (va_cwS 1 hts gX5_perform_X5_outcome rfl rfl rfl (by decide +kernel) ⟨Nat.le_of_ble_eq_true rfl, Nat.le_of_ble_eq_true rfl⟩) hP hK hD hS hA rfl hl.1 rfl (Nat.le_of_ble_eq_true rfl) dX5_perform_408 ⟨Nat.le_of_ble_eq_true rfl, Nat.le_of_ble_eq_true rfl⟩ (fun H locs hP hS => ?_)
                        refine lv_goto (tgt := 415) hx hb dX5_perform_411 (by decide) ?_
                        obtain rfl := Option.some.inj h
                        subst hQ
                        exact W.iret (v := r408) hx hb hr (fun t ht hW => ⟨⟨r408, (), rfl, rfl, kEnd ht hP⟩, hS.F ht⟩) hS.2.2 dX5_perform_415
                  · have h := kF h (fun z => z ((lg_cmp_eq _ _).mp c370))
                    refine lv_aload_n hx hb dX5_perform_373 rfl (lv_at hl 1 rfl) ?_
                    obtain ⟨r374, e374, h⟩ := kBd h
                    refine kCallVI (As := []) (rest := []) (wc := wM ty adM uM) (w1 := wM ty adM r374.2) (wn := wM ty adM r374.2) ⟨hx, hb, hml, hown, hts⟩ (cX5_use_ok l D ty adM H.size uM r374 e374) (cwV 0 hts gX5_perform_X5_use rfl rfl rfl (by decide +kernel) ⟨Nat.le_of_ble_eq_true rfl, Nat.le_of_ble_eq_true rfl⟩) hP hK hD hS hA [0, 1, 2, 3, 4, 5, 6] (by decide) rfl 5 0 rfl rfl rfl rfl hl.1 rfl (Nat.le_of_ble_eq_true rfl) dX5_perform_374 ⟨Nat.le_of_ble_eq_true rfl, Nat.le_of_ble_eq_true rfl⟩ rfl rfl (fun H locs hP hD hS => ?_)
                    obtain rfl := Option.some.inj h
                    subst hQ
                    exact W.iret (v := r374.1) hx hb hr (fun t ht hW => ⟨⟨r374.1, (), rfl, rfl, kEnd ht hP⟩, hS.F ht⟩) hS.2.2 dX5_perform_377
                · have h := kF h (fun z => z ((lg_cmp_eq _ _).mp c327))
                  refine lv_aload_n hx hb dX5_perform_330 rfl (lv_at hl 1 rfl) ?_
                  refine lv_iconst (v := 1) hx hb dX5_perform_331 (by decide) ?_
                  obtain ⟨r332, e332, h⟩ := kBd h
                  refine kCallVI (As := [.int (1 : Int32)]) (rest := []) (wc := wM ty adM uM) (w1 := wM ty adM uM) (wn := wM ty adM uM) ⟨hx, hb, hml, hown, hts⟩ (cX5_hasNumbers_ok l D ty adM H.size uM (1 : Int32) r332 e332) (cwV 1 hts gX5_perform_X5_hasNumbers rfl rfl rfl (by decide +kernel) ⟨Nat.le_of_ble_eq_true rfl, Nat.le_of_ble_eq_true rfl⟩) hP hK hD hS hA [0, 1, 2, 3, 4, 5, 6] (by decide) rfl 5 0 rfl rfl rfl rfl hl.1 rfl (Nat.le_of_ble_eq_true rfl) dX5_perform_332 ⟨Nat.le_of_ble_eq_true rfl, Nat.le_of_ble_eq_true rfl⟩ rfl rfl (fun H locs hP hD hS => ?_)
                  refine lv_if_eq (tgt := 354) hx hb dX5_perform_335 (by decide) (fun c335 => ?_) (fun c335 => ?_)
                  · have h := kT h c335
                    refine lv_iconst (v := 1) hx hb dX5_perform_354 (by decide) ?_
                    obtain rfl := Option.some.inj h
                    subst hQ
                    exact W.iret (v := (1 : Int32)) hx hb hr (fun t ht hW => ⟨⟨(1 : Int32), (), rfl, rfl, kEnd ht hP⟩, hS.F ht⟩) hS.2.2 dX5_perform_355
                  · have h := kF h c335
                    refine lv_aload_n hx hb dX5_perform_338 rfl (lv_at hl 1 rfl) ?_
                    refine lv_aload_n hx hb dX5_perform_339 rfl (lv_at hl 1 rfl) ?_
                    refine va_get (D := D) (ci := 5) (v := .ref (adM 6)) (C := RX5) (T := TX5) (N := 12) hx hb hts hinX5 hown hK.1 hP 0 rfl rfl 11 (by decide) wf2 (fun _ h9 => h9) rfl dX5_perform_340 ?_
                    refine lv_iconst (v := 1) hx hb dX5_perform_343 (by decide) ?_
                    obtain ⟨b344, h⟩ := kIf h
                    refine va_iald (f := uM.2.2.2.2.2.2.2.2.2.2.2) (n := 40) hx hb hK.1 hP 6 0 rfl rfl (kIn_ok b344) dX5_perform_344 ?_
                    obtain ⟨r345, e345, h⟩ := kBd h
                    refine kCallVI (As := [.int (uM.2.2.2.2.2.2.2.2.2.2.2 (1 : Int32).toNatClampNeg)]) (rest := []) (wc := wM ty adM uM) (w1 := wM ty adM r345.2) (wn := wM ty adM r345.2) ⟨hx, hb, hml, hown, hts⟩ (cX5_setCloseOff_ok l D ty adM H.size uM (uM.2.2.2.2.2.2.2.2.2.2.2 (1 : Int32).toNatClampNeg) r345 e345) (cwV 1 hts gX5_perform_X5_setCloseOff rfl rfl rfl (by decide +kernel) ⟨Nat.le_of_ble_eq_true rfl, Nat.le_of_ble_eq_true rfl⟩) hP hK hD hS hA [0, 1, 2, 3, 4, 5, 6] (by decide) rfl 5 0 rfl rfl rfl rfl hl.1 rfl (Nat.le_of_ble_eq_true rfl) dX5_perform_345 ⟨Nat.le_of_ble_eq_true rfl, Nat.le_of_ble_eq_true rfl⟩ rfl rfl (fun H locs hP hD hS => ?_)
                    obtain ⟨r348, e348, h⟩ := kBd h
                    refine kCallSI (As := [.int r345.1]) (rest := []) ⟨hx, hb, hml, hown, hts⟩ (cX5_outcome_ok l D ty  H.size r345.1 r348 e348) (va_cwS 1 hts gX5_perform_X5_outcome rfl rfl rfl (by decide +kernel) ⟨Nat.le_of_ble_eq_true rfl, Nat.le_of_ble_eq_true rfl⟩) hP hK hD hS hA rfl hl.1 rfl (Nat.le_of_ble_eq_true rfl) dX5_perform_348 ⟨Nat.le_of_ble_eq_true rfl, Nat.le_of_ble_eq_true rfl⟩ (fun H locs hP hS => ?_)
                    refine lv_goto (tgt := 355) hx hb dX5_perform_351 (by decide) ?_
                    obtain rfl := Option.some.inj h
                    subst hQ
                    exact W.iret (v := r348) hx hb hr (fun t ht hW => ⟨⟨r348, (), rfl, rfl, kEnd ht hP⟩, hS.F ht⟩) hS.2.2 dX5_perform_355
              · have h := kF h (fun z => z ((lg_cmp_eq _ _).mp c282))
                refine lv_aload_n hx hb dX5_perform_285 rfl (lv_at hl 1 rfl) ?_
                refine lv_iconst (v := 1) hx hb dX5_perform_286 (by decide) ?_
                obtain ⟨r287, e287, h⟩ := kBd h
                refine kCallVI (As := [.int (1 : Int32)]) (rest := []) (wc := wM ty adM uM) (w1 := wM ty adM uM) (wn := wM ty adM uM) ⟨hx, hb, hml, hown, hts⟩ (cX5_hasNumbers_ok l D ty adM H.size uM (1 : Int32) r287 e287) (cwV 1 hts gX5_perform_X5_hasNumbers rfl rfl rfl (by decide +kernel) ⟨Nat.le_of_ble_eq_true rfl, Nat.le_of_ble_eq_true rfl⟩) hP hK hD hS hA [0, 1, 2, 3, 4, 5, 6] (by decide) rfl 5 0 rfl rfl rfl rfl hl.1 rfl (Nat.le_of_ble_eq_true rfl) dX5_perform_287 ⟨Nat.le_of_ble_eq_true rfl, Nat.le_of_ble_eq_true rfl⟩ rfl rfl (fun H locs hP hD hS => ?_)
                refine lv_if_eq (tgt := 309) hx hb dX5_perform_290 (by decide) (fun c290 => ?_) (fun c290 => ?_)
                · have h := kT h c290
                  refine lv_iconst (v := 1) hx hb dX5_perform_309 (by decide) ?_
                  obtain rfl := Option.some.inj h
                  subst hQ
                  exact W.iret (v := (1 : Int32)) hx hb hr (fun t ht hW => ⟨⟨(1 : Int32), (), rfl, rfl, kEnd ht hP⟩, hS.F ht⟩) hS.2.2 dX5_perform_310
                · have h := kF h c290
                  refine lv_aload_n hx hb dX5_perform_293 rfl (lv_at hl 1 rfl) ?_
                  refine lv_aload_n hx hb dX5_perform_294 rfl (lv_at hl 1 rfl) ?_
                  refine va_get (D := D) (ci := 5) (v := .ref (adM 6)) (C := RX5) (T := TX5) (N := 12) hx hb hts hinX5 hown hK.1 hP 0 rfl rfl 11 (by decide) wf2 (fun _ h9 => h9) rfl dX5_perform_295 ?_
                  refine lv_iconst (v := 1) hx hb dX5_perform_298 (by decide) ?_
                  obtain ⟨b299, h⟩ := kIf h
                  refine va_iald (f := uM.2.2.2.2.2.2.2.2.2.2.2) (n := 40) hx hb hK.1 hP 6 0 rfl rfl (kIn_ok b299) dX5_perform_299 ?_
                  obtain ⟨r300, e300, h⟩ := kBd h
                  refine kCallVI (As := [.int (uM.2.2.2.2.2.2.2.2.2.2.2 (1 : Int32).toNatClampNeg)]) (rest := []) (wc := wM ty adM uM) (w1 := wM ty adM r300.2) (wn := wM ty adM r300.2) ⟨hx, hb, hml, hown, hts⟩ (cX5_setKink_ok l D ty adM H.size uM (uM.2.2.2.2.2.2.2.2.2.2.2 (1 : Int32).toNatClampNeg) r300 e300) (cwV 1 hts gX5_perform_X5_setKink rfl rfl rfl (by decide +kernel) ⟨Nat.le_of_ble_eq_true rfl, Nat.le_of_ble_eq_true rfl⟩) hP hK hD hS hA [0, 1, 2, 3, 4, 5, 6] (by decide) rfl 5 0 rfl rfl rfl rfl hl.1 rfl (Nat.le_of_ble_eq_true rfl) dX5_perform_300 ⟨Nat.le_of_ble_eq_true rfl, Nat.le_of_ble_eq_true rfl⟩ rfl rfl (fun H locs hP hD hS => ?_)
                  obtain ⟨r303, e303, h⟩ := kBd h
                  refine kCallSI (As := [.int r300.1]) (rest := []) ⟨hx, hb, hml, hown, hts⟩ (cX5_outcome_ok l D ty  H.size r300.1 r303 e303) (va_cwS 1 hts gX5_perform_X5_outcome rfl rfl rfl (by decide +kernel) ⟨Nat.le_of_ble_eq_true rfl, Nat.le_of_ble_eq_true rfl⟩) hP hK hD hS hA rfl hl.1 rfl (Nat.le_of_ble_eq_true rfl) dX5_perform_303 ⟨Nat.le_of_ble_eq_true rfl, Nat.le_of_ble_eq_true rfl⟩ (fun H locs hP hS => ?_)
                  refine lv_goto (tgt := 310) hx hb dX5_perform_306 (by decide) ?_
                  obtain rfl := Option.some.inj h
                  subst hQ
                  exact W.iret (v := r303) hx hb hr (fun t ht hW => ⟨⟨r303, (), rfl, rfl, kEnd ht hP⟩, hS.F ht⟩) hS.2.2 dX5_perform_310
            · have h := kF h (fun z => z ((lg_cmp_eq _ _).mp c238))
              refine lv_aload_n hx hb dX5_perform_241 rfl (lv_at hl 1 rfl) ?_
              refine lv_iconst (v := 1) hx hb dX5_perform_242 (by decide) ?_
              obtain ⟨r243, e243, h⟩ := kBd h
              refine kCallVI (As := [.int (1 : Int32)]) (rest := []) (wc := wM ty adM uM) (w1 := wM ty adM uM) (wn := wM ty adM uM) ⟨hx, hb, hml, hown, hts⟩ (cX5_hasNumbers_ok l D ty adM H.size uM (1 : Int32) r243 e243) (cwV 1 hts gX5_perform_X5_hasNumbers rfl rfl rfl (by decide +kernel) ⟨Nat.le_of_ble_eq_true rfl, Nat.le_of_ble_eq_true rfl⟩) hP hK hD hS hA [0, 1, 2, 3, 4, 5, 6] (by decide) rfl 5 0 rfl rfl rfl rfl hl.1 rfl (Nat.le_of_ble_eq_true rfl) dX5_perform_243 ⟨Nat.le_of_ble_eq_true rfl, Nat.le_of_ble_eq_true rfl⟩ rfl rfl (fun H locs hP hD hS => ?_)
              refine lv_if_eq (tgt := 265) hx hb dX5_perform_246 (by decide) (fun c246 => ?_) (fun c246 => ?_)
              · have h := kT h c246
                refine lv_iconst (v := 1) hx hb dX5_perform_265 (by decide) ?_
                obtain rfl := Option.some.inj h
                subst hQ
                exact W.iret (v := (1 : Int32)) hx hb hr (fun t ht hW => ⟨⟨(1 : Int32), (), rfl, rfl, kEnd ht hP⟩, hS.F ht⟩) hS.2.2 dX5_perform_266
              · have h := kF h c246
                refine lv_aload_n hx hb dX5_perform_249 rfl (lv_at hl 1 rfl) ?_
                refine lv_aload_n hx hb dX5_perform_250 rfl (lv_at hl 1 rfl) ?_
                refine va_get (D := D) (ci := 5) (v := .ref (adM 6)) (C := RX5) (T := TX5) (N := 12) hx hb hts hinX5 hown hK.1 hP 0 rfl rfl 11 (by decide) wf2 (fun _ h9 => h9) rfl dX5_perform_251 ?_
                refine lv_iconst (v := 1) hx hb dX5_perform_254 (by decide) ?_
                obtain ⟨b255, h⟩ := kIf h
                refine va_iald (f := uM.2.2.2.2.2.2.2.2.2.2.2) (n := 40) hx hb hK.1 hP 6 0 rfl rfl (kIn_ok b255) dX5_perform_255 ?_
                obtain ⟨r256, e256, h⟩ := kBd h
                refine kCallVI (As := [.int (uM.2.2.2.2.2.2.2.2.2.2.2 (1 : Int32).toNatClampNeg)]) (rest := []) (wc := wM ty adM uM) (w1 := wM ty adM r256.2) (wn := wM ty adM r256.2) ⟨hx, hb, hml, hown, hts⟩ (cX5_setBed_ok l D ty adM H.size uM (uM.2.2.2.2.2.2.2.2.2.2.2 (1 : Int32).toNatClampNeg) r256 e256) (cwV 1 hts gX5_perform_X5_setBed rfl rfl rfl (by decide +kernel) ⟨Nat.le_of_ble_eq_true rfl, Nat.le_of_ble_eq_true rfl⟩) hP hK hD hS hA [0, 1, 2, 3, 4, 5, 6] (by decide) rfl 5 0 rfl rfl rfl rfl hl.1 rfl (Nat.le_of_ble_eq_true rfl) dX5_perform_256 ⟨Nat.le_of_ble_eq_true rfl, Nat.le_of_ble_eq_true rfl⟩ rfl rfl (fun H locs hP hD hS => ?_)
                obtain ⟨r259, e259, h⟩ := kBd h
                refine kCallSI (As := [.int r256.1]) (rest := []) ⟨hx, hb, hml, hown, hts⟩ (cX5_outcome_ok l D ty  H.size r256.1 r259 e259) (va_cwS 1 hts gX5_perform_X5_outcome rfl rfl rfl (by decide +kernel) ⟨Nat.le_of_ble_eq_true rfl, Nat.le_of_ble_eq_true rfl⟩) hP hK hD hS hA rfl hl.1 rfl (Nat.le_of_ble_eq_true rfl) dX5_perform_259 ⟨Nat.le_of_ble_eq_true rfl, Nat.le_of_ble_eq_true rfl⟩ (fun H locs hP hS => ?_)
                refine lv_goto (tgt := 266) hx hb dX5_perform_262 (by decide) ?_
                obtain rfl := Option.some.inj h
                subst hQ
                exact W.iret (v := r259) hx hb hr (fun t ht hW => ⟨⟨r259, (), rfl, rfl, kEnd ht hP⟩, hS.F ht⟩) hS.2.2 dX5_perform_266
          · have h := kF h (fun z => z ((lg_cmp_eq _ _).mp c189))
            refine lv_aload_n hx hb dX5_perform_192 rfl (lv_at hl 1 rfl) ?_
            refine lv_iconst (v := 2) hx hb dX5_perform_193 (by decide) ?_
            obtain ⟨r194, e194, h⟩ := kBd h
            refine kCallVI (As := [.int (2 : Int32)]) (rest := []) (wc := wM ty adM uM) (w1 := wM ty adM uM) (wn := wM ty adM uM) ⟨hx, hb, hml, hown, hts⟩ (cX5_hasNumbers_ok l D ty adM H.size uM (2 : Int32) r194 e194) (cwV 1 hts gX5_perform_X5_hasNumbers rfl rfl rfl (by decide +kernel) ⟨Nat.le_of_ble_eq_true rfl, Nat.le_of_ble_eq_true rfl⟩) hP hK hD hS hA [0, 1, 2, 3, 4, 5, 6] (by decide) rfl 5 0 rfl rfl rfl rfl hl.1 rfl (Nat.le_of_ble_eq_true rfl) dX5_perform_194 ⟨Nat.le_of_ble_eq_true rfl, Nat.le_of_ble_eq_true rfl⟩ rfl rfl (fun H locs hP hD hS => ?_)
            refine lv_if_eq (tgt := 222) hx hb dX5_perform_197 (by decide) (fun c197 => ?_) (fun c197 => ?_)
            · have h := kT h c197
              refine lv_iconst (v := 1) hx hb dX5_perform_222 (by decide) ?_
              obtain rfl := Option.some.inj h
              subst hQ
              exact W.iret (v := (1 : Int32)) hx hb hr (fun t ht hW => ⟨⟨(1 : Int32), (), rfl, rfl, kEnd ht hP⟩, hS.F ht⟩) hS.2.2 dX5_perform_223
            · have h := kF h c197
              refine lv_aload_n hx hb dX5_perform_200 rfl (lv_at hl 1 rfl) ?_
              refine lv_aload_n hx hb dX5_perform_201 rfl (lv_at hl 1 rfl) ?_
              refine va_get (D := D) (ci := 5) (v := .ref (adM 6)) (C := RX5) (T := TX5) (N := 12) hx hb hts hinX5 hown hK.1 hP 0 rfl rfl 11 (by decide) wf2 (fun _ h9 => h9) rfl dX5_perform_202 ?_
              refine lv_iconst (v := 1) hx hb dX5_perform_205 (by decide) ?_
              obtain ⟨b206, h⟩ := kIf h
              refine va_iald (f := uM.2.2.2.2.2.2.2.2.2.2.2) (n := 40) hx hb hK.1 hP 6 0 rfl rfl (kIn_ok b206) dX5_perform_206 ?_
              refine lv_aload_n hx hb dX5_perform_207 rfl (lv_at hl 1 rfl) ?_
              refine va_get (D := D) (ci := 5) (v := .ref (adM 6)) (C := RX5) (T := TX5) (N := 12) hx hb hts hinX5 hown hK.1 hP 0 rfl rfl 11 (by decide) wf2 (fun _ h9 => h9) rfl dX5_perform_208 ?_
              refine lv_iconst (v := 2) hx hb dX5_perform_211 (by decide) ?_
              obtain ⟨b212, h⟩ := kIf h
              refine va_iald (f := uM.2.2.2.2.2.2.2.2.2.2.2) (n := 40) hx hb hK.1 hP 6 0 rfl rfl (kIn_ok b212) dX5_perform_212 ?_
              obtain ⟨r213, e213, h⟩ := kBd h
              refine kCallVI (As := [.int (uM.2.2.2.2.2.2.2.2.2.2.2 (1 : Int32).toNatClampNeg), .int (uM.2.2.2.2.2.2.2.2.2.2.2 (2 : Int32).toNatClampNeg)]) (rest := []) (wc := wM ty adM uM) (w1 := wM ty adM r213.2) (wn := wM ty adM r213.2) ⟨hx, hb, hml, hown, hts⟩ (cX5_correct_ok l D ty adM H.size uM (uM.2.2.2.2.2.2.2.2.2.2.2 (1 : Int32).toNatClampNeg) (uM.2.2.2.2.2.2.2.2.2.2.2 (2 : Int32).toNatClampNeg) r213 e213) (cwV 2 hts gX5_perform_X5_correct rfl rfl rfl (by decide +kernel) ⟨Nat.le_of_ble_eq_true rfl, Nat.le_of_ble_eq_true rfl⟩) hP hK hD hS hA [0, 1, 2, 3, 4, 5, 6] (by decide) rfl 5 0 rfl rfl rfl rfl hl.1 rfl (Nat.le_of_ble_eq_true rfl) dX5_perform_213 ⟨Nat.le_of_ble_eq_true rfl, Nat.le_of_ble_eq_true rfl⟩ rfl rfl (fun H locs hP hD hS => ?_)
              obtain ⟨r216, e216, h⟩ := kBd h
              refine kCallSI (As := [.int r213.1]) (rest := []) ⟨hx, hb, hml, hown, hts⟩ (cX5_outcome_ok l D ty  H.size r213.1 r216 e216) (va_cwS 1 hts gX5_perform_X5_outcome rfl rfl rfl (by decide +kernel) ⟨Nat.le_of_ble_eq_true rfl, Nat.le_of_ble_eq_true rfl⟩) hP hK hD hS hA rfl hl.1 rfl (Nat.le_of_ble_eq_true rfl) dX5_perform_216 ⟨Nat.le_of_ble_eq_true rfl, Nat.le_of_ble_eq_true rfl⟩ (fun H locs hP hS => ?_)
              refine lv_goto (tgt := 223) hx hb dX5_perform_219 (by decide) ?_
              obtain rfl := Option.some.inj h
              subst hQ
              exact W.iret (v := r216) hx hb hr (fun t ht hW => ⟨⟨r216, (), rfl, rfl, kEnd ht hP⟩, hS.F ht⟩) hS.2.2 dX5_perform_223
        · have h := kF h (fun z => z ((lg_cmp_eq _ _).mp c140))
          refine lv_aload_n hx hb dX5_perform_143 rfl (lv_at hl 1 rfl) ?_
          refine lv_iconst (v := 2) hx hb dX5_perform_144 (by decide) ?_
          obtain ⟨r145, e145, h⟩ := kBd h
          refine kCallVI (As := [.int (2 : Int32)]) (rest := []) (wc := wM ty adM uM) (w1 := wM ty adM uM) (wn := wM ty adM uM) ⟨hx, hb, hml, hown, hts⟩ (cX5_hasNumbers_ok l D ty adM H.size uM (2 : Int32) r145 e145) (cwV 1 hts gX5_perform_X5_hasNumbers rfl rfl rfl (by decide +kernel) ⟨Nat.le_of_ble_eq_true rfl, Nat.le_of_ble_eq_true rfl⟩) hP hK hD hS hA [0, 1, 2, 3, 4, 5, 6] (by decide) rfl 5 0 rfl rfl rfl rfl hl.1 rfl (Nat.le_of_ble_eq_true rfl) dX5_perform_145 ⟨Nat.le_of_ble_eq_true rfl, Nat.le_of_ble_eq_true rfl⟩ rfl rfl (fun H locs hP hD hS => ?_)
          refine lv_if_eq (tgt := 173) hx hb dX5_perform_148 (by decide) (fun c148 => ?_) (fun c148 => ?_)
          · have h := kT h c148
            refine lv_iconst (v := 1) hx hb dX5_perform_173 (by decide) ?_
            obtain rfl := Option.some.inj h
            subst hQ
            exact W.iret (v := (1 : Int32)) hx hb hr (fun t ht hW => ⟨⟨(1 : Int32), (), rfl, rfl, kEnd ht hP⟩, hS.F ht⟩) hS.2.2 dX5_perform_174
          · have h := kF h c148
            refine lv_aload_n hx hb dX5_perform_151 rfl (lv_at hl 1 rfl) ?_
            refine lv_aload_n hx hb dX5_perform_152 rfl (lv_at hl 1 rfl) ?_
            refine va_get (D := D) (ci := 5) (v := .ref (adM 6)) (C := RX5) (T := TX5) (N := 12) hx hb hts hinX5 hown hK.1 hP 0 rfl rfl 11 (by decide) wf2 (fun _ h9 => h9) rfl dX5_perform_153 ?_
            refine lv_iconst (v := 1) hx hb dX5_perform_156 (by decide) ?_
            obtain ⟨b157, h⟩ := kIf h
            refine va_iald (f := uM.2.2.2.2.2.2.2.2.2.2.2) (n := 40) hx hb hK.1 hP 6 0 rfl rfl (kIn_ok b157) dX5_perform_157 ?_
            refine lv_aload_n hx hb dX5_perform_158 rfl (lv_at hl 1 rfl) ?_
            refine va_get (D := D) (ci := 5) (v := .ref (adM 6)) (C := RX5) (T := TX5) (N := 12) hx hb hts hinX5 hown hK.1 hP 0 rfl rfl 11 (by decide) wf2 (fun _ h9 => h9) rfl dX5_perform_159 ?_
            refine lv_iconst (v := 2) hx hb dX5_perform_162 (by decide) ?_
            obtain ⟨b163, h⟩ := kIf h
            refine va_iald (f := uM.2.2.2.2.2.2.2.2.2.2.2) (n := 40) hx hb hK.1 hP 6 0 rfl rfl (kIn_ok b163) dX5_perform_163 ?_
            obtain ⟨r164, e164, h⟩ := kBd h
            refine kCallVI (As := [.int (uM.2.2.2.2.2.2.2.2.2.2.2 (1 : Int32).toNatClampNeg), .int (uM.2.2.2.2.2.2.2.2.2.2.2 (2 : Int32).toNatClampNeg)]) (rest := []) (wc := wM ty adM uM) (w1 := wM ty adM r164.2) (wn := wM ty adM r164.2) ⟨hx, hb, hml, hown, hts⟩ (cX5_setCount_ok l D ty adM H.size uM (uM.2.2.2.2.2.2.2.2.2.2.2 (1 : Int32).toNatClampNeg) (uM.2.2.2.2.2.2.2.2.2.2.2 (2 : Int32).toNatClampNeg) r164 e164) (cwV 2 hts gX5_perform_X5_setCount rfl rfl rfl (by decide +kernel) ⟨Nat.le_of_ble_eq_true rfl, Nat.le_of_ble_eq_true rfl⟩) hP hK hD hS hA [0, 1, 2, 3, 4, 5, 6] (by decide) rfl 5 0 rfl rfl rfl rfl hl.1 rfl (Nat.le_of_ble_eq_true rfl) dX5_perform_164 ⟨Nat.le_of_ble_eq_true rfl, Nat.le_of_ble_eq_true rfl⟩ rfl rfl (fun H locs hP hD hS => ?_)
            obtain ⟨r167, e167, h⟩ := kBd h
            refine kCallSI (As := [.int r164.1]) (rest := []) ⟨hx, hb, hml, hown, hts⟩ (cX5_outcome_ok l D ty  H.size r164.1 r167 e167) (va_cwS 1 hts gX5_perform_X5_outcome rfl rfl rfl (by decide +kernel) ⟨Nat.le_of_ble_eq_true rfl, Nat.le_of_ble_eq_true rfl⟩) hP hK hD hS hA rfl hl.1 rfl (Nat.le_of_ble_eq_true rfl) dX5_perform_167 ⟨Nat.le_of_ble_eq_true rfl, Nat.le_of_ble_eq_true rfl⟩ (fun H locs hP hS => ?_)
            refine lv_goto (tgt := 174) hx hb dX5_perform_170 (by decide) ?_
            obtain rfl := Option.some.inj h
            subst hQ
            exact W.iret (v := r167) hx hb hr (fun t ht hW => ⟨⟨r167, (), rfl, rfl, kEnd ht hP⟩, hS.F ht⟩) hS.2.2 dX5_perform_174
      · have h := kF h (fun z => z ((lg_cmp_eq _ _).mp c83))
        refine lv_aload_n hx hb dX5_perform_86 rfl (lv_at hl 1 rfl) ?_
        refine lv_iconst (v := 3) hx hb dX5_perform_87 (by decide) ?_
        obtain ⟨r88, e88, h⟩ := kBd h
        refine kCallVI (As := [.int (3 : Int32)]) (rest := []) (wc := wM ty adM uM) (w1 := wM ty adM uM) (wn := wM ty adM uM) ⟨hx, hb, hml, hown, hts⟩ (cX5_hasNumbers_ok l D ty adM H.size uM (3 : Int32) r88 e88) (cwV 1 hts gX5_perform_X5_hasNumbers rfl rfl rfl (by decide +kernel) ⟨Nat.le_of_ble_eq_true rfl, Nat.le_of_ble_eq_true rfl⟩) hP hK hD hS hA [0, 1, 2, 3, 4, 5, 6] (by decide) rfl 5 0 rfl rfl rfl rfl hl.1 rfl (Nat.le_of_ble_eq_true rfl) dX5_perform_88 ⟨Nat.le_of_ble_eq_true rfl, Nat.le_of_ble_eq_true rfl⟩ rfl rfl (fun H locs hP hD hS => ?_)
        refine lv_if_eq (tgt := 122) hx hb dX5_perform_91 (by decide) (fun c91 => ?_) (fun c91 => ?_)
        · have h := kT h c91
          refine lv_iconst (v := 1) hx hb dX5_perform_122 (by decide) ?_
          obtain rfl := Option.some.inj h
          subst hQ
          exact W.iret (v := (1 : Int32)) hx hb hr (fun t ht hW => ⟨⟨(1 : Int32), (), rfl, rfl, kEnd ht hP⟩, hS.F ht⟩) hS.2.2 dX5_perform_123
        · have h := kF h c91
          refine lv_aload_n hx hb dX5_perform_94 rfl (lv_at hl 1 rfl) ?_
          refine lv_aload_n hx hb dX5_perform_95 rfl (lv_at hl 1 rfl) ?_
          refine va_get (D := D) (ci := 5) (v := .ref (adM 6)) (C := RX5) (T := TX5) (N := 12) hx hb hts hinX5 hown hK.1 hP 0 rfl rfl 11 (by decide) wf2 (fun _ h9 => h9) rfl dX5_perform_96 ?_
          refine lv_iconst (v := 1) hx hb dX5_perform_99 (by decide) ?_
          obtain ⟨b100, h⟩ := kIf h
          refine va_iald (f := uM.2.2.2.2.2.2.2.2.2.2.2) (n := 40) hx hb hK.1 hP 6 0 rfl rfl (kIn_ok b100) dX5_perform_100 ?_
          refine lv_aload_n hx hb dX5_perform_101 rfl (lv_at hl 1 rfl) ?_
          refine va_get (D := D) (ci := 5) (v := .ref (adM 6)) (C := RX5) (T := TX5) (N := 12) hx hb hts hinX5 hown hK.1 hP 0 rfl rfl 11 (by decide) wf2 (fun _ h9 => h9) rfl dX5_perform_102 ?_
          refine lv_iconst (v := 2) hx hb dX5_perform_105 (by decide) ?_
          obtain ⟨b106, h⟩ := kIf h
          refine va_iald (f := uM.2.2.2.2.2.2.2.2.2.2.2) (n := 40) hx hb hK.1 hP 6 0 rfl rfl (kIn_ok b106) dX5_perform_106 ?_
          refine lv_aload_n hx hb dX5_perform_107 rfl (lv_at hl 1 rfl) ?_
          refine va_get (D := D) (ci := 5) (v := .ref (adM 6)) (C := RX5) (T := TX5) (N := 12) hx hb hts hinX5 hown hK.1 hP 0 rfl rfl 11 (by decide) wf2 (fun _ h9 => h9) rfl dX5_perform_108 ?_
          refine lv_iconst (v := 3) hx hb dX5_perform_111 (by decide) ?_
          obtain ⟨b112, h⟩ := kIf h
          refine va_iald (f := uM.2.2.2.2.2.2.2.2.2.2.2) (n := 40) hx hb hK.1 hP 6 0 rfl rfl (kIn_ok b112) dX5_perform_112 ?_
          obtain ⟨r113, e113, h⟩ := kBd h
          refine kCallVI (As := [.int (uM.2.2.2.2.2.2.2.2.2.2.2 (1 : Int32).toNatClampNeg), .int (uM.2.2.2.2.2.2.2.2.2.2.2 (2 : Int32).toNatClampNeg), .int (uM.2.2.2.2.2.2.2.2.2.2.2 (3 : Int32).toNatClampNeg)]) (rest := []) (wc := wM ty adM uM) (w1 := wM ty adM r113.2) (wn := wM ty adM r113.2) ⟨hx, hb, hml, hown, hts⟩ (cX5_setAsh_ok l D ty adM H.size uM (uM.2.2.2.2.2.2.2.2.2.2.2 (1 : Int32).toNatClampNeg) (uM.2.2.2.2.2.2.2.2.2.2.2 (2 : Int32).toNatClampNeg) (uM.2.2.2.2.2.2.2.2.2.2.2 (3 : Int32).toNatClampNeg) r113 e113) (cwV 3 hts gX5_perform_X5_setAsh rfl rfl rfl (by decide +kernel) ⟨Nat.le_of_ble_eq_true rfl, Nat.le_of_ble_eq_true rfl⟩) hP hK hD hS hA [0, 1, 2, 3, 4, 5, 6] (by decide) rfl 5 0 rfl rfl rfl rfl hl.1 rfl (Nat.le_of_ble_eq_true rfl) dX5_perform_113 ⟨Nat.le_of_ble_eq_true rfl, Nat.le_of_ble_eq_true rfl⟩ rfl rfl (fun H locs hP hD hS => ?_)
          obtain ⟨r116, e116, h⟩ := kBd h
          refine kCallSI (As := [.int r113.1]) (rest := []) ⟨hx, hb, hml, hown, hts⟩ (cX5_outcome_ok l D ty  H.size r113.1 r116 e116) (va_cwS 1 hts gX5_perform_X5_outcome rfl rfl rfl (by decide +kernel) ⟨Nat.le_of_ble_eq_true rfl, Nat.le_of_ble_eq_true rfl⟩) hP hK hD hS hA rfl hl.1 rfl (Nat.le_of_ble_eq_true rfl) dX5_perform_116 ⟨Nat.le_of_ble_eq_true rfl, Nat.le_of_ble_eq_true rfl⟩ (fun H locs hP hS => ?_)
          refine lv_goto (tgt := 123) hx hb dX5_perform_119 (by decide) ?_
          obtain rfl := Option.some.inj h
          subst hQ
          exact W.iret (v := r116) hx hb hr (fun t ht hW => ⟨⟨r116, (), rfl, rfl, kEnd ht hP⟩, hS.F ht⟩) hS.2.2 dX5_perform_123
    · have h := kF h (fun z => z ((lg_cmp_eq _ _).mp c34))
      refine lv_aload_n hx hb dX5_perform_37 rfl (lv_at hl 1 rfl) ?_
      refine lv_iconst (v := 2) hx hb dX5_perform_38 (by decide) ?_
      obtain ⟨r39, e39, h⟩ := kBd h
      refine kCallVI (As := [.int (2 : Int32)]) (rest := []) (wc := wM ty adM uM) (w1 := wM ty adM uM) (wn := wM ty adM uM) ⟨hx, hb, hml, hown, hts⟩ (cX5_hasNumbers_ok l D ty adM H.size uM (2 : Int32) r39 e39) (cwV 1 hts gX5_perform_X5_hasNumbers rfl rfl rfl (by decide +kernel) ⟨Nat.le_of_ble_eq_true rfl, Nat.le_of_ble_eq_true rfl⟩) hP hK hD hS hA [0, 1, 2, 3, 4, 5, 6] (by decide) rfl 5 0 rfl rfl rfl rfl hl.1 rfl (Nat.le_of_ble_eq_true rfl) dX5_perform_39 ⟨Nat.le_of_ble_eq_true rfl, Nat.le_of_ble_eq_true rfl⟩ rfl rfl (fun H locs hP hD hS => ?_)
      refine lv_if_eq (tgt := 67) hx hb dX5_perform_42 (by decide) (fun c42 => ?_) (fun c42 => ?_)
      · have h := kT h c42
        refine lv_iconst (v := 1) hx hb dX5_perform_67 (by decide) ?_
        obtain rfl := Option.some.inj h
        subst hQ
        exact W.iret (v := (1 : Int32)) hx hb hr (fun t ht hW => ⟨⟨(1 : Int32), (), rfl, rfl, kEnd ht hP⟩, hS.F ht⟩) hS.2.2 dX5_perform_68
      · have h := kF h c42
        refine lv_aload_n hx hb dX5_perform_45 rfl (lv_at hl 1 rfl) ?_
        refine lv_aload_n hx hb dX5_perform_46 rfl (lv_at hl 1 rfl) ?_
        refine va_get (D := D) (ci := 5) (v := .ref (adM 6)) (C := RX5) (T := TX5) (N := 12) hx hb hts hinX5 hown hK.1 hP 0 rfl rfl 11 (by decide) wf2 (fun _ h9 => h9) rfl dX5_perform_47 ?_
        refine lv_iconst (v := 1) hx hb dX5_perform_50 (by decide) ?_
        obtain ⟨b51, h⟩ := kIf h
        refine va_iald (f := uM.2.2.2.2.2.2.2.2.2.2.2) (n := 40) hx hb hK.1 hP 6 0 rfl rfl (kIn_ok b51) dX5_perform_51 ?_
        refine lv_aload_n hx hb dX5_perform_52 rfl (lv_at hl 1 rfl) ?_
        refine va_get (D := D) (ci := 5) (v := .ref (adM 6)) (C := RX5) (T := TX5) (N := 12) hx hb hts hinX5 hown hK.1 hP 0 rfl rfl 11 (by decide) wf2 (fun _ h9 => h9) rfl dX5_perform_53 ?_
        refine lv_iconst (v := 2) hx hb dX5_perform_56 (by decide) ?_
        obtain ⟨b57, h⟩ := kIf h
        refine va_iald (f := uM.2.2.2.2.2.2.2.2.2.2.2) (n := 40) hx hb hK.1 hP 6 0 rfl rfl (kIn_ok b57) dX5_perform_57 ?_
        obtain ⟨r58, e58, h⟩ := kBd h
        refine kCallVI (As := [.int (uM.2.2.2.2.2.2.2.2.2.2.2 (1 : Int32).toNatClampNeg), .int (uM.2.2.2.2.2.2.2.2.2.2.2 (2 : Int32).toNatClampNeg)]) (rest := []) (wc := wM ty adM uM) (w1 := wM ty adM r58.2) (wn := wM ty adM r58.2) ⟨hx, hb, hml, hown, hts⟩ (cX5_addLayer_ok l D ty adM H.size uM (uM.2.2.2.2.2.2.2.2.2.2.2 (1 : Int32).toNatClampNeg) (uM.2.2.2.2.2.2.2.2.2.2.2 (2 : Int32).toNatClampNeg) r58 e58) (cwV 2 hts gX5_perform_X5_addLayer rfl rfl rfl (by decide +kernel) ⟨Nat.le_of_ble_eq_true rfl, Nat.le_of_ble_eq_true rfl⟩) hP hK hD hS hA [0, 1, 2, 3, 4, 5, 6] (by decide) rfl 5 0 rfl rfl rfl rfl hl.1 rfl (Nat.le_of_ble_eq_true rfl) dX5_perform_58 ⟨Nat.le_of_ble_eq_true rfl, Nat.le_of_ble_eq_true rfl⟩ rfl rfl (fun H locs hP hD hS => ?_)
        obtain ⟨r61, e61, h⟩ := kBd h
        refine kCallSI (As := [.int r58.1]) (rest := []) ⟨hx, hb, hml, hown, hts⟩ (cX5_outcome_ok l D ty  H.size r58.1 r61 e61) (va_cwS 1 hts gX5_perform_X5_outcome rfl rfl rfl (by decide +kernel) ⟨Nat.le_of_ble_eq_true rfl, Nat.le_of_ble_eq_true rfl⟩) hP hK hD hS hA rfl hl.1 rfl (Nat.le_of_ble_eq_true rfl) dX5_perform_61 ⟨Nat.le_of_ble_eq_true rfl, Nat.le_of_ble_eq_true rfl⟩ (fun H locs hP hS => ?_)
        refine lv_goto (tgt := 68) hx hb dX5_perform_64 (by decide) ?_
        obtain rfl := Option.some.inj h
        subst hQ
        exact W.iret (v := r61) hx hb hr (fun t ht hW => ⟨⟨r61, (), rfl, rfl, kEnd ht hP⟩, hS.F ht⟩) hS.2.2 dX5_perform_68
  have hl := lv_entry ([.ref (adM 0)]) (n := 3) (Nat.le_of_ble_eq_true rfl)
  rw [lg_entry_eq]
  generalize (lg_sl ([.ref (adM 0)]) ++ List.replicate (3 - (lg_sl ([.ref (adM 0)])).length) Slot.unset).toArray = ls at hl ⊢
  have hl : lv_has ls 3 [(0, .ref (adM 0))] := hl
  unfold fX5_perform at h
  have E0 : ∀ (H : Heap) (locs : List Loc) (ls : Array Slot), va_P D vwCl (wM ty adM vM) H → va_D A (wM ty adM vM) → va_S A s.heap H locs → lv_has ls 3 [(0, .ref (adM 0))] → W p l e (headSpec wsX5_perform { frames := 8, cells := 0, slots := 0, locals := 184 }).room s m ([.ref (adM 0)] : List Value).toArray below meth c H locs 0 0 Q (F0 m 0 ls []) := by
    intro H locs ls hP hD hS hl
    refine lv_aload_n hx hb dX5_perform_0 rfl (lv_at hl 0 rfl) ?_
    refine va_get (D := D) (ci := 5) (v := .int vM.2.2.2.2.2.1) (C := RX5) (T := TX5) (N := 12) hx hb hts hinX5 hown hK.1 hP 0 rfl rfl 9 (by decide) wf0 (fun _ h9 => h9) rfl dX5_perform_1 ?_
    refine lv_if_ne (tgt := 11) hx hb dX5_perform_4 (by decide) (fun c4 => ?_) (fun c4 => ?_)
    · have h := kT h c4
      refine lv_aload_n hx hb dX5_perform_11 rfl (lv_at hl 0 rfl) ?_
      refine va_get (D := D) (ci := 5) (v := .ref (adM 5)) (C := RX5) (T := TX5) (N := 12) hx hb hts hinX5 hown hK.1 hP 0 rfl rfl 10 (by decide) wf3 (fun _ h9 => h9) rfl dX5_perform_12 ?_
      refine lv_iconst (v := 0) hx hb dX5_perform_15 (by decide) ?_
      obtain ⟨b16, h⟩ := kIf h
      refine va_lald (f := vM.2.2.2.2.2.2.2.2.2.2.1) (n := 40) hx hb hK.1 hP 5 1 rfl rfl (kIn_ok b16) dX5_perform_16 ?_
      exact J17 vM (vM.2.2.2.2.2.2.2.2.2.2.1 (0 : Int32).toNatClampNeg) h H locs ls hP hD hS (lv_sub hl [0] rfl)
    · have h := kF h (fun z => z c4)
      refine lv_lconst (v := 0) hx hb dX5_perform_7 (by decide) ?_
      refine lv_goto (tgt := 17) hx hb dX5_perform_8 (by decide) ?_
      exact J17 vM (0 : Int64) h H locs ls hP hD hS (lv_sub hl [0] rfl)
  exact E0 s.heap [] ls hP hD hS hl
def fX5_run_c20 (uM : KM) (x1 : Int32) (x2 : Int32) (x3 : Int32) (nx20 : KM × Int32 × Int32 × Int32 → Option (Int32 × KM)) : Option (Int32 × KM) := if x3 = (0 : Int32) then (some (x1, (uM.1, uM.2.1, (0 : Int32), (0 : Int32), uM.2.2.2.2))) else (if ¬ uM.2.2.2.2.1 = (0 : Int32) then (some (x1, (uM.1, uM.2.1, (0 : Int32), (0 : Int32), uM.2.2.2.2))) else ((fX5_readCommand uM x2).bind fun r33 => (fX5_perform r33.2).bind fun r39 => if ¬ r39.1 = (0 : Int32) then (if r39.2.2.2.2.1 ≤ r33.1 then (nx20 ((r39.2.1, r39.2.2.1, r39.2.2.2.1, r39.2.2.2.2.1, r39.1, r39.2.2.2.2.2.2), (x1 + (0 : Int32)), (r33.1 + 1), (0 : Int32))) else (nx20 ((r39.2.1, r39.2.2.1, r39.2.2.2.1, r39.2.2.2.2.1, r39.1, r39.2.2.2.2.2.2), (x1 + (0 : Int32)), (r33.1 + 1), (1 : Int32)))) else (if r39.2.2.2.2.1 ≤ r33.1 then (nx20 ((r39.2.1, r39.2.2.1, r39.2.2.2.1, r39.2.2.2.2.1, r39.1, r39.2.2.2.2.2.2), (x1 + (1 : Int32)), (r33.1 + 1), (0 : Int32))) else (nx20 ((r39.2.1, r39.2.2.1, r39.2.2.2.1, r39.2.2.2.2.1, r39.1, r39.2.2.2.2.2.2), (x1 + (1 : Int32)), (r33.1 + 1), (1 : Int32))))))
def fX5_run (vM : KM) : Option (Int32 × KM) := (fX5_record vM).bind fun r1 => kLoopC kFu (fun q nx20 => fX5_run_c20 q.1 q.2.1 q.2.2.1 q.2.2.2 nx20) ((r1.1, r1.2.1, (1 : Int32), r1.2.2.2.1, (0 : Int32), r1.2.2.2.2.2), (0 : Int32), (0 : Int32), (1 : Int32))
set_option maxHeartbeats 4000000 in
set_option maxRecDepth 100000 in
theorem cX5_run_ok (l : Launch) (D : va_G) (ty : kTy) (adM : Nat → Nat) (sz : Nat) (vM : KM) (res : Int32 × KM) (h : fX5_run vM = some res) : kMI l yX5_run wsX5_run { frames := 9, cells := 0, slots := 0, locals := 206 } [.ref (adM 0)] D ty (wM ty adM vM) sz res.1 (wM ty adM res.2) := by
  refine Met.ofW (cc := cX5_run) (maxL := 4) (ret := (some .int)) (by decide) rfl ?_
  intro p e s m args below meth c s₁ B hml hv
  obtain ⟨rfl, hsz, hP, hK, hD0⟩ := hv
  have hx := B.exec
  have hb := B.bytes
  have hr := B.returns
  have hts := atoms_spec (ws := wsX5_run) B.pre
  have hown : s.vm.findClass RX5 = some m.cls := findClass_of_methodNamed B.named
  have hlocks := B.notSynchronized
  subst hsz
  have hD := hD0.self (sz := s.heap.size)
  generalize hAe : va_A (wM ty adM vM) s.heap.size = A at hD ⊢
  have hA : ∀ q : Nat, s.heap.size ≤ q → A q := fun q h => by rw [← hAe]; exact Or.inr h
  have hS : va_S A s.heap s.heap [] := va_S.rf
  refine kGenW (fun Q hQ => ?_)
  have wf0 := hts (.fieldLink RX5 39 "IceCoreDaterModel" "running" "Z") (by decide +kernel)
  have hinX5 : ∀ w ∈ wsX50, w ∈ wsX5_run := by decide +kernel
  have wf2 := hts (.fieldLink RX5 139 "IceCoreDaterModel" "texted" "I") (by decide +kernel)
  have wf3 := hts (.fieldLink RX5 23 "IceCoreDaterModel" "failed" "I") (by decide +kernel)
  have B20 : ∀ (nx20 : KM × Int32 × Int32 × Int32 → Option (Int32 × KM)) (hn20 : ∀ (uM : KM) (x1 : Int32) (x2 : Int32) (x3 : Int32), nx20 (uM, x1, x2, x3) = some res → ∀ (H : Heap) (locs : List Loc) (ls : Array Slot), va_P D vwCl (wM ty adM uM) H → va_D A (wM ty adM uM) → va_S A s.heap H locs → lv_has ls 4 [(0, .ref (adM 0)), (1, .int x1), (2, .int x2), (3, .int x3)] → W p l e (headSpec wsX5_run { frames := 9, cells := 0, slots := 0, locals := 206 }).room s m ([.ref (adM 0)] : List Value).toArray below meth c H locs 0 0 Q (F0 m 20 ls [])) (uM : KM) (x1 : Int32) (x2 : Int32) (x3 : Int32), fX5_run_c20 uM x1 x2 x3 nx20 = some res → ∀ (H : Heap) (locs : List Loc) (ls : Array Slot), va_P D vwCl (wM ty adM uM) H → va_D A (wM ty adM uM) → va_S A s.heap H locs → lv_has ls 4 [(0, .ref (adM 0)), (1, .int x1), (2, .int x2), (3, .int x3)] → W p l e (headSpec wsX5_run { frames := 9, cells := 0, slots := 0, locals := 206 }).room s m ([.ref (adM 0)] : List Value).toArray below meth c H locs 0 0 Q (F0 m 20 ls []) := by
    intro  nx20 hn20 uM x1 x2 x3 h H locs ls hP hD hS hl
    unfold fX5_run_c20 at h
    refine lv_iload_n hx hb dX5_run_20 rfl (lv_at hl 3 rfl) ?_
    refine lv_if_eq (tgt := 80) hx hb dX5_run_21 (by decide) (fun c21 => ?_) (fun c21 => ?_)
    · have h := kT h c21
      refine lv_aload_n hx hb dX5_run_80 rfl (lv_at hl 0 rfl) ?_
      refine lv_iconst (v := 0) hx hb dX5_run_81 (by decide) ?_
      refine va_put (D := D) (ci := 5) (v := .int (0 : Int32)) (ty := .boolean) (C := RX5) (T := TX5) (N := 12) hx hb hts hinX5 tyX5 tyX5_ok nmX5 hown hK.1 hP hD hS 0 rfl rfl 4 (by decide) wf0 (fun _ h9 => h9) rfl (by decide +kernel) rfl rfl (Nat.le_of_ble_eq_true rfl) dX5_run_82 (fun H locs hP hD hS => ?_)
      have hP : va_P D vwCl (wM ty adM (uM.1, uM.2.1, (0 : Int32), uM.2.2.2)) H := hP
      have hD : va_D A (wM ty adM (uM.1, uM.2.1, (0 : Int32), uM.2.2.2)) := hD
      refine lv_aload_n hx hb dX5_run_85 rfl (lv_at hl 0 rfl) ?_
      refine lv_iconst (v := 0) hx hb dX5_run_86 (by decide) ?_
      refine va_put (D := D) (ci := 5) (v := .int (0 : Int32)) (ty := .int) (C := RX5) (T := TX5) (N := 12) hx hb hts hinX5 tyX5 tyX5_ok nmX5 hown hK.1 hP hD hS 0 rfl rfl 7 (by decide) wf2 (fun _ h9 => h9) rfl (by decide +kernel) rfl rfl (Nat.le_of_ble_eq_true rfl) dX5_run_87 (fun H locs hP hD hS => ?_)
      have hP : va_P D vwCl (wM ty adM (uM.1, uM.2.1, (0 : Int32), (0 : Int32), uM.2.2.2.2)) H := hP
      have hD : va_D A (wM ty adM (uM.1, uM.2.1, (0 : Int32), (0 : Int32), uM.2.2.2.2)) := hD
      refine lv_iload_n hx hb dX5_run_90 rfl (lv_at hl 1 rfl) ?_
      obtain rfl := Option.some.inj h
      subst hQ
      exact W.iret (v := x1) hx hb hr (fun t ht hW => ⟨⟨x1, (), rfl, rfl, kEnd ht hP⟩, hS.F ht⟩) hS.2.2 dX5_run_91
    · have h := kF h c21
      refine lv_aload_n hx hb dX5_run_24 rfl (lv_at hl 0 rfl) ?_
      refine va_get (D := D) (ci := 5) (v := .int uM.2.2.2.2.1) (C := RX5) (T := TX5) (N := 12) hx hb hts hinX5 hown hK.1 hP 0 rfl rfl 8 (by decide) wf3 (fun _ h9 => h9) rfl dX5_run_25 ?_
      refine lv_if_ne (tgt := 80) hx hb dX5_run_28 (by decide) (fun c28 => ?_) (fun c28 => ?_)
      · have h := kT h c28
        refine lv_aload_n hx hb dX5_run_80 rfl (lv_at hl 0 rfl) ?_
        refine lv_iconst (v := 0) hx hb dX5_run_81 (by decide) ?_
        refine va_put (D := D) (ci := 5) (v := .int (0 : Int32)) (ty := .boolean) (C := RX5) (T := TX5) (N := 12) hx hb hts hinX5 tyX5 tyX5_ok nmX5 hown hK.1 hP hD hS 0 rfl rfl 4 (by decide) wf0 (fun _ h9 => h9) rfl (by decide +kernel) rfl rfl (Nat.le_of_ble_eq_true rfl) dX5_run_82 (fun H locs hP hD hS => ?_)
        have hP : va_P D vwCl (wM ty adM (uM.1, uM.2.1, (0 : Int32), uM.2.2.2)) H := hP
        have hD : va_D A (wM ty adM (uM.1, uM.2.1, (0 : Int32), uM.2.2.2)) := hD
        refine lv_aload_n hx hb dX5_run_85 rfl (lv_at hl 0 rfl) ?_
        refine lv_iconst (v := 0) hx hb dX5_run_86 (by decide) ?_
        refine va_put (D := D) (ci := 5) (v := .int (0 : Int32)) (ty := .int) (C := RX5) (T := TX5) (N := 12) hx hb hts hinX5 tyX5 tyX5_ok nmX5 hown hK.1 hP hD hS 0 rfl rfl 7 (by decide) wf2 (fun _ h9 => h9) rfl (by decide +kernel) rfl rfl (Nat.le_of_ble_eq_true rfl) dX5_run_87 (fun H locs hP hD hS => ?_)
        have hP : va_P D vwCl (wM ty adM (uM.1, uM.2.1, (0 : Int32), (0 : Int32), uM.2.2.2.2)) H := hP
        have hD : va_D A (wM ty adM (uM.1, uM.2.1, (0 : Int32), (0 : Int32), uM.2.2.2.2)) := hD
        refine lv_iload_n hx hb dX5_run_90 rfl (lv_at hl 1 rfl) ?_
        obtain rfl := Option.some.inj h
        subst hQ
        exact W.iret (v := x1) hx hb hr (fun t ht hW => ⟨⟨x1, (), rfl, rfl, kEnd ht hP⟩, hS.F ht⟩) hS.2.2 dX5_run_91
      · have h := kF h (fun z => z c28)
        refine lv_aload_n hx hb dX5_run_31 rfl (lv_at hl 0 rfl) ?_
        refine lv_iload_n hx hb dX5_run_32 rfl (lv_at hl 2 rfl) ?_
        obtain ⟨r33, e33, h⟩ := kBd h
        refine kCallVI (As := [.int x2]) (rest := []) (wc := wM ty adM uM) (w1 := wM ty adM r33.2) (wn := wM ty adM r33.2) ⟨hx, hb, hml, hown, hts⟩ (cX5_readCommand_ok l D ty adM H.size uM x2 r33 e33) (cwV 1 hts gX5_run_X5_readCommand rfl rfl rfl (by decide +kernel) ⟨Nat.le_of_ble_eq_true rfl, Nat.le_of_ble_eq_true rfl⟩) hP hK hD hS hA [0, 1, 2, 3, 4, 5, 6] (by decide) rfl 5 0 rfl rfl rfl rfl hl.1 rfl (Nat.le_of_ble_eq_true rfl) dX5_run_33 ⟨Nat.le_of_ble_eq_true rfl, Nat.le_of_ble_eq_true rfl⟩ rfl rfl (fun H locs hP hD hS => ?_)
        refine lv_istore_n (lv' := [(2, .int r33.1), (0, .ref (adM 0)), (1, .int x1), (3, .int x3)]) hx hb dX5_run_36 rfl hl (by decide) rfl (fun ls hl => ?_)
        refine lv_aload_n hx hb dX5_run_37 rfl (lv_at hl 1 rfl) ?_
        refine lv_aload_n hx hb dX5_run_38 rfl (lv_at hl 1 rfl) ?_
        obtain ⟨r39, e39, h⟩ := kBd h
        refine kCallVI (As := []) (rest := [.ref (adM 0)]) (wc := wM ty adM r33.2) (w1 := wM ty adM r39.2) (wn := wM ty adM r39.2) ⟨hx, hb, hml, hown, hts⟩ (cX5_perform_ok l D ty adM H.size r33.2 r39 e39) (cwV 0 hts gX5_run_X5_perform rfl rfl rfl (by decide +kernel) ⟨Nat.le_of_ble_eq_true rfl, Nat.le_of_ble_eq_true rfl⟩) hP hK hD hS hA [0, 1, 2, 3, 4, 5, 6] (by decide) rfl 5 0 rfl rfl rfl rfl hl.1 rfl (Nat.le_of_ble_eq_true rfl) dX5_run_39 ⟨Nat.le_of_ble_eq_true rfl, Nat.le_of_ble_eq_true rfl⟩ rfl rfl (fun H locs hP hD hS => ?_)
        refine va_put (D := D) (ci := 5) (v := .int r39.1) (ty := .int) (C := RX5) (T := TX5) (N := 12) hx hb hts hinX5 tyX5 tyX5_ok nmX5 hown hK.1 hP hD hS 0 rfl rfl 8 (by decide) wf3 (fun _ h9 => h9) rfl (by decide +kernel) rfl rfl (Nat.le_of_ble_eq_true rfl) dX5_run_42 (fun H locs hP hD hS => ?_)
        have hP : va_P D vwCl (wM ty adM (r39.2.1, r39.2.2.1, r39.2.2.2.1, r39.2.2.2.2.1, r39.1, r39.2.2.2.2.2.2)) H := hP
        have hD : va_D A (wM ty adM (r39.2.1, r39.2.2.1, r39.2.2.2.1, r39.2.2.2.2.1, r39.1, r39.2.2.2.2.2.2)) := hD
        refine lv_iload_n hx hb dX5_run_45 rfl (lv_at hl 2 rfl) ?_
        refine lv_aload_n hx hb dX5_run_46 rfl (lv_at hl 1 rfl) ?_
        refine va_get (D := D) (ci := 5) (v := .int r39.1) (C := RX5) (T := TX5) (N := 12) hx hb hts hinX5 hown hK.1 hP 0 rfl rfl 8 (by decide) wf3 (fun _ h9 => h9) rfl dX5_run_47 ?_
        refine lv_if_ne (tgt := 57) hx hb dX5_run_50 (by decide) (fun c50 => ?_) (fun c50 => ?_)
        · have h := kT h c50
          refine lv_iconst (v := 0) hx hb dX5_run_57 (by decide) ?_
          refine lv_iadd hx hb dX5_run_58 ?_
          refine lv_istore_n (lv' := [(1, .int (x1 + (0 : Int32))), (2, .int r33.1), (0, .ref (adM 0)), (3, .int x3)]) hx hb dX5_run_59 rfl hl (by decide) rfl (fun ls hl => ?_)
          refine lv_iload_n hx hb dX5_run_60 rfl (lv_at hl 1 rfl) ?_
          refine lv_aload_n hx hb dX5_run_61 rfl (lv_at hl 2 rfl) ?_
          refine va_get (D := D) (ci := 5) (v := .int r39.2.2.2.2.1) (C := RX5) (T := TX5) (N := 12) hx hb hts hinX5 hown hK.1 hP 0 rfl rfl 7 (by decide) wf2 (fun _ h9 => h9) rfl dX5_run_62 ?_
          refine lv_icmp_ge (tgt := 72) hx hb dX5_run_65 (by decide) (fun c65 => ?_) (fun c65 => ?_)
          · have h := kT h c65
            refine lv_iconst (v := 0) hx hb dX5_run_72 (by decide) ?_
            refine lv_istore_n (lv' := [(3, .int (0 : Int32)), (1, .int (x1 + (0 : Int32))), (2, .int r33.1), (0, .ref (adM 0))]) hx hb dX5_run_73 rfl hl (by decide) rfl (fun ls hl => ?_)
            refine lv_iinc (v := (r33.1 + 1)) (lv' := [(2, .int (r33.1 + 1)), (3, .int (0 : Int32)), (1, .int (x1 + (0 : Int32))), (0, .ref (adM 0))]) hx hb dX5_run_74 hl (k := 2) rfl rfl (by decide) rfl (fun ls hl => ?_)
            refine lv_goto (tgt := 20) hx hb dX5_run_77 (by decide) ?_
            exact hn20 (r39.2.1, r39.2.2.1, r39.2.2.2.1, r39.2.2.2.2.1, r39.1, r39.2.2.2.2.2.2) (x1 + (0 : Int32)) (r33.1 + 1) (0 : Int32) h H locs ls hP hD hS (lv_sub hl [3, 2, 0, 1] rfl)
          · have h := kF h c65
            refine lv_iconst (v := 1) hx hb dX5_run_68 (by decide) ?_
            refine lv_goto (tgt := 73) hx hb dX5_run_69 (by decide) ?_
            refine lv_istore_n (lv' := [(3, .int (1 : Int32)), (1, .int (x1 + (0 : Int32))), (2, .int r33.1), (0, .ref (adM 0))]) hx hb dX5_run_73 rfl hl (by decide) rfl (fun ls hl => ?_)
            refine lv_iinc (v := (r33.1 + 1)) (lv' := [(2, .int (r33.1 + 1)), (3, .int (1 : Int32)), (1, .int (x1 + (0 : Int32))), (0, .ref (adM 0))]) hx hb dX5_run_74 hl (k := 2) rfl rfl (by decide) rfl (fun ls hl => ?_)
            refine lv_goto (tgt := 20) hx hb dX5_run_77 (by decide) ?_
            exact hn20 (r39.2.1, r39.2.2.1, r39.2.2.2.1, r39.2.2.2.2.1, r39.1, r39.2.2.2.2.2.2) (x1 + (0 : Int32)) (r33.1 + 1) (1 : Int32) h H locs ls hP hD hS (lv_sub hl [3, 2, 0, 1] rfl)
        · have h := kF h (fun z => z c50)
          refine lv_iconst (v := 1) hx hb dX5_run_53 (by decide) ?_
          refine lv_goto (tgt := 58) hx hb dX5_run_54 (by decide) ?_
          refine lv_iadd hx hb dX5_run_58 ?_
          refine lv_istore_n (lv' := [(1, .int (x1 + (1 : Int32))), (2, .int r33.1), (0, .ref (adM 0)), (3, .int x3)]) hx hb dX5_run_59 rfl hl (by decide) rfl (fun ls hl => ?_)
          refine lv_iload_n hx hb dX5_run_60 rfl (lv_at hl 1 rfl) ?_
          refine lv_aload_n hx hb dX5_run_61 rfl (lv_at hl 2 rfl) ?_
          refine va_get (D := D) (ci := 5) (v := .int r39.2.2.2.2.1) (C := RX5) (T := TX5) (N := 12) hx hb hts hinX5 hown hK.1 hP 0 rfl rfl 7 (by decide) wf2 (fun _ h9 => h9) rfl dX5_run_62 ?_
          refine lv_icmp_ge (tgt := 72) hx hb dX5_run_65 (by decide) (fun c65 => ?_) (fun c65 => ?_)
          · have h := kT h c65
            refine lv_iconst (v := 0) hx hb dX5_run_72 (by decide) ?_
            refine lv_istore_n (lv' := [(3, .int (0 : Int32)), (1, .int (x1 + (1 : Int32))), (2, .int r33.1), (0, .ref (adM 0))]) hx hb dX5_run_73 rfl hl (by decide) rfl (fun ls hl => ?_)
            refine lv_iinc (v := (r33.1 + 1)) (lv' := [(2, .int (r33.1 + 1)), (3, .int (0 : Int32)), (1, .int (x1 + (1 : Int32))), (0, .ref (adM 0))]) hx hb dX5_run_74 hl (k := 2) rfl rfl (by decide) rfl (fun ls hl => ?_)
            refine lv_goto (tgt := 20) hx hb dX5_run_77 (by decide) ?_
            exact hn20 (r39.2.1, r39.2.2.1, r39.2.2.2.1, r39.2.2.2.2.1, r39.1, r39.2.2.2.2.2.2) (x1 + (1 : Int32)) (r33.1 + 1) (0 : Int32) h H locs ls hP hD hS (lv_sub hl [3, 2, 0, 1] rfl)
          · have h := kF h c65
            refine lv_iconst (v := 1) hx hb dX5_run_68 (by decide) ?_
            refine lv_goto (tgt := 73) hx hb dX5_run_69 (by decide) ?_
            refine lv_istore_n (lv' := [(3, .int (1 : Int32)), (1, .int (x1 + (1 : Int32))), (2, .int r33.1), (0, .ref (adM 0))]) hx hb dX5_run_73 rfl hl (by decide) rfl (fun ls hl => ?_)
            refine lv_iinc (v := (r33.1 + 1)) (lv' := [(2, .int (r33.1 + 1)), (3, .int (1 : Int32)), (1, .int (x1 + (1 : Int32))), (0, .ref (adM 0))]) hx hb dX5_run_74 hl (k := 2) rfl rfl (by decide) rfl (fun ls hl => ?_)
            refine lv_goto (tgt := 20) hx hb dX5_run_77 (by decide) ?_
            exact hn20 (r39.2.1, r39.2.2.1, r39.2.2.2.1, r39.2.2.2.2.1, r39.1, r39.2.2.2.2.2.2) (x1 + (1 : Int32)) (r33.1 + 1) (1 : Int32) h H locs ls hP hD hS (lv_sub hl [3, 2, 0, 1] rfl)
  have L20 : ∀  (n : Nat) (uM : KM) (x1 : Int32) (x2 : Int32) (x3 : Int32), kLoopC n (fun q nx20 => fX5_run_c20 q.1 q.2.1 q.2.2.1 q.2.2.2 nx20) (uM, x1, x2, x3) = some res → ∀ (H : Heap) (locs : List Loc) (ls : Array Slot), va_P D vwCl (wM ty adM uM) H → va_D A (wM ty adM uM) → va_S A s.heap H locs → lv_has ls 4 [(0, .ref (adM 0)), (1, .int x1), (2, .int x2), (3, .int x3)] → W p l e (headSpec wsX5_run { frames := 9, cells := 0, slots := 0, locals := 206 }).room s m ([.ref (adM 0)] : List Value).toArray below meth c H locs 0 0 Q (F0 m 20 ls []) := by
    intro  n
    induction n with
    | zero => intro uM x1 x2 x3 h; exact absurd h (by simp [kLoopC])
    | succ n ih => intro uM x1 x2 x3 h; exact B20  (kLoopC n (fun q nx20 => fX5_run_c20 q.1 q.2.1 q.2.2.1 q.2.2.2 nx20)) ih uM x1 x2 x3 h
  have hl := lv_entry ([.ref (adM 0)]) (n := 4) (Nat.le_of_ble_eq_true rfl)
  rw [lg_entry_eq]
  generalize (lg_sl ([.ref (adM 0)]) ++ List.replicate (4 - (lg_sl ([.ref (adM 0)])).length) Slot.unset).toArray = ls at hl ⊢
  have hl : lv_has ls 4 [(0, .ref (adM 0))] := hl
  unfold fX5_run at h
  have E0 : ∀ (H : Heap) (locs : List Loc) (ls : Array Slot), va_P D vwCl (wM ty adM vM) H → va_D A (wM ty adM vM) → va_S A s.heap H locs → lv_has ls 4 [(0, .ref (adM 0))] → W p l e (headSpec wsX5_run { frames := 9, cells := 0, slots := 0, locals := 206 }).room s m ([.ref (adM 0)] : List Value).toArray below meth c H locs 0 0 Q (F0 m 0 ls []) := by
    intro H locs ls hP hD hS hl
    refine lv_aload_n hx hb dX5_run_0 rfl (lv_at hl 0 rfl) ?_
    obtain ⟨r1, e1, h⟩ := kBd h
    refine kCallVV (As := []) (rest := []) (wc := wM ty adM vM) (w1 := wM ty adM r1) (wn := wM ty adM r1) ⟨hx, hb, hml, hown, hts⟩ (cX5_record_ok l D ty adM H.size vM r1 e1) (cwV 0 hts gX5_run_X5_record rfl rfl rfl (by decide +kernel) ⟨Nat.le_of_ble_eq_true rfl, Nat.le_of_ble_eq_true rfl⟩) hP hK hD hS hA [0, 1, 2, 3, 4, 5, 6] (by decide) rfl 5 0 rfl rfl rfl rfl hl.1 rfl (Nat.le_of_ble_eq_true rfl) dX5_run_1 ⟨Nat.le_of_ble_eq_true rfl, Nat.le_of_ble_eq_true rfl⟩ rfl rfl (fun H locs hP hD hS => ?_)
    refine lv_aload_n hx hb dX5_run_4 rfl (lv_at hl 0 rfl) ?_
    refine lv_iconst (v := 1) hx hb dX5_run_5 (by decide) ?_
    refine va_put (D := D) (ci := 5) (v := .int (1 : Int32)) (ty := .boolean) (C := RX5) (T := TX5) (N := 12) hx hb hts hinX5 tyX5 tyX5_ok nmX5 hown hK.1 hP hD hS 0 rfl rfl 4 (by decide) wf0 (fun _ h9 => h9) rfl (by decide +kernel) rfl rfl (Nat.le_of_ble_eq_true rfl) dX5_run_6 (fun H locs hP hD hS => ?_)
    have hP : va_P D vwCl (wM ty adM (r1.1, r1.2.1, (1 : Int32), r1.2.2.2)) H := hP
    have hD : va_D A (wM ty adM (r1.1, r1.2.1, (1 : Int32), r1.2.2.2)) := hD
    refine lv_iconst (v := 0) hx hb dX5_run_9 (by decide) ?_
    refine lv_istore_n (lv' := [(1, .int (0 : Int32)), (0, .ref (adM 0))]) hx hb dX5_run_10 rfl hl (by decide) rfl (fun ls hl => ?_)
    refine lv_iconst (v := 0) hx hb dX5_run_11 (by decide) ?_
    refine lv_istore_n (lv' := [(2, .int (0 : Int32)), (1, .int (0 : Int32)), (0, .ref (adM 0))]) hx hb dX5_run_12 rfl hl (by decide) rfl (fun ls hl => ?_)
    refine lv_iconst (v := 1) hx hb dX5_run_13 (by decide) ?_
    refine lv_istore_n (lv' := [(3, .int (1 : Int32)), (2, .int (0 : Int32)), (1, .int (0 : Int32)), (0, .ref (adM 0))]) hx hb dX5_run_14 rfl hl (by decide) rfl (fun ls hl => ?_)
    refine lv_aload_n hx hb dX5_run_15 rfl (lv_at hl 3 rfl) ?_
    refine lv_iconst (v := 0) hx hb dX5_run_16 (by decide) ?_
    refine va_put (D := D) (ci := 5) (v := .int (0 : Int32)) (ty := .int) (C := RX5) (T := TX5) (N := 12) hx hb hts hinX5 tyX5 tyX5_ok nmX5 hown hK.1 hP hD hS 0 rfl rfl 8 (by decide) wf3 (fun _ h9 => h9) rfl (by decide +kernel) rfl rfl (Nat.le_of_ble_eq_true rfl) dX5_run_17 (fun H locs hP hD hS => ?_)
    have hP : va_P D vwCl (wM ty adM (r1.1, r1.2.1, (1 : Int32), r1.2.2.2.1, (0 : Int32), r1.2.2.2.2.2)) H := hP
    have hD : va_D A (wM ty adM (r1.1, r1.2.1, (1 : Int32), r1.2.2.2.1, (0 : Int32), r1.2.2.2.2.2)) := hD
    exact L20   kFu (r1.1, r1.2.1, (1 : Int32), r1.2.2.2.1, (0 : Int32), r1.2.2.2.2.2) (0 : Int32) (0 : Int32) (1 : Int32) h H locs ls hP hD hS (lv_sub hl [3, 2, 1, 0] rfl)
  exact E0 s.heap [] ls hP hD hS hl
def fX5_failure (vM : KM) : Option (Int32) := some vM.2.2.2.2.1
set_option maxHeartbeats 4000000 in
set_option maxRecDepth 100000 in
theorem cX5_failure_ok (l : Launch) (D : va_G) (ty : kTy) (adM : Nat → Nat) (sz : Nat) (vM : KM) (res : Int32) (h : fX5_failure vM = some res) : kMI l yX5_failure wsX5_failure { frames := 0, cells := 0, slots := 0, locals := 0 } [.ref (adM 0)] D ty (wM ty adM vM) sz res (wM ty adM vM) := by
  refine Met.ofW (cc := cX5_failure) (maxL := 1) (ret := (some .int)) (by decide) rfl ?_
  intro p e s m args below meth c s₁ B hml hv
  obtain ⟨rfl, hsz, hP, hK, hD0⟩ := hv
  have hx := B.exec
  have hb := B.bytes
  have hr := B.returns
  have hts := atoms_spec (ws := wsX5_failure) B.pre
  have hown : s.vm.findClass RX5 = some m.cls := findClass_of_methodNamed B.named
  have hlocks := B.notSynchronized
  subst hsz
  have hD := hD0.self (sz := s.heap.size)
  generalize hAe : va_A (wM ty adM vM) s.heap.size = A at hD ⊢
  have hA : ∀ q : Nat, s.heap.size ≤ q → A q := fun q h => by rw [← hAe]; exact Or.inr h
  have hS : va_S A s.heap s.heap [] := va_S.rf
  refine kGenW (fun Q hQ => ?_)
  have wf0 := hts (.fieldLink RX5 23 "IceCoreDaterModel" "failed" "I") (by decide +kernel)
  have hinX5 : ∀ w ∈ wsX50, w ∈ wsX5_failure := by decide +kernel
  have hl := lv_entry ([.ref (adM 0)]) (n := 1) (Nat.le_of_ble_eq_true rfl)
  rw [lg_entry_eq]
  generalize (lg_sl ([.ref (adM 0)]) ++ List.replicate (1 - (lg_sl ([.ref (adM 0)])).length) Slot.unset).toArray = ls at hl ⊢
  have hl : lv_has ls 1 [(0, .ref (adM 0))] := hl
  unfold fX5_failure at h
  have E0 : ∀ (H : Heap) (locs : List Loc) (ls : Array Slot), va_P D vwCl (wM ty adM vM) H → va_D A (wM ty adM vM) → va_S A s.heap H locs → lv_has ls 1 [(0, .ref (adM 0))] → W p l e (headSpec wsX5_failure { frames := 0, cells := 0, slots := 0, locals := 0 }).room s m ([.ref (adM 0)] : List Value).toArray below meth c H locs 0 0 Q (F0 m 0 ls []) := by
    intro H locs ls hP hD hS hl
    refine lv_aload_n hx hb dX5_failure_0 rfl (lv_at hl 0 rfl) ?_
    refine va_get (D := D) (ci := 5) (v := .int vM.2.2.2.2.1) (C := RX5) (T := TX5) (N := 12) hx hb hts hinX5 hown hK.1 hP 0 rfl rfl 8 (by decide) wf0 (fun _ h9 => h9) rfl dX5_failure_1 ?_
    obtain rfl := Option.some.inj h
    subst hQ
    exact W.iret (v := vM.2.2.2.2.1) hx hb hr (fun t ht hW => ⟨⟨vM.2.2.2.2.1, (), rfl, rfl, kEnd ht hP⟩, hS.F ht⟩) hS.2.2 dX5_failure_4
  exact E0 s.heap [] ls hP hD hS hl
def fX5_layers (vM : KM) : Option (Int32) := if kIn (0 : Int32) 133 = true then (some (vM.2.2.2.2.2.2.1 (0 : Int32).toNatClampNeg)) else none
set_option maxHeartbeats 4000000 in
set_option maxRecDepth 100000 in
theorem cX5_layers_ok (l : Launch) (D : va_G) (ty : kTy) (adM : Nat → Nat) (sz : Nat) (vM : KM) (res : Int32) (h : fX5_layers vM = some res) : kMI l yX5_layers wsX5_layers { frames := 0, cells := 0, slots := 0, locals := 0 } [.ref (adM 0)] D ty (wM ty adM vM) sz res (wM ty adM vM) := by
  refine Met.ofW (cc := cX5_layers) (maxL := 1) (ret := (some .int)) (by decide) rfl ?_
  intro p e s m args below meth c s₁ B hml hv
  obtain ⟨rfl, hsz, hP, hK, hD0⟩ := hv
  have hx := B.exec
  have hb := B.bytes
  have hr := B.returns
  have hts := atoms_spec (ws := wsX5_layers) B.pre
  have hown : s.vm.findClass RX5 = some m.cls := findClass_of_methodNamed B.named
  have hlocks := B.notSynchronized
  subst hsz
  have hD := hD0.self (sz := s.heap.size)
  generalize hAe : va_A (wM ty adM vM) s.heap.size = A at hD ⊢
  have hA : ∀ q : Nat, s.heap.size ≤ q → A q := fun q h => by rw [← hAe]; exact Or.inr h
  have hS : va_S A s.heap s.heap [] := va_S.rf
  refine kGenW (fun Q hQ => ?_)
  have wf0 := hts (.fieldLink RX5 7 "IceCoreDaterModel" "now" "[I") (by decide +kernel)
  have hinX5 : ∀ w ∈ wsX50, w ∈ wsX5_layers := by decide +kernel
  have hl := lv_entry ([.ref (adM 0)]) (n := 1) (Nat.le_of_ble_eq_true rfl)
  rw [lg_entry_eq]
  generalize (lg_sl ([.ref (adM 0)]) ++ List.replicate (1 - (lg_sl ([.ref (adM 0)])).length) Slot.unset).toArray = ls at hl ⊢
  have hl : lv_has ls 1 [(0, .ref (adM 0))] := hl
  unfold fX5_layers at h
  have E0 : ∀ (H : Heap) (locs : List Loc) (ls : Array Slot), va_P D vwCl (wM ty adM vM) H → va_D A (wM ty adM vM) → va_S A s.heap H locs → lv_has ls 1 [(0, .ref (adM 0))] → W p l e (headSpec wsX5_layers { frames := 0, cells := 0, slots := 0, locals := 0 }).room s m ([.ref (adM 0)] : List Value).toArray below meth c H locs 0 0 Q (F0 m 0 ls []) := by
    intro H locs ls hP hD hS hl
    refine lv_aload_n hx hb dX5_layers_0 rfl (lv_at hl 0 rfl) ?_
    refine va_get (D := D) (ci := 5) (v := .ref (adM 1)) (C := RX5) (T := TX5) (N := 12) hx hb hts hinX5 hown hK.1 hP 0 rfl rfl 0 (by decide) wf0 (fun _ h9 => h9) rfl dX5_layers_1 ?_
    refine lv_iconst (v := 0) hx hb dX5_layers_4 (by decide) ?_
    obtain ⟨b5, h⟩ := kIf h
    refine va_iald (f := vM.2.2.2.2.2.2.1) (n := 133) hx hb hK.1 hP 1 0 rfl rfl (kIn_ok b5) dX5_layers_5 ?_
    obtain rfl := Option.some.inj h
    subst hQ
    exact W.iret (v := (vM.2.2.2.2.2.2.1 (0 : Int32).toNatClampNeg)) hx hb hr (fun t ht hW => ⟨⟨(vM.2.2.2.2.2.2.1 (0 : Int32).toNatClampNeg), (), rfl, rfl, kEnd ht hP⟩, hS.F ht⟩) hS.2.2 dX5_layers_6
  exact E0 s.heap [] ls hP hD hS hl
def fX5_depth (vM : KM) : Option (Int32) := (fX5_bottom vM).bind fun r1 => some r1
set_option maxHeartbeats 4000000 in
set_option maxRecDepth 100000 in
theorem cX5_depth_ok (l : Launch) (D : va_G) (ty : kTy) (adM : Nat → Nat) (sz : Nat) (vM : KM) (res : Int32) (h : fX5_depth vM = some res) : kMI l yX5_depth wsX5_depth { frames := 3, cells := 0, slots := 0, locals := 65 } [.ref (adM 0)] D ty (wM ty adM vM) sz res (wM ty adM vM) := by
  refine Met.ofW (cc := cX5_depth) (maxL := 1) (ret := (some .int)) (by decide) rfl ?_
  intro p e s m args below meth c s₁ B hml hv
  obtain ⟨rfl, hsz, hP, hK, hD0⟩ := hv
  have hx := B.exec
  have hb := B.bytes
  have hr := B.returns
  have hts := atoms_spec (ws := wsX5_depth) B.pre
  have hown : s.vm.findClass RX5 = some m.cls := findClass_of_methodNamed B.named
  have hlocks := B.notSynchronized
  subst hsz
  have hD := hD0.self (sz := s.heap.size)
  generalize hAe : va_A (wM ty adM vM) s.heap.size = A at hD ⊢
  have hA : ∀ q : Nat, s.heap.size ≤ q → A q := fun q h => by rw [← hAe]; exact Or.inr h
  have hS : va_S A s.heap s.heap [] := va_S.rf
  refine kGenW (fun Q hQ => ?_)
  have hl := lv_entry ([.ref (adM 0)]) (n := 1) (Nat.le_of_ble_eq_true rfl)
  rw [lg_entry_eq]
  generalize (lg_sl ([.ref (adM 0)]) ++ List.replicate (1 - (lg_sl ([.ref (adM 0)])).length) Slot.unset).toArray = ls at hl ⊢
  have hl : lv_has ls 1 [(0, .ref (adM 0))] := hl
  unfold fX5_depth at h
  have E0 : ∀ (H : Heap) (locs : List Loc) (ls : Array Slot), va_P D vwCl (wM ty adM vM) H → va_D A (wM ty adM vM) → va_S A s.heap H locs → lv_has ls 1 [(0, .ref (adM 0))] → W p l e (headSpec wsX5_depth { frames := 3, cells := 0, slots := 0, locals := 65 }).room s m ([.ref (adM 0)] : List Value).toArray below meth c H locs 0 0 Q (F0 m 0 ls []) := by
    intro H locs ls hP hD hS hl
    refine lv_aload_n hx hb dX5_depth_0 rfl (lv_at hl 0 rfl) ?_
    obtain ⟨r1, e1, h⟩ := kBd h
    refine kCallVI (As := []) (rest := []) (wc := wM ty adM vM) (w1 := wM ty adM vM) (wn := wM ty adM vM) ⟨hx, hb, hml, hown, hts⟩ (cX5_bottom_ok l D ty adM H.size vM r1 e1) (cwV 0 hts gX5_depth_X5_bottom rfl rfl rfl (by decide +kernel) ⟨Nat.le_of_ble_eq_true rfl, Nat.le_of_ble_eq_true rfl⟩) hP hK hD hS hA [0, 1, 2, 3, 4, 5, 6] (by decide) rfl 5 0 rfl rfl rfl rfl hl.1 rfl (Nat.le_of_ble_eq_true rfl) dX5_depth_1 ⟨Nat.le_of_ble_eq_true rfl, Nat.le_of_ble_eq_true rfl⟩ rfl rfl (fun H locs hP hD hS => ?_)
    obtain rfl := Option.some.inj h
    subst hQ
    exact W.iret (v := r1) hx hb hr (fun t ht hW => ⟨⟨r1, (), rfl, rfl, kEnd ht hP⟩, hS.F ht⟩) hS.2.2 dX5_depth_4
  exact E0 s.heap [] ls hP hD hS hl
def fX5_told (vM : KM) (p1 : Int32) (p2 : Int32) : Option (Int32) := (fX5_isLayer vM p1).bind fun r2 => if r2 = (0 : Int32) then (some (-1000000001 : Int32)) else ((fX5_of vM p1 p2).bind fun r11 => some r11)
set_option maxHeartbeats 4000000 in
set_option maxRecDepth 100000 in
theorem cX5_told_ok (l : Launch) (D : va_G) (ty : kTy) (adM : Nat → Nat) (sz : Nat) (vM : KM) (p1 : Int32) (p2 : Int32) (res : Int32) (h : fX5_told vM p1 p2 = some res) : kMI l yX5_told wsX5_told { frames := 2, cells := 0, slots := 0, locals := 43 } [.ref (adM 0), .int p1, .int p2] D ty (wM ty adM vM) sz res (wM ty adM vM) := by
  refine Met.ofW (cc := cX5_told) (maxL := 3) (ret := (some .int)) (by decide) rfl ?_
  intro p e s m args below meth c s₁ B hml hv
  obtain ⟨rfl, hsz, hP, hK, hD0⟩ := hv
  have hx := B.exec
  have hb := B.bytes
  have hr := B.returns
  have hts := atoms_spec (ws := wsX5_told) B.pre
  have hown : s.vm.findClass RX5 = some m.cls := findClass_of_methodNamed B.named
  have hlocks := B.notSynchronized
  subst hsz
  have hD := hD0.self (sz := s.heap.size)
  generalize hAe : va_A (wM ty adM vM) s.heap.size = A at hD ⊢
  have hA : ∀ q : Nat, s.heap.size ≤ q → A q := fun q h => by rw [← hAe]; exact Or.inr h
  have hS : va_S A s.heap s.heap [] := va_S.rf
  refine kGenW (fun Q hQ => ?_)
  have wf0 := hts (.constant RX5 114 (-1000000001)) (by decide +kernel)
  have hl := lv_entry ([.ref (adM 0), .int p1, .int p2]) (n := 3) (Nat.le_of_ble_eq_true rfl)
  rw [lg_entry_eq]
  generalize (lg_sl ([.ref (adM 0), .int p1, .int p2]) ++ List.replicate (3 - (lg_sl ([.ref (adM 0), .int p1, .int p2])).length) Slot.unset).toArray = ls at hl ⊢
  have hl : lv_has ls 3 [(0, .ref (adM 0)), (1, .int p1), (2, .int p2)] := hl
  unfold fX5_told at h
  have E0 : ∀ (H : Heap) (locs : List Loc) (ls : Array Slot), va_P D vwCl (wM ty adM vM) H → va_D A (wM ty adM vM) → va_S A s.heap H locs → lv_has ls 3 [(0, .ref (adM 0)), (1, .int p1), (2, .int p2)] → W p l e (headSpec wsX5_told { frames := 2, cells := 0, slots := 0, locals := 43 }).room s m ([.ref (adM 0), .int p1, .int p2] : List Value).toArray below meth c H locs 0 0 Q (F0 m 0 ls []) := by
    intro H locs ls hP hD hS hl
    refine lv_aload_n hx hb dX5_told_0 rfl (lv_at hl 0 rfl) ?_
    refine lv_iload_n hx hb dX5_told_1 rfl (lv_at hl 1 rfl) ?_
    obtain ⟨r2, e2, h⟩ := kBd h
    refine kCallVI (As := [.int p1]) (rest := []) (wc := wM ty adM vM) (w1 := wM ty adM vM) (wn := wM ty adM vM) ⟨hx, hb, hml, hown, hts⟩ (cX5_isLayer_ok l D ty adM H.size vM p1 r2 e2) (cwV 1 hts gX5_told_X5_isLayer rfl rfl rfl (by decide +kernel) ⟨Nat.le_of_ble_eq_true rfl, Nat.le_of_ble_eq_true rfl⟩) hP hK hD hS hA [0, 1, 2, 3, 4, 5, 6] (by decide) rfl 5 0 rfl rfl rfl rfl hl.1 rfl (Nat.le_of_ble_eq_true rfl) dX5_told_2 ⟨Nat.le_of_ble_eq_true rfl, Nat.le_of_ble_eq_true rfl⟩ rfl rfl (fun H locs hP hD hS => ?_)
    refine lv_if_eq (tgt := 17) hx hb dX5_told_5 (by decide) (fun c5 => ?_) (fun c5 => ?_)
    · have h := kT h c5
      refine lv_ldc hx hb hown wf0 dX5_told_17 ?_
      obtain rfl := Option.some.inj h
      subst hQ
      exact W.iret (v := (-1000000001 : Int32)) hx hb hr (fun t ht hW => ⟨⟨(-1000000001 : Int32), (), rfl, rfl, kEnd ht hP⟩, hS.F ht⟩) hS.2.2 dX5_told_19
    · have h := kF h c5
      refine lv_aload_n hx hb dX5_told_8 rfl (lv_at hl 0 rfl) ?_
      refine lv_iload_n hx hb dX5_told_9 rfl (lv_at hl 1 rfl) ?_
      refine lv_iload_n hx hb dX5_told_10 rfl (lv_at hl 2 rfl) ?_
      obtain ⟨r11, e11, h⟩ := kBd h
      refine kCallVI (As := [.int p1, .int p2]) (rest := []) (wc := wM ty adM vM) (w1 := wM ty adM vM) (wn := wM ty adM vM) ⟨hx, hb, hml, hown, hts⟩ (cX5_of_ok l D ty adM H.size vM p1 p2 r11 e11) (cwV 2 hts gX5_told_X5_of rfl rfl rfl (by decide +kernel) ⟨Nat.le_of_ble_eq_true rfl, Nat.le_of_ble_eq_true rfl⟩) hP hK hD hS hA [0, 1, 2, 3, 4, 5, 6] (by decide) rfl 5 0 rfl rfl rfl rfl hl.1 rfl (Nat.le_of_ble_eq_true rfl) dX5_told_11 ⟨Nat.le_of_ble_eq_true rfl, Nat.le_of_ble_eq_true rfl⟩ rfl rfl (fun H locs hP hD hS => ?_)
      refine lv_goto (tgt := 19) hx hb dX5_told_14 (by decide) ?_
      obtain rfl := Option.some.inj h
      subst hQ
      exact W.iret (v := r11) hx hb hr (fun t ht hW => ⟨⟨r11, (), rfl, rfl, kEnd ht hP⟩, hS.F ht⟩) hS.2.2 dX5_told_19
  exact E0 s.heap [] ls hP hD hS hl
def fX5_thickness (vM : KM) (p1 : Int32) : Option (Int32) := (fX5_told vM p1 (5 : Int32)).bind fun r3 => some r3
set_option maxHeartbeats 4000000 in
set_option maxRecDepth 100000 in
theorem cX5_thickness_ok (l : Launch) (D : va_G) (ty : kTy) (adM : Nat → Nat) (sz : Nat) (vM : KM) (p1 : Int32) (res : Int32) (h : fX5_thickness vM p1 = some res) : kMI l yX5_thickness wsX5_thickness { frames := 3, cells := 0, slots := 0, locals := 65 } [.ref (adM 0), .int p1] D ty (wM ty adM vM) sz res (wM ty adM vM) := by
  refine Met.ofW (cc := cX5_thickness) (maxL := 2) (ret := (some .int)) (by decide) rfl ?_
  intro p e s m args below meth c s₁ B hml hv
  obtain ⟨rfl, hsz, hP, hK, hD0⟩ := hv
  have hx := B.exec
  have hb := B.bytes
  have hr := B.returns
  have hts := atoms_spec (ws := wsX5_thickness) B.pre
  have hown : s.vm.findClass RX5 = some m.cls := findClass_of_methodNamed B.named
  have hlocks := B.notSynchronized
  subst hsz
  have hD := hD0.self (sz := s.heap.size)
  generalize hAe : va_A (wM ty adM vM) s.heap.size = A at hD ⊢
  have hA : ∀ q : Nat, s.heap.size ≤ q → A q := fun q h => by rw [← hAe]; exact Or.inr h
  have hS : va_S A s.heap s.heap [] := va_S.rf
  refine kGenW (fun Q hQ => ?_)
  have hl := lv_entry ([.ref (adM 0), .int p1]) (n := 2) (Nat.le_of_ble_eq_true rfl)
  rw [lg_entry_eq]
  generalize (lg_sl ([.ref (adM 0), .int p1]) ++ List.replicate (2 - (lg_sl ([.ref (adM 0), .int p1])).length) Slot.unset).toArray = ls at hl ⊢
  have hl : lv_has ls 2 [(0, .ref (adM 0)), (1, .int p1)] := hl
  unfold fX5_thickness at h
  have E0 : ∀ (H : Heap) (locs : List Loc) (ls : Array Slot), va_P D vwCl (wM ty adM vM) H → va_D A (wM ty adM vM) → va_S A s.heap H locs → lv_has ls 2 [(0, .ref (adM 0)), (1, .int p1)] → W p l e (headSpec wsX5_thickness { frames := 3, cells := 0, slots := 0, locals := 65 }).room s m ([.ref (adM 0), .int p1] : List Value).toArray below meth c H locs 0 0 Q (F0 m 0 ls []) := by
    intro H locs ls hP hD hS hl
    refine lv_aload_n hx hb dX5_thickness_0 rfl (lv_at hl 0 rfl) ?_
    refine lv_iload_n hx hb dX5_thickness_1 rfl (lv_at hl 1 rfl) ?_
    refine lv_iconst (v := 5) hx hb dX5_thickness_2 (by decide) ?_
    obtain ⟨r3, e3, h⟩ := kBd h
    refine kCallVI (As := [.int p1, .int (5 : Int32)]) (rest := []) (wc := wM ty adM vM) (w1 := wM ty adM vM) (wn := wM ty adM vM) ⟨hx, hb, hml, hown, hts⟩ (cX5_told_ok l D ty adM H.size vM p1 (5 : Int32) r3 e3) (cwV 2 hts gX5_thickness_X5_told rfl rfl rfl (by decide +kernel) ⟨Nat.le_of_ble_eq_true rfl, Nat.le_of_ble_eq_true rfl⟩) hP hK hD hS hA [0, 1, 2, 3, 4, 5, 6] (by decide) rfl 5 0 rfl rfl rfl rfl hl.1 rfl (Nat.le_of_ble_eq_true rfl) dX5_thickness_3 ⟨Nat.le_of_ble_eq_true rfl, Nat.le_of_ble_eq_true rfl⟩ rfl rfl (fun H locs hP hD hS => ?_)
    obtain rfl := Option.some.inj h
    subst hQ
    exact W.iret (v := r3) hx hb hr (fun t ht hW => ⟨⟨r3, (), rfl, rfl, kEnd ht hP⟩, hS.F ht⟩) hS.2.2 dX5_thickness_6
  exact E0 s.heap [] ls hP hD hS hl
def fX5_accumulation (vM : KM) (p1 : Int32) : Option (Int32) := (fX5_told vM p1 (6 : Int32)).bind fun r4 => some r4
set_option maxHeartbeats 4000000 in
set_option maxRecDepth 100000 in
theorem cX5_accumulation_ok (l : Launch) (D : va_G) (ty : kTy) (adM : Nat → Nat) (sz : Nat) (vM : KM) (p1 : Int32) (res : Int32) (h : fX5_accumulation vM p1 = some res) : kMI l yX5_accumulation wsX5_accumulation { frames := 3, cells := 0, slots := 0, locals := 65 } [.ref (adM 0), .int p1] D ty (wM ty adM vM) sz res (wM ty adM vM) := by
  refine Met.ofW (cc := cX5_accumulation) (maxL := 2) (ret := (some .int)) (by decide) rfl ?_
  intro p e s m args below meth c s₁ B hml hv
  obtain ⟨rfl, hsz, hP, hK, hD0⟩ := hv
  have hx := B.exec
  have hb := B.bytes
  have hr := B.returns
  have hts := atoms_spec (ws := wsX5_accumulation) B.pre
  have hown : s.vm.findClass RX5 = some m.cls := findClass_of_methodNamed B.named
  have hlocks := B.notSynchronized
  subst hsz
  have hD := hD0.self (sz := s.heap.size)
  generalize hAe : va_A (wM ty adM vM) s.heap.size = A at hD ⊢
  have hA : ∀ q : Nat, s.heap.size ≤ q → A q := fun q h => by rw [← hAe]; exact Or.inr h
  have hS : va_S A s.heap s.heap [] := va_S.rf
  refine kGenW (fun Q hQ => ?_)
  have hl := lv_entry ([.ref (adM 0), .int p1]) (n := 2) (Nat.le_of_ble_eq_true rfl)
  rw [lg_entry_eq]
  generalize (lg_sl ([.ref (adM 0), .int p1]) ++ List.replicate (2 - (lg_sl ([.ref (adM 0), .int p1])).length) Slot.unset).toArray = ls at hl ⊢
  have hl : lv_has ls 2 [(0, .ref (adM 0)), (1, .int p1)] := hl
  unfold fX5_accumulation at h
  have E0 : ∀ (H : Heap) (locs : List Loc) (ls : Array Slot), va_P D vwCl (wM ty adM vM) H → va_D A (wM ty adM vM) → va_S A s.heap H locs → lv_has ls 2 [(0, .ref (adM 0)), (1, .int p1)] → W p l e (headSpec wsX5_accumulation { frames := 3, cells := 0, slots := 0, locals := 65 }).room s m ([.ref (adM 0), .int p1] : List Value).toArray below meth c H locs 0 0 Q (F0 m 0 ls []) := by
    intro H locs ls hP hD hS hl
    refine lv_aload_n hx hb dX5_accumulation_0 rfl (lv_at hl 0 rfl) ?_
    refine lv_iload_n hx hb dX5_accumulation_1 rfl (lv_at hl 1 rfl) ?_
    refine lv_bipush (v := 6) hx hb dX5_accumulation_2 (by decide) ?_
    obtain ⟨r4, e4, h⟩ := kBd h
    refine kCallVI (As := [.int p1, .int (6 : Int32)]) (rest := []) (wc := wM ty adM vM) (w1 := wM ty adM vM) (wn := wM ty adM vM) ⟨hx, hb, hml, hown, hts⟩ (cX5_told_ok l D ty adM H.size vM p1 (6 : Int32) r4 e4) (cwV 2 hts gX5_accumulation_X5_told rfl rfl rfl (by decide +kernel) ⟨Nat.le_of_ble_eq_true rfl, Nat.le_of_ble_eq_true rfl⟩) hP hK hD hS hA [0, 1, 2, 3, 4, 5, 6] (by decide) rfl 5 0 rfl rfl rfl rfl hl.1 rfl (Nat.le_of_ble_eq_true rfl) dX5_accumulation_4 ⟨Nat.le_of_ble_eq_true rfl, Nat.le_of_ble_eq_true rfl⟩ rfl rfl (fun H locs hP hD hS => ?_)
    obtain rfl := Option.some.inj h
    subst hQ
    exact W.iret (v := r4) hx hb hr (fun t ht hW => ⟨⟨r4, (), rfl, rfl, kEnd ht hP⟩, hS.F ht⟩) hS.2.2 dX5_accumulation_7
  exact E0 s.heap [] ls hP hD hS hl
def fX5_correction (vM : KM) (p1 : Int32) : Option (Int32) := (fX5_told vM p1 (7 : Int32)).bind fun r4 => some r4
set_option maxHeartbeats 4000000 in
set_option maxRecDepth 100000 in
theorem cX5_correction_ok (l : Launch) (D : va_G) (ty : kTy) (adM : Nat → Nat) (sz : Nat) (vM : KM) (p1 : Int32) (res : Int32) (h : fX5_correction vM p1 = some res) : kMI l yX5_correction wsX5_correction { frames := 3, cells := 0, slots := 0, locals := 65 } [.ref (adM 0), .int p1] D ty (wM ty adM vM) sz res (wM ty adM vM) := by
  refine Met.ofW (cc := cX5_correction) (maxL := 2) (ret := (some .int)) (by decide) rfl ?_
  intro p e s m args below meth c s₁ B hml hv
  obtain ⟨rfl, hsz, hP, hK, hD0⟩ := hv
  have hx := B.exec
  have hb := B.bytes
  have hr := B.returns
  have hts := atoms_spec (ws := wsX5_correction) B.pre
  have hown : s.vm.findClass RX5 = some m.cls := findClass_of_methodNamed B.named
  have hlocks := B.notSynchronized
  subst hsz
  have hD := hD0.self (sz := s.heap.size)
  generalize hAe : va_A (wM ty adM vM) s.heap.size = A at hD ⊢
  have hA : ∀ q : Nat, s.heap.size ≤ q → A q := fun q h => by rw [← hAe]; exact Or.inr h
  have hS : va_S A s.heap s.heap [] := va_S.rf
  refine kGenW (fun Q hQ => ?_)
  have hl := lv_entry ([.ref (adM 0), .int p1]) (n := 2) (Nat.le_of_ble_eq_true rfl)
  rw [lg_entry_eq]
  generalize (lg_sl ([.ref (adM 0), .int p1]) ++ List.replicate (2 - (lg_sl ([.ref (adM 0), .int p1])).length) Slot.unset).toArray = ls at hl ⊢
  have hl : lv_has ls 2 [(0, .ref (adM 0)), (1, .int p1)] := hl
  unfold fX5_correction at h
  have E0 : ∀ (H : Heap) (locs : List Loc) (ls : Array Slot), va_P D vwCl (wM ty adM vM) H → va_D A (wM ty adM vM) → va_S A s.heap H locs → lv_has ls 2 [(0, .ref (adM 0)), (1, .int p1)] → W p l e (headSpec wsX5_correction { frames := 3, cells := 0, slots := 0, locals := 65 }).room s m ([.ref (adM 0), .int p1] : List Value).toArray below meth c H locs 0 0 Q (F0 m 0 ls []) := by
    intro H locs ls hP hD hS hl
    refine lv_aload_n hx hb dX5_correction_0 rfl (lv_at hl 0 rfl) ?_
    refine lv_iload_n hx hb dX5_correction_1 rfl (lv_at hl 1 rfl) ?_
    refine lv_bipush (v := 7) hx hb dX5_correction_2 (by decide) ?_
    obtain ⟨r4, e4, h⟩ := kBd h
    refine kCallVI (As := [.int p1, .int (7 : Int32)]) (rest := []) (wc := wM ty adM vM) (w1 := wM ty adM vM) (wn := wM ty adM vM) ⟨hx, hb, hml, hown, hts⟩ (cX5_told_ok l D ty adM H.size vM p1 (7 : Int32) r4 e4) (cwV 2 hts gX5_correction_X5_told rfl rfl rfl (by decide +kernel) ⟨Nat.le_of_ble_eq_true rfl, Nat.le_of_ble_eq_true rfl⟩) hP hK hD hS hA [0, 1, 2, 3, 4, 5, 6] (by decide) rfl 5 0 rfl rfl rfl rfl hl.1 rfl (Nat.le_of_ble_eq_true rfl) dX5_correction_4 ⟨Nat.le_of_ble_eq_true rfl, Nat.le_of_ble_eq_true rfl⟩ rfl rfl (fun H locs hP hD hS => ?_)
    obtain rfl := Option.some.inj h
    subst hQ
    exact W.iret (v := r4) hx hb hr (fun t ht hW => ⟨⟨r4, (), rfl, rfl, kEnd ht hP⟩, hS.F ht⟩) hS.2.2 dX5_correction_7
  exact E0 s.heap [] ls hP hD hS hl
def fX5_thinning (vM : KM) (p1 : Int32) : Option (Int32) := (fX5_isLayer vM p1).bind fun r2 => if r2 = (0 : Int32) then (some (-1000000001 : Int32)) else ((fX5_thinningOf vM p1).bind fun r10 => some r10)
set_option maxHeartbeats 4000000 in
set_option maxRecDepth 100000 in
theorem cX5_thinning_ok (l : Launch) (D : va_G) (ty : kTy) (adM : Nat → Nat) (sz : Nat) (vM : KM) (p1 : Int32) (res : Int32) (h : fX5_thinning vM p1 = some res) : kMI l yX5_thinning wsX5_thinning { frames := 3, cells := 0, slots := 0, locals := 74 } [.ref (adM 0), .int p1] D ty (wM ty adM vM) sz res (wM ty adM vM) := by
  refine Met.ofW (cc := cX5_thinning) (maxL := 2) (ret := (some .int)) (by decide) rfl ?_
  intro p e s m args below meth c s₁ B hml hv
  obtain ⟨rfl, hsz, hP, hK, hD0⟩ := hv
  have hx := B.exec
  have hb := B.bytes
  have hr := B.returns
  have hts := atoms_spec (ws := wsX5_thinning) B.pre
  have hown : s.vm.findClass RX5 = some m.cls := findClass_of_methodNamed B.named
  have hlocks := B.notSynchronized
  subst hsz
  have hD := hD0.self (sz := s.heap.size)
  generalize hAe : va_A (wM ty adM vM) s.heap.size = A at hD ⊢
  have hA : ∀ q : Nat, s.heap.size ≤ q → A q := fun q h => by rw [← hAe]; exact Or.inr h
  have hS : va_S A s.heap s.heap [] := va_S.rf
  refine kGenW (fun Q hQ => ?_)
  have wf0 := hts (.constant RX5 114 (-1000000001)) (by decide +kernel)
  have hl := lv_entry ([.ref (adM 0), .int p1]) (n := 2) (Nat.le_of_ble_eq_true rfl)
  rw [lg_entry_eq]
  generalize (lg_sl ([.ref (adM 0), .int p1]) ++ List.replicate (2 - (lg_sl ([.ref (adM 0), .int p1])).length) Slot.unset).toArray = ls at hl ⊢
  have hl : lv_has ls 2 [(0, .ref (adM 0)), (1, .int p1)] := hl
  unfold fX5_thinning at h
  have E0 : ∀ (H : Heap) (locs : List Loc) (ls : Array Slot), va_P D vwCl (wM ty adM vM) H → va_D A (wM ty adM vM) → va_S A s.heap H locs → lv_has ls 2 [(0, .ref (adM 0)), (1, .int p1)] → W p l e (headSpec wsX5_thinning { frames := 3, cells := 0, slots := 0, locals := 74 }).room s m ([.ref (adM 0), .int p1] : List Value).toArray below meth c H locs 0 0 Q (F0 m 0 ls []) := by
    intro H locs ls hP hD hS hl
    refine lv_aload_n hx hb dX5_thinning_0 rfl (lv_at hl 0 rfl) ?_
    refine lv_iload_n hx hb dX5_thinning_1 rfl (lv_at hl 1 rfl) ?_
    obtain ⟨r2, e2, h⟩ := kBd h
    refine kCallVI (As := [.int p1]) (rest := []) (wc := wM ty adM vM) (w1 := wM ty adM vM) (wn := wM ty adM vM) ⟨hx, hb, hml, hown, hts⟩ (cX5_isLayer_ok l D ty adM H.size vM p1 r2 e2) (cwV 1 hts gX5_thinning_X5_isLayer rfl rfl rfl (by decide +kernel) ⟨Nat.le_of_ble_eq_true rfl, Nat.le_of_ble_eq_true rfl⟩) hP hK hD hS hA [0, 1, 2, 3, 4, 5, 6] (by decide) rfl 5 0 rfl rfl rfl rfl hl.1 rfl (Nat.le_of_ble_eq_true rfl) dX5_thinning_2 ⟨Nat.le_of_ble_eq_true rfl, Nat.le_of_ble_eq_true rfl⟩ rfl rfl (fun H locs hP hD hS => ?_)
    refine lv_if_eq (tgt := 16) hx hb dX5_thinning_5 (by decide) (fun c5 => ?_) (fun c5 => ?_)
    · have h := kT h c5
      refine lv_ldc hx hb hown wf0 dX5_thinning_16 ?_
      obtain rfl := Option.some.inj h
      subst hQ
      exact W.iret (v := (-1000000001 : Int32)) hx hb hr (fun t ht hW => ⟨⟨(-1000000001 : Int32), (), rfl, rfl, kEnd ht hP⟩, hS.F ht⟩) hS.2.2 dX5_thinning_18
    · have h := kF h c5
      refine lv_aload_n hx hb dX5_thinning_8 rfl (lv_at hl 0 rfl) ?_
      refine lv_iload_n hx hb dX5_thinning_9 rfl (lv_at hl 1 rfl) ?_
      obtain ⟨r10, e10, h⟩ := kBd h
      refine kCallVI (As := [.int p1]) (rest := []) (wc := wM ty adM vM) (w1 := wM ty adM vM) (wn := wM ty adM vM) ⟨hx, hb, hml, hown, hts⟩ (cX5_thinningOf_ok l D ty adM H.size vM p1 r10 e10) (cwV 1 hts gX5_thinning_X5_thinningOf rfl rfl rfl (by decide +kernel) ⟨Nat.le_of_ble_eq_true rfl, Nat.le_of_ble_eq_true rfl⟩) hP hK hD hS hA [0, 1, 2, 3, 4, 5, 6] (by decide) rfl 5 0 rfl rfl rfl rfl hl.1 rfl (Nat.le_of_ble_eq_true rfl) dX5_thinning_10 ⟨Nat.le_of_ble_eq_true rfl, Nat.le_of_ble_eq_true rfl⟩ rfl rfl (fun H locs hP hD hS => ?_)
      refine lv_goto (tgt := 18) hx hb dX5_thinning_13 (by decide) ?_
      obtain rfl := Option.some.inj h
      subst hQ
      exact W.iret (v := r10) hx hb hr (fun t ht hW => ⟨⟨r10, (), rfl, rfl, kEnd ht hP⟩, hS.F ht⟩) hS.2.2 dX5_thinning_18
  exact E0 s.heap [] ls hP hD hS hl
def fX5_years (vM : KM) (p1 : Int32) : Option (Int32) := (fX5_isLayer vM p1).bind fun r2 => if r2 = (0 : Int32) then (some (-1000000001 : Int32)) else ((fX5_yearsOf vM p1).bind fun r10 => some r10)
set_option maxHeartbeats 4000000 in
set_option maxRecDepth 100000 in
theorem cX5_years_ok (l : Launch) (D : va_G) (ty : kTy) (adM : Nat → Nat) (sz : Nat) (vM : KM) (p1 : Int32) (res : Int32) (h : fX5_years vM p1 = some res) : kMI l yX5_years wsX5_years { frames := 4, cells := 0, slots := 0, locals := 95 } [.ref (adM 0), .int p1] D ty (wM ty adM vM) sz res (wM ty adM vM) := by
  refine Met.ofW (cc := cX5_years) (maxL := 2) (ret := (some .int)) (by decide) rfl ?_
  intro p e s m args below meth c s₁ B hml hv
  obtain ⟨rfl, hsz, hP, hK, hD0⟩ := hv
  have hx := B.exec
  have hb := B.bytes
  have hr := B.returns
  have hts := atoms_spec (ws := wsX5_years) B.pre
  have hown : s.vm.findClass RX5 = some m.cls := findClass_of_methodNamed B.named
  have hlocks := B.notSynchronized
  subst hsz
  have hD := hD0.self (sz := s.heap.size)
  generalize hAe : va_A (wM ty adM vM) s.heap.size = A at hD ⊢
  have hA : ∀ q : Nat, s.heap.size ≤ q → A q := fun q h => by rw [← hAe]; exact Or.inr h
  have hS : va_S A s.heap s.heap [] := va_S.rf
  refine kGenW (fun Q hQ => ?_)
  have wf0 := hts (.constant RX5 114 (-1000000001)) (by decide +kernel)
  have hl := lv_entry ([.ref (adM 0), .int p1]) (n := 2) (Nat.le_of_ble_eq_true rfl)
  rw [lg_entry_eq]
  generalize (lg_sl ([.ref (adM 0), .int p1]) ++ List.replicate (2 - (lg_sl ([.ref (adM 0), .int p1])).length) Slot.unset).toArray = ls at hl ⊢
  have hl : lv_has ls 2 [(0, .ref (adM 0)), (1, .int p1)] := hl
  unfold fX5_years at h
  have E0 : ∀ (H : Heap) (locs : List Loc) (ls : Array Slot), va_P D vwCl (wM ty adM vM) H → va_D A (wM ty adM vM) → va_S A s.heap H locs → lv_has ls 2 [(0, .ref (adM 0)), (1, .int p1)] → W p l e (headSpec wsX5_years { frames := 4, cells := 0, slots := 0, locals := 95 }).room s m ([.ref (adM 0), .int p1] : List Value).toArray below meth c H locs 0 0 Q (F0 m 0 ls []) := by
    intro H locs ls hP hD hS hl
    refine lv_aload_n hx hb dX5_years_0 rfl (lv_at hl 0 rfl) ?_
    refine lv_iload_n hx hb dX5_years_1 rfl (lv_at hl 1 rfl) ?_
    obtain ⟨r2, e2, h⟩ := kBd h
    refine kCallVI (As := [.int p1]) (rest := []) (wc := wM ty adM vM) (w1 := wM ty adM vM) (wn := wM ty adM vM) ⟨hx, hb, hml, hown, hts⟩ (cX5_isLayer_ok l D ty adM H.size vM p1 r2 e2) (cwV 1 hts gX5_years_X5_isLayer rfl rfl rfl (by decide +kernel) ⟨Nat.le_of_ble_eq_true rfl, Nat.le_of_ble_eq_true rfl⟩) hP hK hD hS hA [0, 1, 2, 3, 4, 5, 6] (by decide) rfl 5 0 rfl rfl rfl rfl hl.1 rfl (Nat.le_of_ble_eq_true rfl) dX5_years_2 ⟨Nat.le_of_ble_eq_true rfl, Nat.le_of_ble_eq_true rfl⟩ rfl rfl (fun H locs hP hD hS => ?_)
    refine lv_if_eq (tgt := 16) hx hb dX5_years_5 (by decide) (fun c5 => ?_) (fun c5 => ?_)
    · have h := kT h c5
      refine lv_ldc hx hb hown wf0 dX5_years_16 ?_
      obtain rfl := Option.some.inj h
      subst hQ
      exact W.iret (v := (-1000000001 : Int32)) hx hb hr (fun t ht hW => ⟨⟨(-1000000001 : Int32), (), rfl, rfl, kEnd ht hP⟩, hS.F ht⟩) hS.2.2 dX5_years_18
    · have h := kF h c5
      refine lv_aload_n hx hb dX5_years_8 rfl (lv_at hl 0 rfl) ?_
      refine lv_iload_n hx hb dX5_years_9 rfl (lv_at hl 1 rfl) ?_
      obtain ⟨r10, e10, h⟩ := kBd h
      refine kCallVI (As := [.int p1]) (rest := []) (wc := wM ty adM vM) (w1 := wM ty adM vM) (wn := wM ty adM vM) ⟨hx, hb, hml, hown, hts⟩ (cX5_yearsOf_ok l D ty adM H.size vM p1 r10 e10) (cwV 1 hts gX5_years_X5_yearsOf rfl rfl rfl (by decide +kernel) ⟨Nat.le_of_ble_eq_true rfl, Nat.le_of_ble_eq_true rfl⟩) hP hK hD hS hA [0, 1, 2, 3, 4, 5, 6] (by decide) rfl 5 0 rfl rfl rfl rfl hl.1 rfl (Nat.le_of_ble_eq_true rfl) dX5_years_10 ⟨Nat.le_of_ble_eq_true rfl, Nat.le_of_ble_eq_true rfl⟩ rfl rfl (fun H locs hP hD hS => ?_)
      refine lv_goto (tgt := 18) hx hb dX5_years_13 (by decide) ?_
      obtain rfl := Option.some.inj h
      subst hQ
      exact W.iret (v := r10) hx hb hr (fun t ht hW => ⟨⟨r10, (), rfl, rfl, kEnd ht hP⟩, hS.F ht⟩) hS.2.2 dX5_years_18
  exact E0 s.heap [] ls hP hD hS hl
def fX5_delay (vM : KM) (p1 : Int32) : Option (Int32) := (fX5_isLayer vM p1).bind fun r2 => if r2 = (0 : Int32) then (some (-1000000001 : Int32)) else ((fX5_delayOf vM p1).bind fun r10 => some r10)
set_option maxHeartbeats 4000000 in
set_option maxRecDepth 100000 in
theorem cX5_delay_ok (l : Launch) (D : va_G) (ty : kTy) (adM : Nat → Nat) (sz : Nat) (vM : KM) (p1 : Int32) (res : Int32) (h : fX5_delay vM p1 = some res) : kMI l yX5_delay wsX5_delay { frames := 2, cells := 0, slots := 0, locals := 43 } [.ref (adM 0), .int p1] D ty (wM ty adM vM) sz res (wM ty adM vM) := by
  refine Met.ofW (cc := cX5_delay) (maxL := 2) (ret := (some .int)) (by decide) rfl ?_
  intro p e s m args below meth c s₁ B hml hv
  obtain ⟨rfl, hsz, hP, hK, hD0⟩ := hv
  have hx := B.exec
  have hb := B.bytes
  have hr := B.returns
  have hts := atoms_spec (ws := wsX5_delay) B.pre
  have hown : s.vm.findClass RX5 = some m.cls := findClass_of_methodNamed B.named
  have hlocks := B.notSynchronized
  subst hsz
  have hD := hD0.self (sz := s.heap.size)
  generalize hAe : va_A (wM ty adM vM) s.heap.size = A at hD ⊢
  have hA : ∀ q : Nat, s.heap.size ≤ q → A q := fun q h => by rw [← hAe]; exact Or.inr h
  have hS : va_S A s.heap s.heap [] := va_S.rf
  refine kGenW (fun Q hQ => ?_)
  have wf0 := hts (.constant RX5 114 (-1000000001)) (by decide +kernel)
  have hl := lv_entry ([.ref (adM 0), .int p1]) (n := 2) (Nat.le_of_ble_eq_true rfl)
  rw [lg_entry_eq]
  generalize (lg_sl ([.ref (adM 0), .int p1]) ++ List.replicate (2 - (lg_sl ([.ref (adM 0), .int p1])).length) Slot.unset).toArray = ls at hl ⊢
  have hl : lv_has ls 2 [(0, .ref (adM 0)), (1, .int p1)] := hl
  unfold fX5_delay at h
  have E0 : ∀ (H : Heap) (locs : List Loc) (ls : Array Slot), va_P D vwCl (wM ty adM vM) H → va_D A (wM ty adM vM) → va_S A s.heap H locs → lv_has ls 2 [(0, .ref (adM 0)), (1, .int p1)] → W p l e (headSpec wsX5_delay { frames := 2, cells := 0, slots := 0, locals := 43 }).room s m ([.ref (adM 0), .int p1] : List Value).toArray below meth c H locs 0 0 Q (F0 m 0 ls []) := by
    intro H locs ls hP hD hS hl
    refine lv_aload_n hx hb dX5_delay_0 rfl (lv_at hl 0 rfl) ?_
    refine lv_iload_n hx hb dX5_delay_1 rfl (lv_at hl 1 rfl) ?_
    obtain ⟨r2, e2, h⟩ := kBd h
    refine kCallVI (As := [.int p1]) (rest := []) (wc := wM ty adM vM) (w1 := wM ty adM vM) (wn := wM ty adM vM) ⟨hx, hb, hml, hown, hts⟩ (cX5_isLayer_ok l D ty adM H.size vM p1 r2 e2) (cwV 1 hts gX5_delay_X5_isLayer rfl rfl rfl (by decide +kernel) ⟨Nat.le_of_ble_eq_true rfl, Nat.le_of_ble_eq_true rfl⟩) hP hK hD hS hA [0, 1, 2, 3, 4, 5, 6] (by decide) rfl 5 0 rfl rfl rfl rfl hl.1 rfl (Nat.le_of_ble_eq_true rfl) dX5_delay_2 ⟨Nat.le_of_ble_eq_true rfl, Nat.le_of_ble_eq_true rfl⟩ rfl rfl (fun H locs hP hD hS => ?_)
    refine lv_if_eq (tgt := 16) hx hb dX5_delay_5 (by decide) (fun c5 => ?_) (fun c5 => ?_)
    · have h := kT h c5
      refine lv_ldc hx hb hown wf0 dX5_delay_16 ?_
      obtain rfl := Option.some.inj h
      subst hQ
      exact W.iret (v := (-1000000001 : Int32)) hx hb hr (fun t ht hW => ⟨⟨(-1000000001 : Int32), (), rfl, rfl, kEnd ht hP⟩, hS.F ht⟩) hS.2.2 dX5_delay_18
    · have h := kF h c5
      refine lv_aload_n hx hb dX5_delay_8 rfl (lv_at hl 0 rfl) ?_
      refine lv_iload_n hx hb dX5_delay_9 rfl (lv_at hl 1 rfl) ?_
      obtain ⟨r10, e10, h⟩ := kBd h
      refine kCallVI (As := [.int p1]) (rest := []) (wc := wM ty adM vM) (w1 := wM ty adM vM) (wn := wM ty adM vM) ⟨hx, hb, hml, hown, hts⟩ (cX5_delayOf_ok l D ty adM H.size vM p1 r10 e10) (cwV 1 hts gX5_delay_X5_delayOf rfl rfl rfl (by decide +kernel) ⟨Nat.le_of_ble_eq_true rfl, Nat.le_of_ble_eq_true rfl⟩) hP hK hD hS hA [0, 1, 2, 3, 4, 5, 6] (by decide) rfl 5 0 rfl rfl rfl rfl hl.1 rfl (Nat.le_of_ble_eq_true rfl) dX5_delay_10 ⟨Nat.le_of_ble_eq_true rfl, Nat.le_of_ble_eq_true rfl⟩ rfl rfl (fun H locs hP hD hS => ?_)
      refine lv_goto (tgt := 18) hx hb dX5_delay_13 (by decide) ?_
      obtain rfl := Option.some.inj h
      subst hQ
      exact W.iret (v := r10) hx hb hr (fun t ht hW => ⟨⟨r10, (), rfl, rfl, kEnd ht hP⟩, hS.F ht⟩) hS.2.2 dX5_delay_18
  exact E0 s.heap [] ls hP hD hS hl
def fX5_residual (vM : KM) (p1 : Int32) : Option (Int32) := (fX5_isLayer vM p1).bind fun r2 => if ¬ r2 = (0 : Int32) then ((fX5_of vM p1 (9 : Int32)).bind fun r17 => if ¬ r17 = (1 : Int32) then (some (-1000000005 : Int32)) else ((fX5_residualOf vM p1).bind fun r26 => some r26)) else (some (-1000000001 : Int32))
set_option maxHeartbeats 4000000 in
set_option maxRecDepth 100000 in
theorem cX5_residual_ok (l : Launch) (D : va_G) (ty : kTy) (adM : Nat → Nat) (sz : Nat) (vM : KM) (p1 : Int32) (res : Int32) (h : fX5_residual vM p1 = some res) : kMI l yX5_residual wsX5_residual { frames := 6, cells := 0, slots := 0, locals := 139 } [.ref (adM 0), .int p1] D ty (wM ty adM vM) sz res (wM ty adM vM) := by
  refine Met.ofW (cc := cX5_residual) (maxL := 2) (ret := (some .int)) (by decide) rfl ?_
  intro p e s m args below meth c s₁ B hml hv
  obtain ⟨rfl, hsz, hP, hK, hD0⟩ := hv
  have hx := B.exec
  have hb := B.bytes
  have hr := B.returns
  have hts := atoms_spec (ws := wsX5_residual) B.pre
  have hown : s.vm.findClass RX5 = some m.cls := findClass_of_methodNamed B.named
  have hlocks := B.notSynchronized
  subst hsz
  have hD := hD0.self (sz := s.heap.size)
  generalize hAe : va_A (wM ty adM vM) s.heap.size = A at hD ⊢
  have hA : ∀ q : Nat, s.heap.size ≤ q → A q := fun q h => by rw [← hAe]; exact Or.inr h
  have hS : va_S A s.heap s.heap [] := va_S.rf
  refine kGenW (fun Q hQ => ?_)
  have wf0 := hts (.constant RX5 22 (-1000000005)) (by decide +kernel)
  have wf1 := hts (.constant RX5 114 (-1000000001)) (by decide +kernel)
  have hl := lv_entry ([.ref (adM 0), .int p1]) (n := 2) (Nat.le_of_ble_eq_true rfl)
  rw [lg_entry_eq]
  generalize (lg_sl ([.ref (adM 0), .int p1]) ++ List.replicate (2 - (lg_sl ([.ref (adM 0), .int p1])).length) Slot.unset).toArray = ls at hl ⊢
  have hl : lv_has ls 2 [(0, .ref (adM 0)), (1, .int p1)] := hl
  unfold fX5_residual at h
  have E0 : ∀ (H : Heap) (locs : List Loc) (ls : Array Slot), va_P D vwCl (wM ty adM vM) H → va_D A (wM ty adM vM) → va_S A s.heap H locs → lv_has ls 2 [(0, .ref (adM 0)), (1, .int p1)] → W p l e (headSpec wsX5_residual { frames := 6, cells := 0, slots := 0, locals := 139 }).room s m ([.ref (adM 0), .int p1] : List Value).toArray below meth c H locs 0 0 Q (F0 m 0 ls []) := by
    intro H locs ls hP hD hS hl
    refine lv_aload_n hx hb dX5_residual_0 rfl (lv_at hl 0 rfl) ?_
    refine lv_iload_n hx hb dX5_residual_1 rfl (lv_at hl 1 rfl) ?_
    obtain ⟨r2, e2, h⟩ := kBd h
    refine kCallVI (As := [.int p1]) (rest := []) (wc := wM ty adM vM) (w1 := wM ty adM vM) (wn := wM ty adM vM) ⟨hx, hb, hml, hown, hts⟩ (cX5_isLayer_ok l D ty adM H.size vM p1 r2 e2) (cwV 1 hts gX5_residual_X5_isLayer rfl rfl rfl (by decide +kernel) ⟨Nat.le_of_ble_eq_true rfl, Nat.le_of_ble_eq_true rfl⟩) hP hK hD hS hA [0, 1, 2, 3, 4, 5, 6] (by decide) rfl 5 0 rfl rfl rfl rfl hl.1 rfl (Nat.le_of_ble_eq_true rfl) dX5_residual_2 ⟨Nat.le_of_ble_eq_true rfl, Nat.le_of_ble_eq_true rfl⟩ rfl rfl (fun H locs hP hD hS => ?_)
    refine lv_if_ne (tgt := 13) hx hb dX5_residual_5 (by decide) (fun c5 => ?_) (fun c5 => ?_)
    · have h := kT h c5
      refine lv_aload_n hx hb dX5_residual_13 rfl (lv_at hl 0 rfl) ?_
      refine lv_iload_n hx hb dX5_residual_14 rfl (lv_at hl 1 rfl) ?_
      refine lv_bipush (v := 9) hx hb dX5_residual_15 (by decide) ?_
      obtain ⟨r17, e17, h⟩ := kBd h
      refine kCallVI (As := [.int p1, .int (9 : Int32)]) (rest := []) (wc := wM ty adM vM) (w1 := wM ty adM vM) (wn := wM ty adM vM) ⟨hx, hb, hml, hown, hts⟩ (cX5_of_ok l D ty adM H.size vM p1 (9 : Int32) r17 e17) (cwV 2 hts gX5_residual_X5_of rfl rfl rfl (by decide +kernel) ⟨Nat.le_of_ble_eq_true rfl, Nat.le_of_ble_eq_true rfl⟩) hP hK hD hS hA [0, 1, 2, 3, 4, 5, 6] (by decide) rfl 5 0 rfl rfl rfl rfl hl.1 rfl (Nat.le_of_ble_eq_true rfl) dX5_residual_17 ⟨Nat.le_of_ble_eq_true rfl, Nat.le_of_ble_eq_true rfl⟩ rfl rfl (fun H locs hP hD hS => ?_)
      refine lv_iconst (v := 1) hx hb dX5_residual_20 (by decide) ?_
      refine lv_icmp_ne (tgt := 32) hx hb dX5_residual_21 (by decide) (fun c21 => ?_) (fun c21 => ?_)
      · have h := kT h c21
        refine lv_ldc hx hb hown wf0 dX5_residual_32 ?_
        obtain rfl := Option.some.inj h
        subst hQ
        exact W.iret (v := (-1000000005 : Int32)) hx hb hr (fun t ht hW => ⟨⟨(-1000000005 : Int32), (), rfl, rfl, kEnd ht hP⟩, hS.F ht⟩) hS.2.2 dX5_residual_34
      · have h := kF h (fun z => z c21)
        refine lv_aload_n hx hb dX5_residual_24 rfl (lv_at hl 0 rfl) ?_
        refine lv_iload_n hx hb dX5_residual_25 rfl (lv_at hl 1 rfl) ?_
        obtain ⟨r26, e26, h⟩ := kBd h
        refine kCallVI (As := [.int p1]) (rest := []) (wc := wM ty adM vM) (w1 := wM ty adM vM) (wn := wM ty adM vM) ⟨hx, hb, hml, hown, hts⟩ (cX5_residualOf_ok l D ty adM H.size vM p1 r26 e26) (cwV 1 hts gX5_residual_X5_residualOf rfl rfl rfl (by decide +kernel) ⟨Nat.le_of_ble_eq_true rfl, Nat.le_of_ble_eq_true rfl⟩) hP hK hD hS hA [0, 1, 2, 3, 4, 5, 6] (by decide) rfl 5 0 rfl rfl rfl rfl hl.1 rfl (Nat.le_of_ble_eq_true rfl) dX5_residual_26 ⟨Nat.le_of_ble_eq_true rfl, Nat.le_of_ble_eq_true rfl⟩ rfl rfl (fun H locs hP hD hS => ?_)
        refine lv_goto (tgt := 34) hx hb dX5_residual_29 (by decide) ?_
        obtain rfl := Option.some.inj h
        subst hQ
        exact W.iret (v := r26) hx hb hr (fun t ht hW => ⟨⟨r26, (), rfl, rfl, kEnd ht hP⟩, hS.F ht⟩) hS.2.2 dX5_residual_34
    · have h := kF h (fun z => z c5)
      refine lv_ldc hx hb hown wf1 dX5_residual_8 ?_
      refine lv_goto (tgt := 34) hx hb dX5_residual_10 (by decide) ?_
      obtain rfl := Option.some.inj h
      subst hQ
      exact W.iret (v := (-1000000001 : Int32)) hx hb hr (fun t ht hW => ⟨⟨(-1000000001 : Int32), (), rfl, rfl, kEnd ht hP⟩, hS.F ht⟩) hS.2.2 dX5_residual_34
  exact E0 s.heap [] ls hP hD hS hl
def fX5_countError (vM : KM) (p1 : Int32) : Option (Int32) := (fX5_isLayer vM p1).bind fun r2 => if ¬ r2 = (0 : Int32) then ((fX5_of vM p1 (12 : Int32)).bind fun r17 => if r17 ≤ (0 : Int32) then (some (-1000000005 : Int32)) else ((fX5_yearsOf vM p1).bind fun r25 => (fX5_of vM p1 (12 : Int32)).bind fun r32 => some (r25 - r32))) else (some (-1000000001 : Int32))
set_option maxHeartbeats 4000000 in
set_option maxRecDepth 100000 in
theorem cX5_countError_ok (l : Launch) (D : va_G) (ty : kTy) (adM : Nat → Nat) (sz : Nat) (vM : KM) (p1 : Int32) (res : Int32) (h : fX5_countError vM p1 = some res) : kMI l yX5_countError wsX5_countError { frames := 4, cells := 0, slots := 0, locals := 95 } [.ref (adM 0), .int p1] D ty (wM ty adM vM) sz res (wM ty adM vM) := by
  refine Met.ofW (cc := cX5_countError) (maxL := 2) (ret := (some .int)) (by decide) rfl ?_
  intro p e s m args below meth c s₁ B hml hv
  obtain ⟨rfl, hsz, hP, hK, hD0⟩ := hv
  have hx := B.exec
  have hb := B.bytes
  have hr := B.returns
  have hts := atoms_spec (ws := wsX5_countError) B.pre
  have hown : s.vm.findClass RX5 = some m.cls := findClass_of_methodNamed B.named
  have hlocks := B.notSynchronized
  subst hsz
  have hD := hD0.self (sz := s.heap.size)
  generalize hAe : va_A (wM ty adM vM) s.heap.size = A at hD ⊢
  have hA : ∀ q : Nat, s.heap.size ≤ q → A q := fun q h => by rw [← hAe]; exact Or.inr h
  have hS : va_S A s.heap s.heap [] := va_S.rf
  refine kGenW (fun Q hQ => ?_)
  have wf0 := hts (.constant RX5 22 (-1000000005)) (by decide +kernel)
  have wf1 := hts (.constant RX5 114 (-1000000001)) (by decide +kernel)
  have hl := lv_entry ([.ref (adM 0), .int p1]) (n := 2) (Nat.le_of_ble_eq_true rfl)
  rw [lg_entry_eq]
  generalize (lg_sl ([.ref (adM 0), .int p1]) ++ List.replicate (2 - (lg_sl ([.ref (adM 0), .int p1])).length) Slot.unset).toArray = ls at hl ⊢
  have hl : lv_has ls 2 [(0, .ref (adM 0)), (1, .int p1)] := hl
  unfold fX5_countError at h
  have E0 : ∀ (H : Heap) (locs : List Loc) (ls : Array Slot), va_P D vwCl (wM ty adM vM) H → va_D A (wM ty adM vM) → va_S A s.heap H locs → lv_has ls 2 [(0, .ref (adM 0)), (1, .int p1)] → W p l e (headSpec wsX5_countError { frames := 4, cells := 0, slots := 0, locals := 95 }).room s m ([.ref (adM 0), .int p1] : List Value).toArray below meth c H locs 0 0 Q (F0 m 0 ls []) := by
    intro H locs ls hP hD hS hl
    refine lv_aload_n hx hb dX5_countError_0 rfl (lv_at hl 0 rfl) ?_
    refine lv_iload_n hx hb dX5_countError_1 rfl (lv_at hl 1 rfl) ?_
    obtain ⟨r2, e2, h⟩ := kBd h
    refine kCallVI (As := [.int p1]) (rest := []) (wc := wM ty adM vM) (w1 := wM ty adM vM) (wn := wM ty adM vM) ⟨hx, hb, hml, hown, hts⟩ (cX5_isLayer_ok l D ty adM H.size vM p1 r2 e2) (cwV 1 hts gX5_countError_X5_isLayer rfl rfl rfl (by decide +kernel) ⟨Nat.le_of_ble_eq_true rfl, Nat.le_of_ble_eq_true rfl⟩) hP hK hD hS hA [0, 1, 2, 3, 4, 5, 6] (by decide) rfl 5 0 rfl rfl rfl rfl hl.1 rfl (Nat.le_of_ble_eq_true rfl) dX5_countError_2 ⟨Nat.le_of_ble_eq_true rfl, Nat.le_of_ble_eq_true rfl⟩ rfl rfl (fun H locs hP hD hS => ?_)
    refine lv_if_ne (tgt := 13) hx hb dX5_countError_5 (by decide) (fun c5 => ?_) (fun c5 => ?_)
    · have h := kT h c5
      refine lv_aload_n hx hb dX5_countError_13 rfl (lv_at hl 0 rfl) ?_
      refine lv_iload_n hx hb dX5_countError_14 rfl (lv_at hl 1 rfl) ?_
      refine lv_bipush (v := 12) hx hb dX5_countError_15 (by decide) ?_
      obtain ⟨r17, e17, h⟩ := kBd h
      refine kCallVI (As := [.int p1, .int (12 : Int32)]) (rest := []) (wc := wM ty adM vM) (w1 := wM ty adM vM) (wn := wM ty adM vM) ⟨hx, hb, hml, hown, hts⟩ (cX5_of_ok l D ty adM H.size vM p1 (12 : Int32) r17 e17) (cwV 2 hts gX5_countError_X5_of rfl rfl rfl (by decide +kernel) ⟨Nat.le_of_ble_eq_true rfl, Nat.le_of_ble_eq_true rfl⟩) hP hK hD hS hA [0, 1, 2, 3, 4, 5, 6] (by decide) rfl 5 0 rfl rfl rfl rfl hl.1 rfl (Nat.le_of_ble_eq_true rfl) dX5_countError_17 ⟨Nat.le_of_ble_eq_true rfl, Nat.le_of_ble_eq_true rfl⟩ rfl rfl (fun H locs hP hD hS => ?_)
      refine lv_if_le (tgt := 39) hx hb dX5_countError_20 (by decide) (fun c20 => ?_) (fun c20 => ?_)
      · have h := kT h c20
        refine lv_ldc hx hb hown wf0 dX5_countError_39 ?_
        obtain rfl := Option.some.inj h
        subst hQ
        exact W.iret (v := (-1000000005 : Int32)) hx hb hr (fun t ht hW => ⟨⟨(-1000000005 : Int32), (), rfl, rfl, kEnd ht hP⟩, hS.F ht⟩) hS.2.2 dX5_countError_41
      · have h := kF h c20
        refine lv_aload_n hx hb dX5_countError_23 rfl (lv_at hl 0 rfl) ?_
        refine lv_iload_n hx hb dX5_countError_24 rfl (lv_at hl 1 rfl) ?_
        obtain ⟨r25, e25, h⟩ := kBd h
        refine kCallVI (As := [.int p1]) (rest := []) (wc := wM ty adM vM) (w1 := wM ty adM vM) (wn := wM ty adM vM) ⟨hx, hb, hml, hown, hts⟩ (cX5_yearsOf_ok l D ty adM H.size vM p1 r25 e25) (cwV 1 hts gX5_countError_X5_yearsOf rfl rfl rfl (by decide +kernel) ⟨Nat.le_of_ble_eq_true rfl, Nat.le_of_ble_eq_true rfl⟩) hP hK hD hS hA [0, 1, 2, 3, 4, 5, 6] (by decide) rfl 5 0 rfl rfl rfl rfl hl.1 rfl (Nat.le_of_ble_eq_true rfl) dX5_countError_25 ⟨Nat.le_of_ble_eq_true rfl, Nat.le_of_ble_eq_true rfl⟩ rfl rfl (fun H locs hP hD hS => ?_)
        refine lv_aload_n hx hb dX5_countError_28 rfl (lv_at hl 0 rfl) ?_
        refine lv_iload_n hx hb dX5_countError_29 rfl (lv_at hl 1 rfl) ?_
        refine lv_bipush (v := 12) hx hb dX5_countError_30 (by decide) ?_
        obtain ⟨r32, e32, h⟩ := kBd h
        refine kCallVI (As := [.int p1, .int (12 : Int32)]) (rest := [.int r25]) (wc := wM ty adM vM) (w1 := wM ty adM vM) (wn := wM ty adM vM) ⟨hx, hb, hml, hown, hts⟩ (cX5_of_ok l D ty adM H.size vM p1 (12 : Int32) r32 e32) (cwV 2 hts gX5_countError_X5_of rfl rfl rfl (by decide +kernel) ⟨Nat.le_of_ble_eq_true rfl, Nat.le_of_ble_eq_true rfl⟩) hP hK hD hS hA [0, 1, 2, 3, 4, 5, 6] (by decide) rfl 5 0 rfl rfl rfl rfl hl.1 rfl (Nat.le_of_ble_eq_true rfl) dX5_countError_32 ⟨Nat.le_of_ble_eq_true rfl, Nat.le_of_ble_eq_true rfl⟩ rfl rfl (fun H locs hP hD hS => ?_)
        refine lv_isub hx hb dX5_countError_35 ?_
        refine lv_goto (tgt := 41) hx hb dX5_countError_36 (by decide) ?_
        obtain rfl := Option.some.inj h
        subst hQ
        exact W.iret (v := (r25 - r32)) hx hb hr (fun t ht hW => ⟨⟨(r25 - r32), (), rfl, rfl, kEnd ht hP⟩, hS.F ht⟩) hS.2.2 dX5_countError_41
    · have h := kF h (fun z => z c5)
      refine lv_ldc hx hb hown wf1 dX5_countError_8 ?_
      refine lv_goto (tgt := 41) hx hb dX5_countError_10 (by decide) ?_
      obtain rfl := Option.some.inj h
      subst hQ
      exact W.iret (v := (-1000000001 : Int32)) hx hb hr (fun t ht hW => ⟨⟨(-1000000001 : Int32), (), rfl, rfl, kEnd ht hP⟩, hS.F ht⟩) hS.2.2 dX5_countError_41
  exact E0 s.heap [] ls hP hD hS hl
def fX5_fitting (vM : KM) : Option (Int32) := (fX5_fits vM).bind fun r1 => some r1
set_option maxHeartbeats 4000000 in
set_option maxRecDepth 100000 in
theorem cX5_fitting_ok (l : Launch) (D : va_G) (ty : kTy) (adM : Nat → Nat) (sz : Nat) (vM : KM) (res : Int32) (h : fX5_fitting vM = some res) : kMI l yX5_fitting wsX5_fitting { frames := 7, cells := 0, slots := 0, locals := 161 } [.ref (adM 0)] D ty (wM ty adM vM) sz res (wM ty adM vM) := by
  refine Met.ofW (cc := cX5_fitting) (maxL := 1) (ret := (some .int)) (by decide) rfl ?_
  intro p e s m args below meth c s₁ B hml hv
  obtain ⟨rfl, hsz, hP, hK, hD0⟩ := hv
  have hx := B.exec
  have hb := B.bytes
  have hr := B.returns
  have hts := atoms_spec (ws := wsX5_fitting) B.pre
  have hown : s.vm.findClass RX5 = some m.cls := findClass_of_methodNamed B.named
  have hlocks := B.notSynchronized
  subst hsz
  have hD := hD0.self (sz := s.heap.size)
  generalize hAe : va_A (wM ty adM vM) s.heap.size = A at hD ⊢
  have hA : ∀ q : Nat, s.heap.size ≤ q → A q := fun q h => by rw [← hAe]; exact Or.inr h
  have hS : va_S A s.heap s.heap [] := va_S.rf
  refine kGenW (fun Q hQ => ?_)
  have hl := lv_entry ([.ref (adM 0)]) (n := 1) (Nat.le_of_ble_eq_true rfl)
  rw [lg_entry_eq]
  generalize (lg_sl ([.ref (adM 0)]) ++ List.replicate (1 - (lg_sl ([.ref (adM 0)])).length) Slot.unset).toArray = ls at hl ⊢
  have hl : lv_has ls 1 [(0, .ref (adM 0))] := hl
  unfold fX5_fitting at h
  have E0 : ∀ (H : Heap) (locs : List Loc) (ls : Array Slot), va_P D vwCl (wM ty adM vM) H → va_D A (wM ty adM vM) → va_S A s.heap H locs → lv_has ls 1 [(0, .ref (adM 0))] → W p l e (headSpec wsX5_fitting { frames := 7, cells := 0, slots := 0, locals := 161 }).room s m ([.ref (adM 0)] : List Value).toArray below meth c H locs 0 0 Q (F0 m 0 ls []) := by
    intro H locs ls hP hD hS hl
    refine lv_aload_n hx hb dX5_fitting_0 rfl (lv_at hl 0 rfl) ?_
    obtain ⟨r1, e1, h⟩ := kBd h
    refine kCallVI (As := []) (rest := []) (wc := wM ty adM vM) (w1 := wM ty adM vM) (wn := wM ty adM vM) ⟨hx, hb, hml, hown, hts⟩ (cX5_fits_ok l D ty adM H.size vM r1 e1) (cwV 0 hts gX5_fitting_X5_fits rfl rfl rfl (by decide +kernel) ⟨Nat.le_of_ble_eq_true rfl, Nat.le_of_ble_eq_true rfl⟩) hP hK hD hS hA [0, 1, 2, 3, 4, 5, 6] (by decide) rfl 5 0 rfl rfl rfl rfl hl.1 rfl (Nat.le_of_ble_eq_true rfl) dX5_fitting_1 ⟨Nat.le_of_ble_eq_true rfl, Nat.le_of_ble_eq_true rfl⟩ rfl rfl (fun H locs hP hD hS => ?_)
    obtain rfl := Option.some.inj h
    subst hQ
    exact W.iret (v := r1) hx hb hr (fun t ht hW => ⟨⟨r1, (), rfl, rfl, kEnd ht hP⟩, hS.F ht⟩) hS.2.2 dX5_fitting_4
  exact E0 s.heap [] ls hP hD hS hl
def fX5_depthRefused (vM : KM) (p1 : Int32) : Option (Int32) := (fX5_bottom vM).bind fun r3 => (fX5_in p1 (0 : Int32) r3).bind fun r6 => if ¬ r6 = (0 : Int32) then (if kIn (0 : Int32) 133 = true then (if ¬ (vM.2.2.2.2.2.2.1 (0 : Int32).toNatClampNeg) = (0 : Int32) then (some (0 : Int32)) else (some (-1000000003 : Int32))) else none) else (some (-1000000002 : Int32))
set_option maxHeartbeats 4000000 in
set_option maxRecDepth 100000 in
theorem cX5_depthRefused_ok (l : Launch) (D : va_G) (ty : kTy) (adM : Nat → Nat) (sz : Nat) (vM : KM) (p1 : Int32) (res : Int32) (h : fX5_depthRefused vM p1 = some res) : kMI l yX5_depthRefused wsX5_depthRefused { frames := 3, cells := 0, slots := 0, locals := 65 } [.ref (adM 0), .int p1] D ty (wM ty adM vM) sz res (wM ty adM vM) := by
  refine Met.ofW (cc := cX5_depthRefused) (maxL := 2) (ret := (some .int)) (by decide) rfl ?_
  intro p e s m args below meth c s₁ B hml hv
  obtain ⟨rfl, hsz, hP, hK, hD0⟩ := hv
  have hx := B.exec
  have hb := B.bytes
  have hr := B.returns
  have hts := atoms_spec (ws := wsX5_depthRefused) B.pre
  have hown : s.vm.findClass RX5 = some m.cls := findClass_of_methodNamed B.named
  have hlocks := B.notSynchronized
  subst hsz
  have hD := hD0.self (sz := s.heap.size)
  generalize hAe : va_A (wM ty adM vM) s.heap.size = A at hD ⊢
  have hA : ∀ q : Nat, s.heap.size ≤ q → A q := fun q h => by rw [← hAe]; exact Or.inr h
  have hS : va_S A s.heap s.heap [] := va_S.rf
  refine kGenW (fun Q hQ => ?_)
  have wf0 := hts (.fieldLink RX5 7 "IceCoreDaterModel" "now" "[I") (by decide +kernel)
  have hinX5 : ∀ w ∈ wsX50, w ∈ wsX5_depthRefused := by decide +kernel
  have wf2 := hts (.constant RX5 105 (-1000000003)) (by decide +kernel)
  have wf3 := hts (.constant RX5 100 (-1000000002)) (by decide +kernel)
  have hl := lv_entry ([.ref (adM 0), .int p1]) (n := 2) (Nat.le_of_ble_eq_true rfl)
  rw [lg_entry_eq]
  generalize (lg_sl ([.ref (adM 0), .int p1]) ++ List.replicate (2 - (lg_sl ([.ref (adM 0), .int p1])).length) Slot.unset).toArray = ls at hl ⊢
  have hl : lv_has ls 2 [(0, .ref (adM 0)), (1, .int p1)] := hl
  unfold fX5_depthRefused at h
  have E0 : ∀ (H : Heap) (locs : List Loc) (ls : Array Slot), va_P D vwCl (wM ty adM vM) H → va_D A (wM ty adM vM) → va_S A s.heap H locs → lv_has ls 2 [(0, .ref (adM 0)), (1, .int p1)] → W p l e (headSpec wsX5_depthRefused { frames := 3, cells := 0, slots := 0, locals := 65 }).room s m ([.ref (adM 0), .int p1] : List Value).toArray below meth c H locs 0 0 Q (F0 m 0 ls []) := by
    intro H locs ls hP hD hS hl
    refine lv_iload_n hx hb dX5_depthRefused_0 rfl (lv_at hl 1 rfl) ?_
    refine lv_iconst (v := 0) hx hb dX5_depthRefused_1 (by decide) ?_
    refine lv_aload_n hx hb dX5_depthRefused_2 rfl (lv_at hl 0 rfl) ?_
    obtain ⟨r3, e3, h⟩ := kBd h
    refine kCallVI (As := []) (rest := [.int (0 : Int32), .int p1]) (wc := wM ty adM vM) (w1 := wM ty adM vM) (wn := wM ty adM vM) ⟨hx, hb, hml, hown, hts⟩ (cX5_bottom_ok l D ty adM H.size vM r3 e3) (cwV 0 hts gX5_depthRefused_X5_bottom rfl rfl rfl (by decide +kernel) ⟨Nat.le_of_ble_eq_true rfl, Nat.le_of_ble_eq_true rfl⟩) hP hK hD hS hA [0, 1, 2, 3, 4, 5, 6] (by decide) rfl 5 0 rfl rfl rfl rfl hl.1 rfl (Nat.le_of_ble_eq_true rfl) dX5_depthRefused_3 ⟨Nat.le_of_ble_eq_true rfl, Nat.le_of_ble_eq_true rfl⟩ rfl rfl (fun H locs hP hD hS => ?_)
    obtain ⟨r6, e6, h⟩ := kBd h
    refine kCallSI (As := [.int p1, .int (0 : Int32), .int r3]) (rest := []) ⟨hx, hb, hml, hown, hts⟩ (cX5_in_ok l D ty  H.size p1 (0 : Int32) r3 r6 e6) (va_cwS 3 hts gX5_depthRefused_X5_in rfl rfl rfl (by decide +kernel) ⟨Nat.le_of_ble_eq_true rfl, Nat.le_of_ble_eq_true rfl⟩) hP hK hD hS hA rfl hl.1 rfl (Nat.le_of_ble_eq_true rfl) dX5_depthRefused_6 ⟨Nat.le_of_ble_eq_true rfl, Nat.le_of_ble_eq_true rfl⟩ (fun H locs hP hS => ?_)
    refine lv_if_ne (tgt := 17) hx hb dX5_depthRefused_9 (by decide) (fun c9 => ?_) (fun c9 => ?_)
    · have h := kT h c9
      refine lv_aload_n hx hb dX5_depthRefused_17 rfl (lv_at hl 0 rfl) ?_
      refine va_get (D := D) (ci := 5) (v := .ref (adM 1)) (C := RX5) (T := TX5) (N := 12) hx hb hts hinX5 hown hK.1 hP 0 rfl rfl 0 (by decide) wf0 (fun _ h9 => h9) rfl dX5_depthRefused_18 ?_
      refine lv_iconst (v := 0) hx hb dX5_depthRefused_21 (by decide) ?_
      obtain ⟨b22, h⟩ := kIf h
      refine va_iald (f := vM.2.2.2.2.2.2.1) (n := 133) hx hb hK.1 hP 1 0 rfl rfl (kIn_ok b22) dX5_depthRefused_22 ?_
      refine lv_if_ne (tgt := 31) hx hb dX5_depthRefused_23 (by decide) (fun c23 => ?_) (fun c23 => ?_)
      · have h := kT h c23
        refine lv_iconst (v := 0) hx hb dX5_depthRefused_31 (by decide) ?_
        obtain rfl := Option.some.inj h
        subst hQ
        exact W.iret (v := (0 : Int32)) hx hb hr (fun t ht hW => ⟨⟨(0 : Int32), (), rfl, rfl, kEnd ht hP⟩, hS.F ht⟩) hS.2.2 dX5_depthRefused_32
      · have h := kF h (fun z => z c23)
        refine lv_ldc hx hb hown wf2 dX5_depthRefused_26 ?_
        refine lv_goto (tgt := 32) hx hb dX5_depthRefused_28 (by decide) ?_
        obtain rfl := Option.some.inj h
        subst hQ
        exact W.iret (v := (-1000000003 : Int32)) hx hb hr (fun t ht hW => ⟨⟨(-1000000003 : Int32), (), rfl, rfl, kEnd ht hP⟩, hS.F ht⟩) hS.2.2 dX5_depthRefused_32
    · have h := kF h (fun z => z c9)
      refine lv_ldc hx hb hown wf3 dX5_depthRefused_12 ?_
      refine lv_goto (tgt := 32) hx hb dX5_depthRefused_14 (by decide) ?_
      obtain rfl := Option.some.inj h
      subst hQ
      exact W.iret (v := (-1000000002 : Int32)) hx hb hr (fun t ht hW => ⟨⟨(-1000000002 : Int32), (), rfl, rfl, kEnd ht hP⟩, hS.F ht⟩) hS.2.2 dX5_depthRefused_32
  exact E0 s.heap [] ls hP hD hS hl
def fX5_age (vM : KM) (p1 : Int32) : Option (Int32) := (fX5_depthRefused vM p1).bind fun r2 => if r2 = (0 : Int32) then ((fX5_ageAt vM p1).bind fun r16 => some r16) else some r2
set_option maxHeartbeats 4000000 in
set_option maxRecDepth 100000 in
theorem cX5_age_ok (l : Launch) (D : va_G) (ty : kTy) (adM : Nat → Nat) (sz : Nat) (vM : KM) (p1 : Int32) (res : Int32) (h : fX5_age vM p1 = some res) : kMI l yX5_age wsX5_age { frames := 6, cells := 0, slots := 0, locals := 140 } [.ref (adM 0), .int p1] D ty (wM ty adM vM) sz res (wM ty adM vM) := by
  refine Met.ofW (cc := cX5_age) (maxL := 3) (ret := (some .int)) (by decide) rfl ?_
  intro p e s m args below meth c s₁ B hml hv
  obtain ⟨rfl, hsz, hP, hK, hD0⟩ := hv
  have hx := B.exec
  have hb := B.bytes
  have hr := B.returns
  have hts := atoms_spec (ws := wsX5_age) B.pre
  have hown : s.vm.findClass RX5 = some m.cls := findClass_of_methodNamed B.named
  have hlocks := B.notSynchronized
  subst hsz
  have hD := hD0.self (sz := s.heap.size)
  generalize hAe : va_A (wM ty adM vM) s.heap.size = A at hD ⊢
  have hA : ∀ q : Nat, s.heap.size ≤ q → A q := fun q h => by rw [← hAe]; exact Or.inr h
  have hS : va_S A s.heap s.heap [] := va_S.rf
  refine kGenW (fun Q hQ => ?_)
  have hl := lv_entry ([.ref (adM 0), .int p1]) (n := 3) (Nat.le_of_ble_eq_true rfl)
  rw [lg_entry_eq]
  generalize (lg_sl ([.ref (adM 0), .int p1]) ++ List.replicate (3 - (lg_sl ([.ref (adM 0), .int p1])).length) Slot.unset).toArray = ls at hl ⊢
  have hl : lv_has ls 3 [(0, .ref (adM 0)), (1, .int p1)] := hl
  unfold fX5_age at h
  have E0 : ∀ (H : Heap) (locs : List Loc) (ls : Array Slot), va_P D vwCl (wM ty adM vM) H → va_D A (wM ty adM vM) → va_S A s.heap H locs → lv_has ls 3 [(0, .ref (adM 0)), (1, .int p1)] → W p l e (headSpec wsX5_age { frames := 6, cells := 0, slots := 0, locals := 140 }).room s m ([.ref (adM 0), .int p1] : List Value).toArray below meth c H locs 0 0 Q (F0 m 0 ls []) := by
    intro H locs ls hP hD hS hl
    refine lv_aload_n hx hb dX5_age_0 rfl (lv_at hl 0 rfl) ?_
    refine lv_iload_n hx hb dX5_age_1 rfl (lv_at hl 1 rfl) ?_
    obtain ⟨r2, e2, h⟩ := kBd h
    refine kCallVI (As := [.int p1]) (rest := []) (wc := wM ty adM vM) (w1 := wM ty adM vM) (wn := wM ty adM vM) ⟨hx, hb, hml, hown, hts⟩ (cX5_depthRefused_ok l D ty adM H.size vM p1 r2 e2) (cwV 1 hts gX5_age_X5_depthRefused rfl rfl rfl (by decide +kernel) ⟨Nat.le_of_ble_eq_true rfl, Nat.le_of_ble_eq_true rfl⟩) hP hK hD hS hA [0, 1, 2, 3, 4, 5, 6] (by decide) rfl 5 0 rfl rfl rfl rfl hl.1 rfl (Nat.le_of_ble_eq_true rfl) dX5_age_2 ⟨Nat.le_of_ble_eq_true rfl, Nat.le_of_ble_eq_true rfl⟩ rfl rfl (fun H locs hP hD hS => ?_)
    refine lv_istore_n (lv' := [(2, .int r2), (0, .ref (adM 0)), (1, .int p1)]) hx hb dX5_age_5 rfl hl (by decide) rfl (fun ls hl => ?_)
    refine lv_iload_n hx hb dX5_age_6 rfl (lv_at hl 0 rfl) ?_
    refine lv_if_eq (tgt := 14) hx hb dX5_age_7 (by decide) (fun c7 => ?_) (fun c7 => ?_)
    · have h := kT h c7
      refine lv_aload_n hx hb dX5_age_14 rfl (lv_at hl 1 rfl) ?_
      refine lv_iload_n hx hb dX5_age_15 rfl (lv_at hl 2 rfl) ?_
      obtain ⟨r16, e16, h⟩ := kBd h
      refine kCallVI (As := [.int p1]) (rest := []) (wc := wM ty adM vM) (w1 := wM ty adM vM) (wn := wM ty adM vM) ⟨hx, hb, hml, hown, hts⟩ (cX5_ageAt_ok l D ty adM H.size vM p1 r16 e16) (cwV 1 hts gX5_age_X5_ageAt rfl rfl rfl (by decide +kernel) ⟨Nat.le_of_ble_eq_true rfl, Nat.le_of_ble_eq_true rfl⟩) hP hK hD hS hA [0, 1, 2, 3, 4, 5, 6] (by decide) rfl 5 0 rfl rfl rfl rfl hl.1 rfl (Nat.le_of_ble_eq_true rfl) dX5_age_16 ⟨Nat.le_of_ble_eq_true rfl, Nat.le_of_ble_eq_true rfl⟩ rfl rfl (fun H locs hP hD hS => ?_)
      obtain rfl := Option.some.inj h
      subst hQ
      exact W.iret (v := r16) hx hb hr (fun t ht hW => ⟨⟨r16, (), rfl, rfl, kEnd ht hP⟩, hS.F ht⟩) hS.2.2 dX5_age_19
    · have h := kF h c7
      refine lv_iload_n hx hb dX5_age_10 rfl (lv_at hl 0 rfl) ?_
      refine lv_goto (tgt := 19) hx hb dX5_age_11 (by decide) ?_
      obtain rfl := Option.some.inj h
      subst hQ
      exact W.iret (v := r2) hx hb hr (fun t ht hW => ⟨⟨r2, (), rfl, rfl, kEnd ht hP⟩, hS.F ht⟩) hS.2.2 dX5_age_19
  exact E0 s.heap [] ls hP hD hS hl
def fX5_gasAge (vM : KM) (p1 : Int32) : Option (Int32) := (fX5_depthRefused vM p1).bind fun r2 => if r2 = (0 : Int32) then ((fX5_gasAgeAt vM p1).bind fun r16 => some r16) else some r2
set_option maxHeartbeats 4000000 in
set_option maxRecDepth 100000 in
theorem cX5_gasAge_ok (l : Launch) (D : va_G) (ty : kTy) (adM : Nat → Nat) (sz : Nat) (vM : KM) (p1 : Int32) (res : Int32) (h : fX5_gasAge vM p1 = some res) : kMI l yX5_gasAge wsX5_gasAge { frames := 7, cells := 0, slots := 0, locals := 162 } [.ref (adM 0), .int p1] D ty (wM ty adM vM) sz res (wM ty adM vM) := by
  refine Met.ofW (cc := cX5_gasAge) (maxL := 3) (ret := (some .int)) (by decide) rfl ?_
  intro p e s m args below meth c s₁ B hml hv
  obtain ⟨rfl, hsz, hP, hK, hD0⟩ := hv
  have hx := B.exec
  have hb := B.bytes
  have hr := B.returns
  have hts := atoms_spec (ws := wsX5_gasAge) B.pre
  have hown : s.vm.findClass RX5 = some m.cls := findClass_of_methodNamed B.named
  have hlocks := B.notSynchronized
  subst hsz
  have hD := hD0.self (sz := s.heap.size)
  generalize hAe : va_A (wM ty adM vM) s.heap.size = A at hD ⊢
  have hA : ∀ q : Nat, s.heap.size ≤ q → A q := fun q h => by rw [← hAe]; exact Or.inr h
  have hS : va_S A s.heap s.heap [] := va_S.rf
  refine kGenW (fun Q hQ => ?_)
  have hl := lv_entry ([.ref (adM 0), .int p1]) (n := 3) (Nat.le_of_ble_eq_true rfl)
  rw [lg_entry_eq]
  generalize (lg_sl ([.ref (adM 0), .int p1]) ++ List.replicate (3 - (lg_sl ([.ref (adM 0), .int p1])).length) Slot.unset).toArray = ls at hl ⊢
  have hl : lv_has ls 3 [(0, .ref (adM 0)), (1, .int p1)] := hl
  unfold fX5_gasAge at h
  have E0 : ∀ (H : Heap) (locs : List Loc) (ls : Array Slot), va_P D vwCl (wM ty adM vM) H → va_D A (wM ty adM vM) → va_S A s.heap H locs → lv_has ls 3 [(0, .ref (adM 0)), (1, .int p1)] → W p l e (headSpec wsX5_gasAge { frames := 7, cells := 0, slots := 0, locals := 162 }).room s m ([.ref (adM 0), .int p1] : List Value).toArray below meth c H locs 0 0 Q (F0 m 0 ls []) := by
    intro H locs ls hP hD hS hl
    refine lv_aload_n hx hb dX5_gasAge_0 rfl (lv_at hl 0 rfl) ?_
    refine lv_iload_n hx hb dX5_gasAge_1 rfl (lv_at hl 1 rfl) ?_
    obtain ⟨r2, e2, h⟩ := kBd h
    refine kCallVI (As := [.int p1]) (rest := []) (wc := wM ty adM vM) (w1 := wM ty adM vM) (wn := wM ty adM vM) ⟨hx, hb, hml, hown, hts⟩ (cX5_depthRefused_ok l D ty adM H.size vM p1 r2 e2) (cwV 1 hts gX5_gasAge_X5_depthRefused rfl rfl rfl (by decide +kernel) ⟨Nat.le_of_ble_eq_true rfl, Nat.le_of_ble_eq_true rfl⟩) hP hK hD hS hA [0, 1, 2, 3, 4, 5, 6] (by decide) rfl 5 0 rfl rfl rfl rfl hl.1 rfl (Nat.le_of_ble_eq_true rfl) dX5_gasAge_2 ⟨Nat.le_of_ble_eq_true rfl, Nat.le_of_ble_eq_true rfl⟩ rfl rfl (fun H locs hP hD hS => ?_)
    refine lv_istore_n (lv' := [(2, .int r2), (0, .ref (adM 0)), (1, .int p1)]) hx hb dX5_gasAge_5 rfl hl (by decide) rfl (fun ls hl => ?_)
    refine lv_iload_n hx hb dX5_gasAge_6 rfl (lv_at hl 0 rfl) ?_
    refine lv_if_eq (tgt := 14) hx hb dX5_gasAge_7 (by decide) (fun c7 => ?_) (fun c7 => ?_)
    · have h := kT h c7
      refine lv_aload_n hx hb dX5_gasAge_14 rfl (lv_at hl 1 rfl) ?_
      refine lv_iload_n hx hb dX5_gasAge_15 rfl (lv_at hl 2 rfl) ?_
      obtain ⟨r16, e16, h⟩ := kBd h
      refine kCallVI (As := [.int p1]) (rest := []) (wc := wM ty adM vM) (w1 := wM ty adM vM) (wn := wM ty adM vM) ⟨hx, hb, hml, hown, hts⟩ (cX5_gasAgeAt_ok l D ty adM H.size vM p1 r16 e16) (cwV 1 hts gX5_gasAge_X5_gasAgeAt rfl rfl rfl (by decide +kernel) ⟨Nat.le_of_ble_eq_true rfl, Nat.le_of_ble_eq_true rfl⟩) hP hK hD hS hA [0, 1, 2, 3, 4, 5, 6] (by decide) rfl 5 0 rfl rfl rfl rfl hl.1 rfl (Nat.le_of_ble_eq_true rfl) dX5_gasAge_16 ⟨Nat.le_of_ble_eq_true rfl, Nat.le_of_ble_eq_true rfl⟩ rfl rfl (fun H locs hP hD hS => ?_)
      obtain rfl := Option.some.inj h
      subst hQ
      exact W.iret (v := r16) hx hb hr (fun t ht hW => ⟨⟨r16, (), rfl, rfl, kEnd ht hP⟩, hS.F ht⟩) hS.2.2 dX5_gasAge_19
    · have h := kF h c7
      refine lv_iload_n hx hb dX5_gasAge_10 rfl (lv_at hl 0 rfl) ?_
      refine lv_goto (tgt := 19) hx hb dX5_gasAge_11 (by decide) ?_
      obtain rfl := Option.some.inj h
      subst hQ
      exact W.iret (v := r2) hx hb hr (fun t ht hW => ⟨⟨r2, (), rfl, rfl, kEnd ht hP⟩, hS.F ht⟩) hS.2.2 dX5_gasAge_19
  exact E0 s.heap [] ls hP hD hS hl
def fX5_leastDepth_c64 (vM : KM) (x1 : Int32) (x2 : Int32) (x3 : Int32) (x4 : Int32) (x5 : Int32) (x6 : Int32) (x7 : Int32) (x8 : Int32) (x9 : Int32) (nx8 : Int32 × Int32 × Int32 → Option (Int32)) (nx64 : Int32 → Option (Int32)) : Option (Int32) := if x7 < x9 then (nx8 ((x3 + x7), (x4 + x6), (x5 + 1))) else ((fX5_part x6 x9 x7).bind fun r79 => if (0 : Int32) ≤ ((x4 + r79) - x8) then (if ((x4 + r79) - x8) < x1 then (nx64 (x9 + 1)) else (some (x3 + x9))) else (if (0 : Int32) < x1 then (nx64 (x9 + 1)) else (some (x3 + x9))))
def fX5_leastDepth_c8 (vM : KM) (x1 : Int32) (x2 : Int32) (x3 : Int32) (x4 : Int32) (x5 : Int32) (nx8 : Int32 × Int32 × Int32 → Option (Int32)) : Option (Int32) := if kIn (0 : Int32) 133 = true then (if (vM.2.2.2.2.2.2.1 (0 : Int32).toNatClampNeg) ≤ x5 then (some (-1000000005 : Int32)) else ((fX5_yearsOf vM x5).bind fun r22 => (fX5_of vM x5 (5 : Int32)).bind fun r31 => if x2 = (0 : Int32) then (if ¬ x5 = (0 : Int32) then (kLoopC kFu (fun q nx64 => fX5_leastDepth_c64 vM x1 x2 x3 x4 x5 r22 r31 (0 : Int32) q nx8 nx64) (1 : Int32)) else (kLoopC kFu (fun q nx64 => fX5_leastDepth_c64 vM x1 x2 x3 x4 x5 r22 r31 (0 : Int32) q nx8 nx64) (0 : Int32))) else ((fX5_delayOf vM x5).bind fun r43 => if ¬ x5 = (0 : Int32) then (kLoopC kFu (fun q nx64 => fX5_leastDepth_c64 vM x1 x2 x3 x4 x5 r22 r31 r43 q nx8 nx64) (1 : Int32)) else (kLoopC kFu (fun q nx64 => fX5_leastDepth_c64 vM x1 x2 x3 x4 x5 r22 r31 r43 q nx8 nx64) (0 : Int32))))) else none
def fX5_leastDepth (vM : KM) (p1 : Int32) (p2 : Int32) : Option (Int32) := kLoopC kFu (fun q nx8 => fX5_leastDepth_c8 vM p1 p2 q.1 q.2.1 q.2.2 nx8) ((0 : Int32), (0 : Int32), (0 : Int32))
set_option maxHeartbeats 4000000 in
set_option maxRecDepth 100000 in
theorem cX5_leastDepth_ok (l : Launch) (D : va_G) (ty : kTy) (adM : Nat → Nat) (sz : Nat) (vM : KM) (p1 : Int32) (p2 : Int32) (res : Int32) (h : fX5_leastDepth vM p1 p2 = some res) : kMI l yX5_leastDepth wsX5_leastDepth { frames := 4, cells := 0, slots := 0, locals := 95 } [.ref (adM 0), .int p1, .int p2] D ty (wM ty adM vM) sz res (wM ty adM vM) := by
  refine Met.ofW (cc := cX5_leastDepth) (maxL := 11) (ret := (some .int)) (by decide) rfl ?_
  intro p e s m args below meth c s₁ B hml hv
  obtain ⟨rfl, hsz, hP, hK, hD0⟩ := hv
  have hx := B.exec
  have hb := B.bytes
  have hr := B.returns
  have hts := atoms_spec (ws := wsX5_leastDepth) B.pre
  have hown : s.vm.findClass RX5 = some m.cls := findClass_of_methodNamed B.named
  have hlocks := B.notSynchronized
  subst hsz
  have hD := hD0.self (sz := s.heap.size)
  generalize hAe : va_A (wM ty adM vM) s.heap.size = A at hD ⊢
  have hA : ∀ q : Nat, s.heap.size ≤ q → A q := fun q h => by rw [← hAe]; exact Or.inr h
  have hS : va_S A s.heap s.heap [] := va_S.rf
  refine kGenW (fun Q hQ => ?_)
  have wf0 := hts (.fieldLink RX5 7 "IceCoreDaterModel" "now" "[I") (by decide +kernel)
  have hinX5 : ∀ w ∈ wsX50, w ∈ wsX5_leastDepth := by decide +kernel
  have wf2 := hts (.constant RX5 22 (-1000000005)) (by decide +kernel)
  have B64 : ∀ (x1 : Int32) (x2 : Int32) (x3 : Int32) (x4 : Int32) (x5 : Int32) (x6 : Int32) (x7 : Int32) (x8 : Int32) (nx8 : Int32 × Int32 × Int32 → Option (Int32)) (hn8 : ∀ (x3 : Int32) (x4 : Int32) (x5 : Int32), nx8 (x3, x4, x5) = some res → ∀ (H : Heap) (locs : List Loc) (ls : Array Slot), va_P D vwCl (wM ty adM vM) H → va_D A (wM ty adM vM) → va_S A s.heap H locs → lv_has ls 11 [(0, .ref (adM 0)), (1, .int x1), (2, .int x2), (3, .int x3), (4, .int x4), (5, .int x5)] → W p l e (headSpec wsX5_leastDepth { frames := 4, cells := 0, slots := 0, locals := 95 }).room s m ([.ref (adM 0), .int p1, .int p2] : List Value).toArray below meth c H locs 0 0 Q (F0 m 8 ls [])) (nx64 : Int32 → Option (Int32)) (hn64 : ∀ (x9 : Int32), nx64 x9 = some res → ∀ (H : Heap) (locs : List Loc) (ls : Array Slot), va_P D vwCl (wM ty adM vM) H → va_D A (wM ty adM vM) → va_S A s.heap H locs → lv_has ls 11 [(0, .ref (adM 0)), (1, .int x1), (2, .int x2), (3, .int x3), (4, .int x4), (5, .int x5), (6, .int x6), (7, .int x7), (8, .int x8), (9, .int x9)] → W p l e (headSpec wsX5_leastDepth { frames := 4, cells := 0, slots := 0, locals := 95 }).room s m ([.ref (adM 0), .int p1, .int p2] : List Value).toArray below meth c H locs 0 0 Q (F0 m 64 ls [])) (x9 : Int32), fX5_leastDepth_c64 vM x1 x2 x3 x4 x5 x6 x7 x8 x9 nx8 nx64 = some res → ∀ (H : Heap) (locs : List Loc) (ls : Array Slot), va_P D vwCl (wM ty adM vM) H → va_D A (wM ty adM vM) → va_S A s.heap H locs → lv_has ls 11 [(0, .ref (adM 0)), (1, .int x1), (2, .int x2), (3, .int x3), (4, .int x4), (5, .int x5), (6, .int x6), (7, .int x7), (8, .int x8), (9, .int x9)] → W p l e (headSpec wsX5_leastDepth { frames := 4, cells := 0, slots := 0, locals := 95 }).room s m ([.ref (adM 0), .int p1, .int p2] : List Value).toArray below meth c H locs 0 0 Q (F0 m 64 ls []) := by
    intro x1 x2 x3 x4 x5 x6 x7 x8 nx8 hn8 nx64 hn64 x9 h H locs ls hP hD hS hl
    unfold fX5_leastDepth_c64 at h
    refine lv_iload hx hb dX5_leastDepth_64 (lv_at hl 9 rfl) ?_
    refine lv_iload hx hb dX5_leastDepth_66 (lv_at hl 7 rfl) ?_
    refine lv_icmp_gt (tgt := 114) hx hb dX5_leastDepth_68 (by decide) (fun c68 => ?_) (fun c68 => ?_)
    · have h := kT h c68
      refine lv_iload_n hx hb dX5_leastDepth_114 rfl (lv_at hl 3 rfl) ?_
      refine lv_iload hx hb dX5_leastDepth_115 (lv_at hl 7 rfl) ?_
      refine lv_iadd hx hb dX5_leastDepth_117 ?_
      refine lv_istore_n (lv' := [(3, .int (x3 + x7)), (0, .ref (adM 0)), (1, .int x1), (2, .int x2), (4, .int x4), (5, .int x5), (6, .int x6), (7, .int x7), (8, .int x8), (9, .int x9)]) hx hb dX5_leastDepth_118 rfl hl (by decide) rfl (fun ls hl => ?_)
      refine lv_iload hx hb dX5_leastDepth_119 (lv_at hl 4 rfl) ?_
      refine lv_iload hx hb dX5_leastDepth_121 (lv_at hl 6 rfl) ?_
      refine lv_iadd hx hb dX5_leastDepth_123 ?_
      refine lv_istore (lv' := [(4, .int (x4 + x6)), (3, .int (x3 + x7)), (0, .ref (adM 0)), (1, .int x1), (2, .int x2), (5, .int x5), (6, .int x6), (7, .int x7), (8, .int x8), (9, .int x9)]) hx hb dX5_leastDepth_124 hl (by decide) rfl (fun ls hl => ?_)
      refine lv_iinc (v := (x5 + 1)) (lv' := [(5, .int (x5 + 1)), (4, .int (x4 + x6)), (3, .int (x3 + x7)), (0, .ref (adM 0)), (1, .int x1), (2, .int x2), (6, .int x6), (7, .int x7), (8, .int x8), (9, .int x9)]) hx hb dX5_leastDepth_126 hl (k := 5) rfl rfl (by decide) rfl (fun ls hl => ?_)
      refine lv_goto (tgt := 8) hx hb dX5_leastDepth_129 (by decide) ?_
      exact hn8 (x3 + x7) (x4 + x6) (x5 + 1) h H locs ls hP hD hS (lv_sub hl [3, 4, 5, 2, 1, 0] rfl)
    · have h := kF h c68
      refine lv_iload hx hb dX5_leastDepth_71 (lv_at hl 4 rfl) ?_
      refine lv_iload hx hb dX5_leastDepth_73 (lv_at hl 6 rfl) ?_
      refine lv_iload hx hb dX5_leastDepth_75 (lv_at hl 9 rfl) ?_
      refine lv_iload hx hb dX5_leastDepth_77 (lv_at hl 7 rfl) ?_
      obtain ⟨r79, e79, h⟩ := kBd h
      refine kCallSI (As := [.int x6, .int x9, .int x7]) (rest := [.int x4]) ⟨hx, hb, hml, hown, hts⟩ (cX5_part_ok l D ty  H.size x6 x9 x7 r79 e79) (va_cwS 3 hts gX5_leastDepth_X5_part rfl rfl rfl (by decide +kernel) ⟨Nat.le_of_ble_eq_true rfl, Nat.le_of_ble_eq_true rfl⟩) hP hK hD hS hA rfl hl.1 rfl (Nat.le_of_ble_eq_true rfl) dX5_leastDepth_79 ⟨Nat.le_of_ble_eq_true rfl, Nat.le_of_ble_eq_true rfl⟩ (fun H locs hP hS => ?_)
      refine lv_iadd hx hb dX5_leastDepth_82 ?_
      refine lv_iload hx hb dX5_leastDepth_83 (lv_at hl 8 rfl) ?_
      refine lv_isub hx hb dX5_leastDepth_85 ?_
      refine lv_istore (lv' := [(10, .int ((x4 + r79) - x8)), (0, .ref (adM 0)), (1, .int x1), (2, .int x2), (3, .int x3), (4, .int x4), (5, .int x5), (6, .int x6), (7, .int x7), (8, .int x8), (9, .int x9)]) hx hb dX5_leastDepth_86 hl (by decide) rfl (fun ls hl => ?_)
      refine lv_iload hx hb dX5_leastDepth_88 (lv_at hl 0 rfl) ?_
      refine lv_if_ge (tgt := 97) hx hb dX5_leastDepth_90 (by decide) (fun c90 => ?_) (fun c90 => ?_)
      · have h := kT h c90
        refine lv_iload hx hb dX5_leastDepth_97 (lv_at hl 0 rfl) ?_
        refine lv_iload_n hx hb dX5_leastDepth_99 rfl (lv_at hl 2 rfl) ?_
        refine lv_icmp_lt (tgt := 108) hx hb dX5_leastDepth_100 (by decide) (fun c100 => ?_) (fun c100 => ?_)
        · have h := kT h c100
          refine lv_iinc (v := (x9 + 1)) (lv' := [(9, .int (x9 + 1)), (10, .int ((x4 + r79) - x8)), (0, .ref (adM 0)), (1, .int x1), (2, .int x2), (3, .int x3), (4, .int x4), (5, .int x5), (6, .int x6), (7, .int x7), (8, .int x8)]) hx hb dX5_leastDepth_108 hl (k := 10) rfl rfl (by decide) rfl (fun ls hl => ?_)
          refine lv_goto (tgt := 64) hx hb dX5_leastDepth_111 (by decide) ?_
          exact hn64 (x9 + 1) h H locs ls hP hD hS (lv_sub hl [2, 3, 4, 5, 6, 7, 8, 9, 10, 0] rfl)
        · have h := kF h c100
          refine lv_iload_n hx hb dX5_leastDepth_103 rfl (lv_at hl 4 rfl) ?_
          refine lv_iload hx hb dX5_leastDepth_104 (lv_at hl 10 rfl) ?_
          refine lv_iadd hx hb dX5_leastDepth_106 ?_
          obtain rfl := Option.some.inj h
          subst hQ
          exact W.iret (v := (x3 + x9)) hx hb hr (fun t ht hW => ⟨⟨(x3 + x9), (), rfl, rfl, kEnd ht hP⟩, hS.F ht⟩) hS.2.2 dX5_leastDepth_107
      · have h := kF h c90
        refine lv_iconst (v := 0) hx hb dX5_leastDepth_93 (by decide) ?_
        refine lv_goto (tgt := 99) hx hb dX5_leastDepth_94 (by decide) ?_
        refine lv_iload_n hx hb dX5_leastDepth_99 rfl (lv_at hl 2 rfl) ?_
        refine lv_icmp_lt (tgt := 108) hx hb dX5_leastDepth_100 (by decide) (fun c100 => ?_) (fun c100 => ?_)
        · have h := kT h c100
          refine lv_iinc (v := (x9 + 1)) (lv' := [(9, .int (x9 + 1)), (10, .int ((x4 + r79) - x8)), (0, .ref (adM 0)), (1, .int x1), (2, .int x2), (3, .int x3), (4, .int x4), (5, .int x5), (6, .int x6), (7, .int x7), (8, .int x8)]) hx hb dX5_leastDepth_108 hl (k := 10) rfl rfl (by decide) rfl (fun ls hl => ?_)
          refine lv_goto (tgt := 64) hx hb dX5_leastDepth_111 (by decide) ?_
          exact hn64 (x9 + 1) h H locs ls hP hD hS (lv_sub hl [2, 3, 4, 5, 6, 7, 8, 9, 10, 0] rfl)
        · have h := kF h c100
          refine lv_iload_n hx hb dX5_leastDepth_103 rfl (lv_at hl 4 rfl) ?_
          refine lv_iload hx hb dX5_leastDepth_104 (lv_at hl 10 rfl) ?_
          refine lv_iadd hx hb dX5_leastDepth_106 ?_
          obtain rfl := Option.some.inj h
          subst hQ
          exact W.iret (v := (x3 + x9)) hx hb hr (fun t ht hW => ⟨⟨(x3 + x9), (), rfl, rfl, kEnd ht hP⟩, hS.F ht⟩) hS.2.2 dX5_leastDepth_107
  have L64 : ∀ (x1 : Int32) (x2 : Int32) (x3 : Int32) (x4 : Int32) (x5 : Int32) (x6 : Int32) (x7 : Int32) (x8 : Int32) (nx8 : Int32 × Int32 × Int32 → Option (Int32)) (hn8 : ∀ (x3 : Int32) (x4 : Int32) (x5 : Int32), nx8 (x3, x4, x5) = some res → ∀ (H : Heap) (locs : List Loc) (ls : Array Slot), va_P D vwCl (wM ty adM vM) H → va_D A (wM ty adM vM) → va_S A s.heap H locs → lv_has ls 11 [(0, .ref (adM 0)), (1, .int x1), (2, .int x2), (3, .int x3), (4, .int x4), (5, .int x5)] → W p l e (headSpec wsX5_leastDepth { frames := 4, cells := 0, slots := 0, locals := 95 }).room s m ([.ref (adM 0), .int p1, .int p2] : List Value).toArray below meth c H locs 0 0 Q (F0 m 8 ls [])) (n : Nat) (x9 : Int32), kLoopC n (fun q nx64 => fX5_leastDepth_c64 vM x1 x2 x3 x4 x5 x6 x7 x8 q nx8 nx64) x9 = some res → ∀ (H : Heap) (locs : List Loc) (ls : Array Slot), va_P D vwCl (wM ty adM vM) H → va_D A (wM ty adM vM) → va_S A s.heap H locs → lv_has ls 11 [(0, .ref (adM 0)), (1, .int x1), (2, .int x2), (3, .int x3), (4, .int x4), (5, .int x5), (6, .int x6), (7, .int x7), (8, .int x8), (9, .int x9)] → W p l e (headSpec wsX5_leastDepth { frames := 4, cells := 0, slots := 0, locals := 95 }).room s m ([.ref (adM 0), .int p1, .int p2] : List Value).toArray below meth c H locs 0 0 Q (F0 m 64 ls []) := by
    intro x1 x2 x3 x4 x5 x6 x7 x8 nx8 hn8 n
    induction n with
    | zero => intro x9 h; exact absurd h (by simp [kLoopC])
    | succ n ih => intro x9 h; exact B64 x1 x2 x3 x4 x5 x6 x7 x8 nx8 hn8 (kLoopC n (fun q nx64 => fX5_leastDepth_c64 vM x1 x2 x3 x4 x5 x6 x7 x8 q nx8 nx64)) ih x9 h
  have B8 : ∀ (x1 : Int32) (x2 : Int32) (nx8 : Int32 × Int32 × Int32 → Option (Int32)) (hn8 : ∀ (x3 : Int32) (x4 : Int32) (x5 : Int32), nx8 (x3, x4, x5) = some res → ∀ (H : Heap) (locs : List Loc) (ls : Array Slot), va_P D vwCl (wM ty adM vM) H → va_D A (wM ty adM vM) → va_S A s.heap H locs → lv_has ls 11 [(0, .ref (adM 0)), (1, .int x1), (2, .int x2), (3, .int x3), (4, .int x4), (5, .int x5)] → W p l e (headSpec wsX5_leastDepth { frames := 4, cells := 0, slots := 0, locals := 95 }).room s m ([.ref (adM 0), .int p1, .int p2] : List Value).toArray below meth c H locs 0 0 Q (F0 m 8 ls [])) (x3 : Int32) (x4 : Int32) (x5 : Int32), fX5_leastDepth_c8 vM x1 x2 x3 x4 x5 nx8 = some res → ∀ (H : Heap) (locs : List Loc) (ls : Array Slot), va_P D vwCl (wM ty adM vM) H → va_D A (wM ty adM vM) → va_S A s.heap H locs → lv_has ls 11 [(0, .ref (adM 0)), (1, .int x1), (2, .int x2), (3, .int x3), (4, .int x4), (5, .int x5)] → W p l e (headSpec wsX5_leastDepth { frames := 4, cells := 0, slots := 0, locals := 95 }).room s m ([.ref (adM 0), .int p1, .int p2] : List Value).toArray below meth c H locs 0 0 Q (F0 m 8 ls []) := by
    intro x1 x2 nx8 hn8 x3 x4 x5 h H locs ls hP hD hS hl
    unfold fX5_leastDepth_c8 at h
    refine lv_iload hx hb dX5_leastDepth_8 (lv_at hl 5 rfl) ?_
    refine lv_aload_n hx hb dX5_leastDepth_10 rfl (lv_at hl 0 rfl) ?_
    refine va_get (D := D) (ci := 5) (v := .ref (adM 1)) (C := RX5) (T := TX5) (N := 12) hx hb hts hinX5 hown hK.1 hP 0 rfl rfl 0 (by decide) wf0 (fun _ h9 => h9) rfl dX5_leastDepth_11 ?_
    refine lv_iconst (v := 0) hx hb dX5_leastDepth_14 (by decide) ?_
    obtain ⟨b15, h⟩ := kIf h
    refine va_iald (f := vM.2.2.2.2.2.2.1) (n := 133) hx hb hK.1 hP 1 0 rfl rfl (kIn_ok b15) dX5_leastDepth_15 ?_
    refine lv_icmp_ge (tgt := 132) hx hb dX5_leastDepth_16 (by decide) (fun c16 => ?_) (fun c16 => ?_)
    · have h := kT h c16
      refine lv_ldc hx hb hown wf2 dX5_leastDepth_132 ?_
      obtain rfl := Option.some.inj h
      subst hQ
      exact W.iret (v := (-1000000005 : Int32)) hx hb hr (fun t ht hW => ⟨⟨(-1000000005 : Int32), (), rfl, rfl, kEnd ht hP⟩, hS.F ht⟩) hS.2.2 dX5_leastDepth_134
    · have h := kF h c16
      refine lv_aload_n hx hb dX5_leastDepth_19 rfl (lv_at hl 0 rfl) ?_
      refine lv_iload hx hb dX5_leastDepth_20 (lv_at hl 5 rfl) ?_
      obtain ⟨r22, e22, h⟩ := kBd h
      refine kCallVI (As := [.int x5]) (rest := []) (wc := wM ty adM vM) (w1 := wM ty adM vM) (wn := wM ty adM vM) ⟨hx, hb, hml, hown, hts⟩ (cX5_yearsOf_ok l D ty adM H.size vM x5 r22 e22) (cwV 1 hts gX5_leastDepth_X5_yearsOf rfl rfl rfl (by decide +kernel) ⟨Nat.le_of_ble_eq_true rfl, Nat.le_of_ble_eq_true rfl⟩) hP hK hD hS hA [0, 1, 2, 3, 4, 5, 6] (by decide) rfl 5 0 rfl rfl rfl rfl hl.1 rfl (Nat.le_of_ble_eq_true rfl) dX5_leastDepth_22 ⟨Nat.le_of_ble_eq_true rfl, Nat.le_of_ble_eq_true rfl⟩ rfl rfl (fun H locs hP hD hS => ?_)
      refine lv_istore (lv' := [(6, .int r22), (0, .ref (adM 0)), (1, .int x1), (2, .int x2), (3, .int x3), (4, .int x4), (5, .int x5)]) hx hb dX5_leastDepth_25 hl (by decide) rfl (fun ls hl => ?_)
      refine lv_aload_n hx hb dX5_leastDepth_27 rfl (lv_at hl 1 rfl) ?_
      refine lv_iload hx hb dX5_leastDepth_28 (lv_at hl 6 rfl) ?_
      refine lv_iconst (v := 5) hx hb dX5_leastDepth_30 (by decide) ?_
      obtain ⟨r31, e31, h⟩ := kBd h
      refine kCallVI (As := [.int x5, .int (5 : Int32)]) (rest := []) (wc := wM ty adM vM) (w1 := wM ty adM vM) (wn := wM ty adM vM) ⟨hx, hb, hml, hown, hts⟩ (cX5_of_ok l D ty adM H.size vM x5 (5 : Int32) r31 e31) (cwV 2 hts gX5_leastDepth_X5_of rfl rfl rfl (by decide +kernel) ⟨Nat.le_of_ble_eq_true rfl, Nat.le_of_ble_eq_true rfl⟩) hP hK hD hS hA [0, 1, 2, 3, 4, 5, 6] (by decide) rfl 5 0 rfl rfl rfl rfl hl.1 rfl (Nat.le_of_ble_eq_true rfl) dX5_leastDepth_31 ⟨Nat.le_of_ble_eq_true rfl, Nat.le_of_ble_eq_true rfl⟩ rfl rfl (fun H locs hP hD hS => ?_)
      refine lv_istore (lv' := [(7, .int r31), (6, .int r22), (0, .ref (adM 0)), (1, .int x1), (2, .int x2), (3, .int x3), (4, .int x4), (5, .int x5)]) hx hb dX5_leastDepth_34 hl (by decide) rfl (fun ls hl => ?_)
      refine lv_iload_n hx hb dX5_leastDepth_36 rfl (lv_at hl 4 rfl) ?_
      refine lv_if_eq (tgt := 49) hx hb dX5_leastDepth_37 (by decide) (fun c37 => ?_) (fun c37 => ?_)
      · have h := kT h c37
        refine lv_iconst (v := 0) hx hb dX5_leastDepth_49 (by decide) ?_
        refine lv_istore (lv' := [(8, .int (0 : Int32)), (7, .int r31), (6, .int r22), (0, .ref (adM 0)), (1, .int x1), (2, .int x2), (3, .int x3), (4, .int x4), (5, .int x5)]) hx hb dX5_leastDepth_50 hl (by decide) rfl (fun ls hl => ?_)
        refine lv_iload hx hb dX5_leastDepth_52 (lv_at hl 8 rfl) ?_
        refine lv_if_ne (tgt := 61) hx hb dX5_leastDepth_54 (by decide) (fun c54 => ?_) (fun c54 => ?_)
        · have h := kT h c54
          refine lv_iconst (v := 1) hx hb dX5_leastDepth_61 (by decide) ?_
          refine lv_istore (lv' := [(9, .int (1 : Int32)), (8, .int (0 : Int32)), (7, .int r31), (6, .int r22), (0, .ref (adM 0)), (1, .int x1), (2, .int x2), (3, .int x3), (4, .int x4), (5, .int x5)]) hx hb dX5_leastDepth_62 hl (by decide) rfl (fun ls hl => ?_)
          exact L64 x1 x2 x3 x4 x5 r22 r31 (0 : Int32) nx8 hn8 kFu (1 : Int32) h H locs ls hP hD hS (lv_sub hl [4, 5, 6, 7, 8, 9, 3, 2, 1, 0] rfl)
        · have h := kF h (fun z => z c54)
          refine lv_iconst (v := 0) hx hb dX5_leastDepth_57 (by decide) ?_
          refine lv_goto (tgt := 62) hx hb dX5_leastDepth_58 (by decide) ?_
          refine lv_istore (lv' := [(9, .int (0 : Int32)), (8, .int (0 : Int32)), (7, .int r31), (6, .int r22), (0, .ref (adM 0)), (1, .int x1), (2, .int x2), (3, .int x3), (4, .int x4), (5, .int x5)]) hx hb dX5_leastDepth_62 hl (by decide) rfl (fun ls hl => ?_)
          exact L64 x1 x2 x3 x4 x5 r22 r31 (0 : Int32) nx8 hn8 kFu (0 : Int32) h H locs ls hP hD hS (lv_sub hl [4, 5, 6, 7, 8, 9, 3, 2, 1, 0] rfl)
      · have h := kF h c37
        refine lv_aload_n hx hb dX5_leastDepth_40 rfl (lv_at hl 2 rfl) ?_
        refine lv_iload hx hb dX5_leastDepth_41 (lv_at hl 7 rfl) ?_
        obtain ⟨r43, e43, h⟩ := kBd h
        refine kCallVI (As := [.int x5]) (rest := []) (wc := wM ty adM vM) (w1 := wM ty adM vM) (wn := wM ty adM vM) ⟨hx, hb, hml, hown, hts⟩ (cX5_delayOf_ok l D ty adM H.size vM x5 r43 e43) (cwV 1 hts gX5_leastDepth_X5_delayOf rfl rfl rfl (by decide +kernel) ⟨Nat.le_of_ble_eq_true rfl, Nat.le_of_ble_eq_true rfl⟩) hP hK hD hS hA [0, 1, 2, 3, 4, 5, 6] (by decide) rfl 5 0 rfl rfl rfl rfl hl.1 rfl (Nat.le_of_ble_eq_true rfl) dX5_leastDepth_43 ⟨Nat.le_of_ble_eq_true rfl, Nat.le_of_ble_eq_true rfl⟩ rfl rfl (fun H locs hP hD hS => ?_)
        refine lv_goto (tgt := 50) hx hb dX5_leastDepth_46 (by decide) ?_
        refine lv_istore (lv' := [(8, .int r43), (7, .int r31), (6, .int r22), (0, .ref (adM 0)), (1, .int x1), (2, .int x2), (3, .int x3), (4, .int x4), (5, .int x5)]) hx hb dX5_leastDepth_50 hl (by decide) rfl (fun ls hl => ?_)
        refine lv_iload hx hb dX5_leastDepth_52 (lv_at hl 8 rfl) ?_
        refine lv_if_ne (tgt := 61) hx hb dX5_leastDepth_54 (by decide) (fun c54 => ?_) (fun c54 => ?_)
        · have h := kT h c54
          refine lv_iconst (v := 1) hx hb dX5_leastDepth_61 (by decide) ?_
          refine lv_istore (lv' := [(9, .int (1 : Int32)), (8, .int r43), (7, .int r31), (6, .int r22), (0, .ref (adM 0)), (1, .int x1), (2, .int x2), (3, .int x3), (4, .int x4), (5, .int x5)]) hx hb dX5_leastDepth_62 hl (by decide) rfl (fun ls hl => ?_)
          exact L64 x1 x2 x3 x4 x5 r22 r31 r43 nx8 hn8 kFu (1 : Int32) h H locs ls hP hD hS (lv_sub hl [4, 5, 6, 7, 8, 9, 3, 2, 1, 0] rfl)
        · have h := kF h (fun z => z c54)
          refine lv_iconst (v := 0) hx hb dX5_leastDepth_57 (by decide) ?_
          refine lv_goto (tgt := 62) hx hb dX5_leastDepth_58 (by decide) ?_
          refine lv_istore (lv' := [(9, .int (0 : Int32)), (8, .int r43), (7, .int r31), (6, .int r22), (0, .ref (adM 0)), (1, .int x1), (2, .int x2), (3, .int x3), (4, .int x4), (5, .int x5)]) hx hb dX5_leastDepth_62 hl (by decide) rfl (fun ls hl => ?_)
          exact L64 x1 x2 x3 x4 x5 r22 r31 r43 nx8 hn8 kFu (0 : Int32) h H locs ls hP hD hS (lv_sub hl [4, 5, 6, 7, 8, 9, 3, 2, 1, 0] rfl)
  have L8 : ∀ (x1 : Int32) (x2 : Int32) (n : Nat) (x3 : Int32) (x4 : Int32) (x5 : Int32), kLoopC n (fun q nx8 => fX5_leastDepth_c8 vM x1 x2 q.1 q.2.1 q.2.2 nx8) (x3, x4, x5) = some res → ∀ (H : Heap) (locs : List Loc) (ls : Array Slot), va_P D vwCl (wM ty adM vM) H → va_D A (wM ty adM vM) → va_S A s.heap H locs → lv_has ls 11 [(0, .ref (adM 0)), (1, .int x1), (2, .int x2), (3, .int x3), (4, .int x4), (5, .int x5)] → W p l e (headSpec wsX5_leastDepth { frames := 4, cells := 0, slots := 0, locals := 95 }).room s m ([.ref (adM 0), .int p1, .int p2] : List Value).toArray below meth c H locs 0 0 Q (F0 m 8 ls []) := by
    intro x1 x2 n
    induction n with
    | zero => intro x3 x4 x5 h; exact absurd h (by simp [kLoopC])
    | succ n ih => intro x3 x4 x5 h; exact B8 x1 x2 (kLoopC n (fun q nx8 => fX5_leastDepth_c8 vM x1 x2 q.1 q.2.1 q.2.2 nx8)) ih x3 x4 x5 h
  have hl := lv_entry ([.ref (adM 0), .int p1, .int p2]) (n := 11) (Nat.le_of_ble_eq_true rfl)
  rw [lg_entry_eq]
  generalize (lg_sl ([.ref (adM 0), .int p1, .int p2]) ++ List.replicate (11 - (lg_sl ([.ref (adM 0), .int p1, .int p2])).length) Slot.unset).toArray = ls at hl ⊢
  have hl : lv_has ls 11 [(0, .ref (adM 0)), (1, .int p1), (2, .int p2)] := hl
  unfold fX5_leastDepth at h
  have E0 : ∀ (H : Heap) (locs : List Loc) (ls : Array Slot), va_P D vwCl (wM ty adM vM) H → va_D A (wM ty adM vM) → va_S A s.heap H locs → lv_has ls 11 [(0, .ref (adM 0)), (1, .int p1), (2, .int p2)] → W p l e (headSpec wsX5_leastDepth { frames := 4, cells := 0, slots := 0, locals := 95 }).room s m ([.ref (adM 0), .int p1, .int p2] : List Value).toArray below meth c H locs 0 0 Q (F0 m 0 ls []) := by
    intro H locs ls hP hD hS hl
    refine lv_iconst (v := 0) hx hb dX5_leastDepth_0 (by decide) ?_
    refine lv_istore_n (lv' := [(3, .int (0 : Int32)), (0, .ref (adM 0)), (1, .int p1), (2, .int p2)]) hx hb dX5_leastDepth_1 rfl hl (by decide) rfl (fun ls hl => ?_)
    refine lv_iconst (v := 0) hx hb dX5_leastDepth_2 (by decide) ?_
    refine lv_istore (lv' := [(4, .int (0 : Int32)), (3, .int (0 : Int32)), (0, .ref (adM 0)), (1, .int p1), (2, .int p2)]) hx hb dX5_leastDepth_3 hl (by decide) rfl (fun ls hl => ?_)
    refine lv_iconst (v := 0) hx hb dX5_leastDepth_5 (by decide) ?_
    refine lv_istore (lv' := [(5, .int (0 : Int32)), (4, .int (0 : Int32)), (3, .int (0 : Int32)), (0, .ref (adM 0)), (1, .int p1), (2, .int p2)]) hx hb dX5_leastDepth_6 hl (by decide) rfl (fun ls hl => ?_)
    exact L8 p1 p2  kFu (0 : Int32) (0 : Int32) (0 : Int32) h H locs ls hP hD hS (lv_sub hl [3, 4, 5, 2, 1, 0] rfl)
  exact E0 s.heap [] ls hP hD hS hl
def fX5_depthOf (vM : KM) (p1 : Int32) : Option (Int32) := if (0 : Int32) ≤ p1 then ((fX5_leastDepth vM p1 (0 : Int32)).bind fun r12 => some r12) else (some (-1000000002 : Int32))
set_option maxHeartbeats 4000000 in
set_option maxRecDepth 100000 in
theorem cX5_depthOf_ok (l : Launch) (D : va_G) (ty : kTy) (adM : Nat → Nat) (sz : Nat) (vM : KM) (p1 : Int32) (res : Int32) (h : fX5_depthOf vM p1 = some res) : kMI l yX5_depthOf wsX5_depthOf { frames := 5, cells := 0, slots := 0, locals := 125 } [.ref (adM 0), .int p1] D ty (wM ty adM vM) sz res (wM ty adM vM) := by
  refine Met.ofW (cc := cX5_depthOf) (maxL := 2) (ret := (some .int)) (by decide) rfl ?_
  intro p e s m args below meth c s₁ B hml hv
  obtain ⟨rfl, hsz, hP, hK, hD0⟩ := hv
  have hx := B.exec
  have hb := B.bytes
  have hr := B.returns
  have hts := atoms_spec (ws := wsX5_depthOf) B.pre
  have hown : s.vm.findClass RX5 = some m.cls := findClass_of_methodNamed B.named
  have hlocks := B.notSynchronized
  subst hsz
  have hD := hD0.self (sz := s.heap.size)
  generalize hAe : va_A (wM ty adM vM) s.heap.size = A at hD ⊢
  have hA : ∀ q : Nat, s.heap.size ≤ q → A q := fun q h => by rw [← hAe]; exact Or.inr h
  have hS : va_S A s.heap s.heap [] := va_S.rf
  refine kGenW (fun Q hQ => ?_)
  have wf0 := hts (.constant RX5 100 (-1000000002)) (by decide +kernel)
  have hl := lv_entry ([.ref (adM 0), .int p1]) (n := 2) (Nat.le_of_ble_eq_true rfl)
  rw [lg_entry_eq]
  generalize (lg_sl ([.ref (adM 0), .int p1]) ++ List.replicate (2 - (lg_sl ([.ref (adM 0), .int p1])).length) Slot.unset).toArray = ls at hl ⊢
  have hl : lv_has ls 2 [(0, .ref (adM 0)), (1, .int p1)] := hl
  unfold fX5_depthOf at h
  have E0 : ∀ (H : Heap) (locs : List Loc) (ls : Array Slot), va_P D vwCl (wM ty adM vM) H → va_D A (wM ty adM vM) → va_S A s.heap H locs → lv_has ls 2 [(0, .ref (adM 0)), (1, .int p1)] → W p l e (headSpec wsX5_depthOf { frames := 5, cells := 0, slots := 0, locals := 125 }).room s m ([.ref (adM 0), .int p1] : List Value).toArray below meth c H locs 0 0 Q (F0 m 0 ls []) := by
    intro H locs ls hP hD hS hl
    refine lv_iload_n hx hb dX5_depthOf_0 rfl (lv_at hl 1 rfl) ?_
    refine lv_if_ge (tgt := 9) hx hb dX5_depthOf_1 (by decide) (fun c1 => ?_) (fun c1 => ?_)
    · have h := kT h c1
      refine lv_aload_n hx hb dX5_depthOf_9 rfl (lv_at hl 0 rfl) ?_
      refine lv_iload_n hx hb dX5_depthOf_10 rfl (lv_at hl 1 rfl) ?_
      refine lv_iconst (v := 0) hx hb dX5_depthOf_11 (by decide) ?_
      obtain ⟨r12, e12, h⟩ := kBd h
      refine kCallVI (As := [.int p1, .int (0 : Int32)]) (rest := []) (wc := wM ty adM vM) (w1 := wM ty adM vM) (wn := wM ty adM vM) ⟨hx, hb, hml, hown, hts⟩ (cX5_leastDepth_ok l D ty adM H.size vM p1 (0 : Int32) r12 e12) (cwV 2 hts gX5_depthOf_X5_leastDepth rfl rfl rfl (by decide +kernel) ⟨Nat.le_of_ble_eq_true rfl, Nat.le_of_ble_eq_true rfl⟩) hP hK hD hS hA [0, 1, 2, 3, 4, 5, 6] (by decide) rfl 5 0 rfl rfl rfl rfl hl.1 rfl (Nat.le_of_ble_eq_true rfl) dX5_depthOf_12 ⟨Nat.le_of_ble_eq_true rfl, Nat.le_of_ble_eq_true rfl⟩ rfl rfl (fun H locs hP hD hS => ?_)
      obtain rfl := Option.some.inj h
      subst hQ
      exact W.iret (v := r12) hx hb hr (fun t ht hW => ⟨⟨r12, (), rfl, rfl, kEnd ht hP⟩, hS.F ht⟩) hS.2.2 dX5_depthOf_15
    · have h := kF h c1
      refine lv_ldc hx hb hown wf0 dX5_depthOf_4 ?_
      refine lv_goto (tgt := 15) hx hb dX5_depthOf_6 (by decide) ?_
      obtain rfl := Option.some.inj h
      subst hQ
      exact W.iret (v := (-1000000002 : Int32)) hx hb hr (fun t ht hW => ⟨⟨(-1000000002 : Int32), (), rfl, rfl, kEnd ht hP⟩, hS.F ht⟩) hS.2.2 dX5_depthOf_15
  exact E0 s.heap [] ls hP hD hS hl
def fX5_gasDepthOf (vM : KM) (p1 : Int32) : Option (Int32) := if (0 : Int32) ≤ p1 then ((fX5_leastDepth vM p1 (1 : Int32)).bind fun r12 => some r12) else (some (-1000000002 : Int32))
set_option maxHeartbeats 4000000 in
set_option maxRecDepth 100000 in
theorem cX5_gasDepthOf_ok (l : Launch) (D : va_G) (ty : kTy) (adM : Nat → Nat) (sz : Nat) (vM : KM) (p1 : Int32) (res : Int32) (h : fX5_gasDepthOf vM p1 = some res) : kMI l yX5_gasDepthOf wsX5_gasDepthOf { frames := 5, cells := 0, slots := 0, locals := 125 } [.ref (adM 0), .int p1] D ty (wM ty adM vM) sz res (wM ty adM vM) := by
  refine Met.ofW (cc := cX5_gasDepthOf) (maxL := 2) (ret := (some .int)) (by decide) rfl ?_
  intro p e s m args below meth c s₁ B hml hv
  obtain ⟨rfl, hsz, hP, hK, hD0⟩ := hv
  have hx := B.exec
  have hb := B.bytes
  have hr := B.returns
  have hts := atoms_spec (ws := wsX5_gasDepthOf) B.pre
  have hown : s.vm.findClass RX5 = some m.cls := findClass_of_methodNamed B.named
  have hlocks := B.notSynchronized
  subst hsz
  have hD := hD0.self (sz := s.heap.size)
  generalize hAe : va_A (wM ty adM vM) s.heap.size = A at hD ⊢
  have hA : ∀ q : Nat, s.heap.size ≤ q → A q := fun q h => by rw [← hAe]; exact Or.inr h
  have hS : va_S A s.heap s.heap [] := va_S.rf
  refine kGenW (fun Q hQ => ?_)
  have wf0 := hts (.constant RX5 100 (-1000000002)) (by decide +kernel)
  have hl := lv_entry ([.ref (adM 0), .int p1]) (n := 2) (Nat.le_of_ble_eq_true rfl)
  rw [lg_entry_eq]
  generalize (lg_sl ([.ref (adM 0), .int p1]) ++ List.replicate (2 - (lg_sl ([.ref (adM 0), .int p1])).length) Slot.unset).toArray = ls at hl ⊢
  have hl : lv_has ls 2 [(0, .ref (adM 0)), (1, .int p1)] := hl
  unfold fX5_gasDepthOf at h
  have E0 : ∀ (H : Heap) (locs : List Loc) (ls : Array Slot), va_P D vwCl (wM ty adM vM) H → va_D A (wM ty adM vM) → va_S A s.heap H locs → lv_has ls 2 [(0, .ref (adM 0)), (1, .int p1)] → W p l e (headSpec wsX5_gasDepthOf { frames := 5, cells := 0, slots := 0, locals := 125 }).room s m ([.ref (adM 0), .int p1] : List Value).toArray below meth c H locs 0 0 Q (F0 m 0 ls []) := by
    intro H locs ls hP hD hS hl
    refine lv_iload_n hx hb dX5_gasDepthOf_0 rfl (lv_at hl 1 rfl) ?_
    refine lv_if_ge (tgt := 9) hx hb dX5_gasDepthOf_1 (by decide) (fun c1 => ?_) (fun c1 => ?_)
    · have h := kT h c1
      refine lv_aload_n hx hb dX5_gasDepthOf_9 rfl (lv_at hl 0 rfl) ?_
      refine lv_iload_n hx hb dX5_gasDepthOf_10 rfl (lv_at hl 1 rfl) ?_
      refine lv_iconst (v := 1) hx hb dX5_gasDepthOf_11 (by decide) ?_
      obtain ⟨r12, e12, h⟩ := kBd h
      refine kCallVI (As := [.int p1, .int (1 : Int32)]) (rest := []) (wc := wM ty adM vM) (w1 := wM ty adM vM) (wn := wM ty adM vM) ⟨hx, hb, hml, hown, hts⟩ (cX5_leastDepth_ok l D ty adM H.size vM p1 (1 : Int32) r12 e12) (cwV 2 hts gX5_gasDepthOf_X5_leastDepth rfl rfl rfl (by decide +kernel) ⟨Nat.le_of_ble_eq_true rfl, Nat.le_of_ble_eq_true rfl⟩) hP hK hD hS hA [0, 1, 2, 3, 4, 5, 6] (by decide) rfl 5 0 rfl rfl rfl rfl hl.1 rfl (Nat.le_of_ble_eq_true rfl) dX5_gasDepthOf_12 ⟨Nat.le_of_ble_eq_true rfl, Nat.le_of_ble_eq_true rfl⟩ rfl rfl (fun H locs hP hD hS => ?_)
      obtain rfl := Option.some.inj h
      subst hQ
      exact W.iret (v := r12) hx hb hr (fun t ht hW => ⟨⟨r12, (), rfl, rfl, kEnd ht hP⟩, hS.F ht⟩) hS.2.2 dX5_gasDepthOf_15
    · have h := kF h c1
      refine lv_ldc hx hb hown wf0 dX5_gasDepthOf_4 ?_
      refine lv_goto (tgt := 15) hx hb dX5_gasDepthOf_6 (by decide) ?_
      obtain rfl := Option.some.inj h
      subst hQ
      exact W.iret (v := (-1000000002 : Int32)) hx hb hr (fun t ht hW => ⟨⟨(-1000000002 : Int32), (), rfl, rfl, kEnd ht hP⟩, hS.F ht⟩) hS.2.2 dX5_gasDepthOf_15
  exact E0 s.heap [] ls hP hD hS hl
def fX5_lead_c22 (vM : KM) (x1 : Int32) (x2 : Int32) (s0 : Int32) : Option (Int32) := if s0 = (0 : Int32) then ((fX5_ageAt vM x1).bind fun r33 => (fX5_gasAgeAt vM x2).bind fun r38 => some (r33 - r38)) else some s0
def fX5_lead (vM : KM) (p1 : Int32) (p2 : Int32) : Option (Int32) := (fX5_bottom vM).bind fun r3 => (fX5_in p2 (0 : Int32) r3).bind fun r6 => if ¬ r6 = (0 : Int32) then ((fX5_depthRefused vM p1).bind fun r19 => fX5_lead_c22 vM p1 p2 r19) else (fX5_lead_c22 vM p1 p2 (-1000000002 : Int32))
set_option maxHeartbeats 4000000 in
set_option maxRecDepth 100000 in
theorem cX5_lead_ok (l : Launch) (D : va_G) (ty : kTy) (adM : Nat → Nat) (sz : Nat) (vM : KM) (p1 : Int32) (p2 : Int32) (res : Int32) (h : fX5_lead vM p1 p2 = some res) : kMI l yX5_lead wsX5_lead { frames := 7, cells := 0, slots := 0, locals := 162 } [.ref (adM 0), .int p1, .int p2] D ty (wM ty adM vM) sz res (wM ty adM vM) := by
  refine Met.ofW (cc := cX5_lead) (maxL := 4) (ret := (some .int)) (by decide) rfl ?_
  intro p e s m args below meth c s₁ B hml hv
  obtain ⟨rfl, hsz, hP, hK, hD0⟩ := hv
  have hx := B.exec
  have hb := B.bytes
  have hr := B.returns
  have hts := atoms_spec (ws := wsX5_lead) B.pre
  have hown : s.vm.findClass RX5 = some m.cls := findClass_of_methodNamed B.named
  have hlocks := B.notSynchronized
  subst hsz
  have hD := hD0.self (sz := s.heap.size)
  generalize hAe : va_A (wM ty adM vM) s.heap.size = A at hD ⊢
  have hA : ∀ q : Nat, s.heap.size ≤ q → A q := fun q h => by rw [← hAe]; exact Or.inr h
  have hS : va_S A s.heap s.heap [] := va_S.rf
  refine kGenW (fun Q hQ => ?_)
  have wf0 := hts (.constant RX5 100 (-1000000002)) (by decide +kernel)
  have J22 : ∀ (x1 : Int32) (x2 : Int32) (s0 : Int32), fX5_lead_c22 vM x1 x2 s0 = some res → ∀ (H : Heap) (locs : List Loc) (ls : Array Slot), va_P D vwCl (wM ty adM vM) H → va_D A (wM ty adM vM) → va_S A s.heap H locs → lv_has ls 4 [(0, .ref (adM 0)), (1, .int x1), (2, .int x2)] → W p l e (headSpec wsX5_lead { frames := 7, cells := 0, slots := 0, locals := 162 }).room s m ([.ref (adM 0), .int p1, .int p2] : List Value).toArray below meth c H locs 0 0 Q (F0 m 22 ls [.int s0]) := by
    intro x1 x2 s0 h H locs ls hP hD hS hl
    unfold fX5_lead_c22 at h
    refine lv_istore_n (lv' := [(3, .int s0), (0, .ref (adM 0)), (1, .int x1), (2, .int x2)]) hx hb dX5_lead_22 rfl hl (by decide) rfl (fun ls hl => ?_)
    refine lv_iload_n hx hb dX5_lead_23 rfl (lv_at hl 0 rfl) ?_
    refine lv_if_eq (tgt := 31) hx hb dX5_lead_24 (by decide) (fun c24 => ?_) (fun c24 => ?_)
    · have h := kT h c24
      refine lv_aload_n hx hb dX5_lead_31 rfl (lv_at hl 1 rfl) ?_
      refine lv_iload_n hx hb dX5_lead_32 rfl (lv_at hl 2 rfl) ?_
      obtain ⟨r33, e33, h⟩ := kBd h
      refine kCallVI (As := [.int x1]) (rest := []) (wc := wM ty adM vM) (w1 := wM ty adM vM) (wn := wM ty adM vM) ⟨hx, hb, hml, hown, hts⟩ (cX5_ageAt_ok l D ty adM H.size vM x1 r33 e33) (cwV 1 hts gX5_lead_X5_ageAt rfl rfl rfl (by decide +kernel) ⟨Nat.le_of_ble_eq_true rfl, Nat.le_of_ble_eq_true rfl⟩) hP hK hD hS hA [0, 1, 2, 3, 4, 5, 6] (by decide) rfl 5 0 rfl rfl rfl rfl hl.1 rfl (Nat.le_of_ble_eq_true rfl) dX5_lead_33 ⟨Nat.le_of_ble_eq_true rfl, Nat.le_of_ble_eq_true rfl⟩ rfl rfl (fun H locs hP hD hS => ?_)
      refine lv_aload_n hx hb dX5_lead_36 rfl (lv_at hl 1 rfl) ?_
      refine lv_iload_n hx hb dX5_lead_37 rfl (lv_at hl 3 rfl) ?_
      obtain ⟨r38, e38, h⟩ := kBd h
      refine kCallVI (As := [.int x2]) (rest := [.int r33]) (wc := wM ty adM vM) (w1 := wM ty adM vM) (wn := wM ty adM vM) ⟨hx, hb, hml, hown, hts⟩ (cX5_gasAgeAt_ok l D ty adM H.size vM x2 r38 e38) (cwV 1 hts gX5_lead_X5_gasAgeAt rfl rfl rfl (by decide +kernel) ⟨Nat.le_of_ble_eq_true rfl, Nat.le_of_ble_eq_true rfl⟩) hP hK hD hS hA [0, 1, 2, 3, 4, 5, 6] (by decide) rfl 5 0 rfl rfl rfl rfl hl.1 rfl (Nat.le_of_ble_eq_true rfl) dX5_lead_38 ⟨Nat.le_of_ble_eq_true rfl, Nat.le_of_ble_eq_true rfl⟩ rfl rfl (fun H locs hP hD hS => ?_)
      refine lv_isub hx hb dX5_lead_41 ?_
      obtain rfl := Option.some.inj h
      subst hQ
      exact W.iret (v := (r33 - r38)) hx hb hr (fun t ht hW => ⟨⟨(r33 - r38), (), rfl, rfl, kEnd ht hP⟩, hS.F ht⟩) hS.2.2 dX5_lead_42
    · have h := kF h c24
      refine lv_iload_n hx hb dX5_lead_27 rfl (lv_at hl 0 rfl) ?_
      refine lv_goto (tgt := 42) hx hb dX5_lead_28 (by decide) ?_
      obtain rfl := Option.some.inj h
      subst hQ
      exact W.iret (v := s0) hx hb hr (fun t ht hW => ⟨⟨s0, (), rfl, rfl, kEnd ht hP⟩, hS.F ht⟩) hS.2.2 dX5_lead_42
  have hl := lv_entry ([.ref (adM 0), .int p1, .int p2]) (n := 4) (Nat.le_of_ble_eq_true rfl)
  rw [lg_entry_eq]
  generalize (lg_sl ([.ref (adM 0), .int p1, .int p2]) ++ List.replicate (4 - (lg_sl ([.ref (adM 0), .int p1, .int p2])).length) Slot.unset).toArray = ls at hl ⊢
  have hl : lv_has ls 4 [(0, .ref (adM 0)), (1, .int p1), (2, .int p2)] := hl
  unfold fX5_lead at h
  have E0 : ∀ (H : Heap) (locs : List Loc) (ls : Array Slot), va_P D vwCl (wM ty adM vM) H → va_D A (wM ty adM vM) → va_S A s.heap H locs → lv_has ls 4 [(0, .ref (adM 0)), (1, .int p1), (2, .int p2)] → W p l e (headSpec wsX5_lead { frames := 7, cells := 0, slots := 0, locals := 162 }).room s m ([.ref (adM 0), .int p1, .int p2] : List Value).toArray below meth c H locs 0 0 Q (F0 m 0 ls []) := by
    intro H locs ls hP hD hS hl
    refine lv_iload_n hx hb dX5_lead_0 rfl (lv_at hl 2 rfl) ?_
    refine lv_iconst (v := 0) hx hb dX5_lead_1 (by decide) ?_
    refine lv_aload_n hx hb dX5_lead_2 rfl (lv_at hl 0 rfl) ?_
    obtain ⟨r3, e3, h⟩ := kBd h
    refine kCallVI (As := []) (rest := [.int (0 : Int32), .int p2]) (wc := wM ty adM vM) (w1 := wM ty adM vM) (wn := wM ty adM vM) ⟨hx, hb, hml, hown, hts⟩ (cX5_bottom_ok l D ty adM H.size vM r3 e3) (cwV 0 hts gX5_lead_X5_bottom rfl rfl rfl (by decide +kernel) ⟨Nat.le_of_ble_eq_true rfl, Nat.le_of_ble_eq_true rfl⟩) hP hK hD hS hA [0, 1, 2, 3, 4, 5, 6] (by decide) rfl 5 0 rfl rfl rfl rfl hl.1 rfl (Nat.le_of_ble_eq_true rfl) dX5_lead_3 ⟨Nat.le_of_ble_eq_true rfl, Nat.le_of_ble_eq_true rfl⟩ rfl rfl (fun H locs hP hD hS => ?_)
    obtain ⟨r6, e6, h⟩ := kBd h
    refine kCallSI (As := [.int p2, .int (0 : Int32), .int r3]) (rest := []) ⟨hx, hb, hml, hown, hts⟩ (cX5_in_ok l D ty  H.size p2 (0 : Int32) r3 r6 e6) (va_cwS 3 hts gX5_lead_X5_in rfl rfl rfl (by decide +kernel) ⟨Nat.le_of_ble_eq_true rfl, Nat.le_of_ble_eq_true rfl⟩) hP hK hD hS hA rfl hl.1 rfl (Nat.le_of_ble_eq_true rfl) dX5_lead_6 ⟨Nat.le_of_ble_eq_true rfl, Nat.le_of_ble_eq_true rfl⟩ (fun H locs hP hS => ?_)
    refine lv_if_ne (tgt := 17) hx hb dX5_lead_9 (by decide) (fun c9 => ?_) (fun c9 => ?_)
    · have h := kT h c9
      refine lv_aload_n hx hb dX5_lead_17 rfl (lv_at hl 0 rfl) ?_
      refine lv_iload_n hx hb dX5_lead_18 rfl (lv_at hl 1 rfl) ?_
      obtain ⟨r19, e19, h⟩ := kBd h
      refine kCallVI (As := [.int p1]) (rest := []) (wc := wM ty adM vM) (w1 := wM ty adM vM) (wn := wM ty adM vM) ⟨hx, hb, hml, hown, hts⟩ (cX5_depthRefused_ok l D ty adM H.size vM p1 r19 e19) (cwV 1 hts gX5_lead_X5_depthRefused rfl rfl rfl (by decide +kernel) ⟨Nat.le_of_ble_eq_true rfl, Nat.le_of_ble_eq_true rfl⟩) hP hK hD hS hA [0, 1, 2, 3, 4, 5, 6] (by decide) rfl 5 0 rfl rfl rfl rfl hl.1 rfl (Nat.le_of_ble_eq_true rfl) dX5_lead_19 ⟨Nat.le_of_ble_eq_true rfl, Nat.le_of_ble_eq_true rfl⟩ rfl rfl (fun H locs hP hD hS => ?_)
      exact J22 p1 p2 r19 h H locs ls hP hD hS (lv_sub hl [0, 1, 2] rfl)
    · have h := kF h (fun z => z c9)
      refine lv_ldc hx hb hown wf0 dX5_lead_12 ?_
      refine lv_goto (tgt := 22) hx hb dX5_lead_14 (by decide) ?_
      exact J22 p1 p2 (-1000000002 : Int32) h H locs ls hP hD hS (lv_sub hl [0, 1, 2] rfl)
  exact E0 s.heap [] ls hP hD hS hl
def fX5_inversions_c4 (vM : KM) (x1 : Int32) (x2 : Int32) (nx4 : Int32 × Int32 → Option (Int32)) : Option (Int32) := if kIn (0 : Int32) 133 = true then (if (vM.2.2.2.2.2.2.1 (0 : Int32).toNatClampNeg) ≤ (x2 + (1 : Int32)) then some x1 else ((fX5_top vM (x2 + (1 : Int32))).bind fun r20 => (fX5_gasAgeAt vM r20).bind fun r27 => (fX5_gasAgeAt vM (r20 + (1 : Int32))).bind fun r34 => if r27 ≤ r34 then (nx4 ((x1 + (0 : Int32)), (x2 + 1))) else (nx4 ((x1 + (1 : Int32)), (x2 + 1))))) else none
def fX5_inversions (vM : KM) : Option (Int32) := kLoopC kFu (fun q nx4 => fX5_inversions_c4 vM q.1 q.2 nx4) ((0 : Int32), (0 : Int32))
set_option maxHeartbeats 4000000 in
set_option maxRecDepth 100000 in
theorem cX5_inversions_ok (l : Launch) (D : va_G) (ty : kTy) (adM : Nat → Nat) (sz : Nat) (vM : KM) (res : Int32) (h : fX5_inversions vM = some res) : kMI l yX5_inversions wsX5_inversions { frames := 7, cells := 0, slots := 0, locals := 162 } [.ref (adM 0)] D ty (wM ty adM vM) sz res (wM ty adM vM) := by
  refine Met.ofW (cc := cX5_inversions) (maxL := 4) (ret := (some .int)) (by decide) rfl ?_
  intro p e s m args below meth c s₁ B hml hv
  obtain ⟨rfl, hsz, hP, hK, hD0⟩ := hv
  have hx := B.exec
  have hb := B.bytes
  have hr := B.returns
  have hts := atoms_spec (ws := wsX5_inversions) B.pre
  have hown : s.vm.findClass RX5 = some m.cls := findClass_of_methodNamed B.named
  have hlocks := B.notSynchronized
  subst hsz
  have hD := hD0.self (sz := s.heap.size)
  generalize hAe : va_A (wM ty adM vM) s.heap.size = A at hD ⊢
  have hA : ∀ q : Nat, s.heap.size ≤ q → A q := fun q h => by rw [← hAe]; exact Or.inr h
  have hS : va_S A s.heap s.heap [] := va_S.rf
  refine kGenW (fun Q hQ => ?_)
  have wf0 := hts (.fieldLink RX5 7 "IceCoreDaterModel" "now" "[I") (by decide +kernel)
  have hinX5 : ∀ w ∈ wsX50, w ∈ wsX5_inversions := by decide +kernel
  have B4 : ∀ (nx4 : Int32 × Int32 → Option (Int32)) (hn4 : ∀ (x1 : Int32) (x2 : Int32), nx4 (x1, x2) = some res → ∀ (H : Heap) (locs : List Loc) (ls : Array Slot), va_P D vwCl (wM ty adM vM) H → va_D A (wM ty adM vM) → va_S A s.heap H locs → lv_has ls 4 [(0, .ref (adM 0)), (1, .int x1), (2, .int x2)] → W p l e (headSpec wsX5_inversions { frames := 7, cells := 0, slots := 0, locals := 162 }).room s m ([.ref (adM 0)] : List Value).toArray below meth c H locs 0 0 Q (F0 m 4 ls [])) (x1 : Int32) (x2 : Int32), fX5_inversions_c4 vM x1 x2 nx4 = some res → ∀ (H : Heap) (locs : List Loc) (ls : Array Slot), va_P D vwCl (wM ty adM vM) H → va_D A (wM ty adM vM) → va_S A s.heap H locs → lv_has ls 4 [(0, .ref (adM 0)), (1, .int x1), (2, .int x2)] → W p l e (headSpec wsX5_inversions { frames := 7, cells := 0, slots := 0, locals := 162 }).room s m ([.ref (adM 0)] : List Value).toArray below meth c H locs 0 0 Q (F0 m 4 ls []) := by
    intro  nx4 hn4 x1 x2 h H locs ls hP hD hS hl
    unfold fX5_inversions_c4 at h
    refine lv_iload_n hx hb dX5_inversions_4 rfl (lv_at hl 2 rfl) ?_
    refine lv_iconst (v := 1) hx hb dX5_inversions_5 (by decide) ?_
    refine lv_iadd hx hb dX5_inversions_6 ?_
    refine lv_aload_n hx hb dX5_inversions_7 rfl (lv_at hl 0 rfl) ?_
    refine va_get (D := D) (ci := 5) (v := .ref (adM 1)) (C := RX5) (T := TX5) (N := 12) hx hb hts hinX5 hown hK.1 hP 0 rfl rfl 0 (by decide) wf0 (fun _ h9 => h9) rfl dX5_inversions_8 ?_
    refine lv_iconst (v := 0) hx hb dX5_inversions_11 (by decide) ?_
    obtain ⟨b12, h⟩ := kIf h
    refine va_iald (f := vM.2.2.2.2.2.2.1) (n := 133) hx hb hK.1 hP 1 0 rfl rfl (kIn_ok b12) dX5_inversions_12 ?_
    refine lv_icmp_ge (tgt := 53) hx hb dX5_inversions_13 (by decide) (fun c13 => ?_) (fun c13 => ?_)
    · have h := kT h c13
      refine lv_iload_n hx hb dX5_inversions_53 rfl (lv_at hl 1 rfl) ?_
      obtain rfl := Option.some.inj h
      subst hQ
      exact W.iret (v := x1) hx hb hr (fun t ht hW => ⟨⟨x1, (), rfl, rfl, kEnd ht hP⟩, hS.F ht⟩) hS.2.2 dX5_inversions_54
    · have h := kF h c13
      refine lv_aload_n hx hb dX5_inversions_16 rfl (lv_at hl 0 rfl) ?_
      refine lv_iload_n hx hb dX5_inversions_17 rfl (lv_at hl 2 rfl) ?_
      refine lv_iconst (v := 1) hx hb dX5_inversions_18 (by decide) ?_
      refine lv_iadd hx hb dX5_inversions_19 ?_
      obtain ⟨r20, e20, h⟩ := kBd h
      refine kCallVI (As := [.int (x2 + (1 : Int32))]) (rest := []) (wc := wM ty adM vM) (w1 := wM ty adM vM) (wn := wM ty adM vM) ⟨hx, hb, hml, hown, hts⟩ (cX5_top_ok l D ty adM H.size vM (x2 + (1 : Int32)) r20 e20) (cwV 1 hts gX5_inversions_X5_top rfl rfl rfl (by decide +kernel) ⟨Nat.le_of_ble_eq_true rfl, Nat.le_of_ble_eq_true rfl⟩) hP hK hD hS hA [0, 1, 2, 3, 4, 5, 6] (by decide) rfl 5 0 rfl rfl rfl rfl hl.1 rfl (Nat.le_of_ble_eq_true rfl) dX5_inversions_20 ⟨Nat.le_of_ble_eq_true rfl, Nat.le_of_ble_eq_true rfl⟩ rfl rfl (fun H locs hP hD hS => ?_)
      refine lv_istore_n (lv' := [(3, .int r20), (0, .ref (adM 0)), (1, .int x1), (2, .int x2)]) hx hb dX5_inversions_23 rfl hl (by decide) rfl (fun ls hl => ?_)
      refine lv_iload_n hx hb dX5_inversions_24 rfl (lv_at hl 2 rfl) ?_
      refine lv_aload_n hx hb dX5_inversions_25 rfl (lv_at hl 1 rfl) ?_
      refine lv_iload_n hx hb dX5_inversions_26 rfl (lv_at hl 0 rfl) ?_
      obtain ⟨r27, e27, h⟩ := kBd h
      refine kCallVI (As := [.int r20]) (rest := [.int x1]) (wc := wM ty adM vM) (w1 := wM ty adM vM) (wn := wM ty adM vM) ⟨hx, hb, hml, hown, hts⟩ (cX5_gasAgeAt_ok l D ty adM H.size vM r20 r27 e27) (cwV 1 hts gX5_inversions_X5_gasAgeAt rfl rfl rfl (by decide +kernel) ⟨Nat.le_of_ble_eq_true rfl, Nat.le_of_ble_eq_true rfl⟩) hP hK hD hS hA [0, 1, 2, 3, 4, 5, 6] (by decide) rfl 5 0 rfl rfl rfl rfl hl.1 rfl (Nat.le_of_ble_eq_true rfl) dX5_inversions_27 ⟨Nat.le_of_ble_eq_true rfl, Nat.le_of_ble_eq_true rfl⟩ rfl rfl (fun H locs hP hD hS => ?_)
      refine lv_aload_n hx hb dX5_inversions_30 rfl (lv_at hl 1 rfl) ?_
      refine lv_iload_n hx hb dX5_inversions_31 rfl (lv_at hl 0 rfl) ?_
      refine lv_iconst (v := 1) hx hb dX5_inversions_32 (by decide) ?_
      refine lv_iadd hx hb dX5_inversions_33 ?_
      obtain ⟨r34, e34, h⟩ := kBd h
      refine kCallVI (As := [.int (r20 + (1 : Int32))]) (rest := [.int r27, .int x1]) (wc := wM ty adM vM) (w1 := wM ty adM vM) (wn := wM ty adM vM) ⟨hx, hb, hml, hown, hts⟩ (cX5_gasAgeAt_ok l D ty adM H.size vM (r20 + (1 : Int32)) r34 e34) (cwV 1 hts gX5_inversions_X5_gasAgeAt rfl rfl rfl (by decide +kernel) ⟨Nat.le_of_ble_eq_true rfl, Nat.le_of_ble_eq_true rfl⟩) hP hK hD hS hA [0, 1, 2, 3, 4, 5, 6] (by decide) rfl 5 0 rfl rfl rfl rfl hl.1 rfl (Nat.le_of_ble_eq_true rfl) dX5_inversions_34 ⟨Nat.le_of_ble_eq_true rfl, Nat.le_of_ble_eq_true rfl⟩ rfl rfl (fun H locs hP hD hS => ?_)
      refine lv_icmp_le (tgt := 44) hx hb dX5_inversions_37 (by decide) (fun c37 => ?_) (fun c37 => ?_)
      · have h := kT h c37
        refine lv_iconst (v := 0) hx hb dX5_inversions_44 (by decide) ?_
        refine lv_iadd hx hb dX5_inversions_45 ?_
        refine lv_istore_n (lv' := [(1, .int (x1 + (0 : Int32))), (3, .int r20), (0, .ref (adM 0)), (2, .int x2)]) hx hb dX5_inversions_46 rfl hl (by decide) rfl (fun ls hl => ?_)
        refine lv_iinc (v := (x2 + 1)) (lv' := [(2, .int (x2 + 1)), (1, .int (x1 + (0 : Int32))), (3, .int r20), (0, .ref (adM 0))]) hx hb dX5_inversions_47 hl (k := 3) rfl rfl (by decide) rfl (fun ls hl => ?_)
        refine lv_goto (tgt := 4) hx hb dX5_inversions_50 (by decide) ?_
        exact hn4 (x1 + (0 : Int32)) (x2 + 1) h H locs ls hP hD hS (lv_sub hl [3, 1, 0] rfl)
      · have h := kF h c37
        refine lv_iconst (v := 1) hx hb dX5_inversions_40 (by decide) ?_
        refine lv_goto (tgt := 45) hx hb dX5_inversions_41 (by decide) ?_
        refine lv_iadd hx hb dX5_inversions_45 ?_
        refine lv_istore_n (lv' := [(1, .int (x1 + (1 : Int32))), (3, .int r20), (0, .ref (adM 0)), (2, .int x2)]) hx hb dX5_inversions_46 rfl hl (by decide) rfl (fun ls hl => ?_)
        refine lv_iinc (v := (x2 + 1)) (lv' := [(2, .int (x2 + 1)), (1, .int (x1 + (1 : Int32))), (3, .int r20), (0, .ref (adM 0))]) hx hb dX5_inversions_47 hl (k := 3) rfl rfl (by decide) rfl (fun ls hl => ?_)
        refine lv_goto (tgt := 4) hx hb dX5_inversions_50 (by decide) ?_
        exact hn4 (x1 + (1 : Int32)) (x2 + 1) h H locs ls hP hD hS (lv_sub hl [3, 1, 0] rfl)
  have L4 : ∀  (n : Nat) (x1 : Int32) (x2 : Int32), kLoopC n (fun q nx4 => fX5_inversions_c4 vM q.1 q.2 nx4) (x1, x2) = some res → ∀ (H : Heap) (locs : List Loc) (ls : Array Slot), va_P D vwCl (wM ty adM vM) H → va_D A (wM ty adM vM) → va_S A s.heap H locs → lv_has ls 4 [(0, .ref (adM 0)), (1, .int x1), (2, .int x2)] → W p l e (headSpec wsX5_inversions { frames := 7, cells := 0, slots := 0, locals := 162 }).room s m ([.ref (adM 0)] : List Value).toArray below meth c H locs 0 0 Q (F0 m 4 ls []) := by
    intro  n
    induction n with
    | zero => intro x1 x2 h; exact absurd h (by simp [kLoopC])
    | succ n ih => intro x1 x2 h; exact B4  (kLoopC n (fun q nx4 => fX5_inversions_c4 vM q.1 q.2 nx4)) ih x1 x2 h
  have hl := lv_entry ([.ref (adM 0)]) (n := 4) (Nat.le_of_ble_eq_true rfl)
  rw [lg_entry_eq]
  generalize (lg_sl ([.ref (adM 0)]) ++ List.replicate (4 - (lg_sl ([.ref (adM 0)])).length) Slot.unset).toArray = ls at hl ⊢
  have hl : lv_has ls 4 [(0, .ref (adM 0))] := hl
  unfold fX5_inversions at h
  have E0 : ∀ (H : Heap) (locs : List Loc) (ls : Array Slot), va_P D vwCl (wM ty adM vM) H → va_D A (wM ty adM vM) → va_S A s.heap H locs → lv_has ls 4 [(0, .ref (adM 0))] → W p l e (headSpec wsX5_inversions { frames := 7, cells := 0, slots := 0, locals := 162 }).room s m ([.ref (adM 0)] : List Value).toArray below meth c H locs 0 0 Q (F0 m 0 ls []) := by
    intro H locs ls hP hD hS hl
    refine lv_iconst (v := 0) hx hb dX5_inversions_0 (by decide) ?_
    refine lv_istore_n (lv' := [(1, .int (0 : Int32)), (0, .ref (adM 0))]) hx hb dX5_inversions_1 rfl hl (by decide) rfl (fun ls hl => ?_)
    refine lv_iconst (v := 0) hx hb dX5_inversions_2 (by decide) ?_
    refine lv_istore_n (lv' := [(2, .int (0 : Int32)), (1, .int (0 : Int32)), (0, .ref (adM 0))]) hx hb dX5_inversions_3 rfl hl (by decide) rfl (fun ls hl => ?_)
    exact L4   kFu (0 : Int32) (0 : Int32) h H locs ls hP hD hS (lv_sub hl [2, 1, 0] rfl)
  exact E0 s.heap [] ls hP hD hS hl
def fX5_acts (vM : KM) : Option (Int32) := some vM.1
set_option maxHeartbeats 4000000 in
set_option maxRecDepth 100000 in
theorem cX5_acts_ok (l : Launch) (D : va_G) (ty : kTy) (adM : Nat → Nat) (sz : Nat) (vM : KM) (res : Int32) (h : fX5_acts vM = some res) : kMI l yX5_acts wsX5_acts { frames := 0, cells := 0, slots := 0, locals := 0 } [.ref (adM 0)] D ty (wM ty adM vM) sz res (wM ty adM vM) := by
  refine Met.ofW (cc := cX5_acts) (maxL := 1) (ret := (some .int)) (by decide) rfl ?_
  intro p e s m args below meth c s₁ B hml hv
  obtain ⟨rfl, hsz, hP, hK, hD0⟩ := hv
  have hx := B.exec
  have hb := B.bytes
  have hr := B.returns
  have hts := atoms_spec (ws := wsX5_acts) B.pre
  have hown : s.vm.findClass RX5 = some m.cls := findClass_of_methodNamed B.named
  have hlocks := B.notSynchronized
  subst hsz
  have hD := hD0.self (sz := s.heap.size)
  generalize hAe : va_A (wM ty adM vM) s.heap.size = A at hD ⊢
  have hA : ∀ q : Nat, s.heap.size ≤ q → A q := fun q h => by rw [← hAe]; exact Or.inr h
  have hS : va_S A s.heap s.heap [] := va_S.rf
  refine kGenW (fun Q hQ => ?_)
  have wf0 := hts (.fieldLink RX5 43 "IceCoreDaterModel" "acts" "I") (by decide +kernel)
  have hinX5 : ∀ w ∈ wsX50, w ∈ wsX5_acts := by decide +kernel
  have hl := lv_entry ([.ref (adM 0)]) (n := 1) (Nat.le_of_ble_eq_true rfl)
  rw [lg_entry_eq]
  generalize (lg_sl ([.ref (adM 0)]) ++ List.replicate (1 - (lg_sl ([.ref (adM 0)])).length) Slot.unset).toArray = ls at hl ⊢
  have hl : lv_has ls 1 [(0, .ref (adM 0))] := hl
  unfold fX5_acts at h
  have E0 : ∀ (H : Heap) (locs : List Loc) (ls : Array Slot), va_P D vwCl (wM ty adM vM) H → va_D A (wM ty adM vM) → va_S A s.heap H locs → lv_has ls 1 [(0, .ref (adM 0))] → W p l e (headSpec wsX5_acts { frames := 0, cells := 0, slots := 0, locals := 0 }).room s m ([.ref (adM 0)] : List Value).toArray below meth c H locs 0 0 Q (F0 m 0 ls []) := by
    intro H locs ls hP hD hS hl
    refine lv_aload_n hx hb dX5_acts_0 rfl (lv_at hl 0 rfl) ?_
    refine va_get (D := D) (ci := 5) (v := .int vM.1) (C := RX5) (T := TX5) (N := 12) hx hb hts hinX5 hown hK.1 hP 0 rfl rfl 1 (by decide) wf0 (fun _ h9 => h9) rfl dX5_acts_1 ?_
    obtain rfl := Option.some.inj h
    subst hQ
    exact W.iret (v := vM.1) hx hb hr (fun t ht hW => ⟨⟨vM.1, (), rfl, rfl, kEnd ht hP⟩, hS.F ht⟩) hS.2.2 dX5_acts_4
  exact E0 s.heap [] ls hP hD hS hl
def fX5_seal_c5 (vM : KM) (x1 : Int32) (x2 : Int32) (nx5 : Int32 × Int32 → Option (Int32)) : Option (Int32) := if kIn (0 : Int32) 133 = true then (if (vM.2.2.2.2.2.2.1 (0 : Int32).toNatClampNeg) ≤ x2 then (if (x1 &&& (65535 : Int32)) ≤ (32767 : Int32) then (some (x1 &&& (65535 : Int32))) else (some ((x1 &&& (65535 : Int32)) - (65536 : Int32)))) else ((fX5_ageAtTop vM (x2 + (1 : Int32))).bind fun r23 => nx5 ((((31 : Int32) * x1) + r23), (x2 + 1)))) else none
def fX5_seal (vM : KM) : Option (Int32) := kLoopC kFu (fun q nx5 => fX5_seal_c5 vM q.1 q.2 nx5) ((7 : Int32), (0 : Int32))
set_option maxHeartbeats 4000000 in
set_option maxRecDepth 100000 in
theorem cX5_seal_ok (l : Launch) (D : va_G) (ty : kTy) (adM : Nat → Nat) (sz : Nat) (vM : KM) (res : Int32) (h : fX5_seal vM = some res) : kMI l yX5_seal wsX5_seal { frames := 5, cells := 0, slots := 0, locals := 118 } [.ref (adM 0)] D ty (wM ty adM vM) sz res (wM ty adM vM) := by
  refine Met.ofW (cc := cX5_seal) (maxL := 3) (ret := (some .int)) (by decide) rfl ?_
  intro p e s m args below meth c s₁ B hml hv
  obtain ⟨rfl, hsz, hP, hK, hD0⟩ := hv
  have hx := B.exec
  have hb := B.bytes
  have hr := B.returns
  have hts := atoms_spec (ws := wsX5_seal) B.pre
  have hown : s.vm.findClass RX5 = some m.cls := findClass_of_methodNamed B.named
  have hlocks := B.notSynchronized
  subst hsz
  have hD := hD0.self (sz := s.heap.size)
  generalize hAe : va_A (wM ty adM vM) s.heap.size = A at hD ⊢
  have hA : ∀ q : Nat, s.heap.size ≤ q → A q := fun q h => by rw [← hAe]; exact Or.inr h
  have hS : va_S A s.heap s.heap [] := va_S.rf
  refine kGenW (fun Q hQ => ?_)
  have wf0 := hts (.fieldLink RX5 7 "IceCoreDaterModel" "now" "[I") (by decide +kernel)
  have hinX5 : ∀ w ∈ wsX50, w ∈ wsX5_seal := by decide +kernel
  have wf2 := hts (.constant RX5 210 (65535)) (by decide +kernel)
  have wf3 := hts (.constant RX5 211 (65536)) (by decide +kernel)
  have B5 : ∀ (nx5 : Int32 × Int32 → Option (Int32)) (hn5 : ∀ (x1 : Int32) (x2 : Int32), nx5 (x1, x2) = some res → ∀ (H : Heap) (locs : List Loc) (ls : Array Slot), va_P D vwCl (wM ty adM vM) H → va_D A (wM ty adM vM) → va_S A s.heap H locs → lv_has ls 3 [(0, .ref (adM 0)), (1, .int x1), (2, .int x2)] → W p l e (headSpec wsX5_seal { frames := 5, cells := 0, slots := 0, locals := 118 }).room s m ([.ref (adM 0)] : List Value).toArray below meth c H locs 0 0 Q (F0 m 5 ls [])) (x1 : Int32) (x2 : Int32), fX5_seal_c5 vM x1 x2 nx5 = some res → ∀ (H : Heap) (locs : List Loc) (ls : Array Slot), va_P D vwCl (wM ty adM vM) H → va_D A (wM ty adM vM) → va_S A s.heap H locs → lv_has ls 3 [(0, .ref (adM 0)), (1, .int x1), (2, .int x2)] → W p l e (headSpec wsX5_seal { frames := 5, cells := 0, slots := 0, locals := 118 }).room s m ([.ref (adM 0)] : List Value).toArray below meth c H locs 0 0 Q (F0 m 5 ls []) := by
    intro  nx5 hn5 x1 x2 h H locs ls hP hD hS hl
    unfold fX5_seal_c5 at h
    refine lv_iload_n hx hb dX5_seal_5 rfl (lv_at hl 2 rfl) ?_
    refine lv_aload_n hx hb dX5_seal_6 rfl (lv_at hl 0 rfl) ?_
    refine va_get (D := D) (ci := 5) (v := .ref (adM 1)) (C := RX5) (T := TX5) (N := 12) hx hb hts hinX5 hown hK.1 hP 0 rfl rfl 0 (by decide) wf0 (fun _ h9 => h9) rfl dX5_seal_7 ?_
    refine lv_iconst (v := 0) hx hb dX5_seal_10 (by decide) ?_
    obtain ⟨b11, h⟩ := kIf h
    refine va_iald (f := vM.2.2.2.2.2.2.1) (n := 133) hx hb hK.1 hP 1 0 rfl rfl (kIn_ok b11) dX5_seal_11 ?_
    refine lv_icmp_ge (tgt := 34) hx hb dX5_seal_12 (by decide) (fun c12 => ?_) (fun c12 => ?_)
    · have h := kT h c12
      refine lv_iload_n hx hb dX5_seal_34 rfl (lv_at hl 1 rfl) ?_
      refine lv_ldc hx hb hown wf2 dX5_seal_35 ?_
      refine lv_iand hx hb dX5_seal_37 ?_
      refine lv_istore_n (lv' := [(2, .int (x1 &&& (65535 : Int32))), (0, .ref (adM 0)), (1, .int x1)]) hx hb dX5_seal_38 rfl hl (by decide) rfl (fun ls hl => ?_)
      refine lv_iload_n hx hb dX5_seal_39 rfl (lv_at hl 0 rfl) ?_
      refine lv_sipush (v := 32767) hx hb dX5_seal_40 (by decide) ?_
      refine lv_icmp_le (tgt := 53) hx hb dX5_seal_43 (by decide) (fun c43 => ?_) (fun c43 => ?_)
      · have h := kT h c43
        refine lv_iload_n hx hb dX5_seal_53 rfl (lv_at hl 0 rfl) ?_
        obtain rfl := Option.some.inj h
        subst hQ
        exact W.iret (v := (x1 &&& (65535 : Int32))) hx hb hr (fun t ht hW => ⟨⟨(x1 &&& (65535 : Int32)), (), rfl, rfl, kEnd ht hP⟩, hS.F ht⟩) hS.2.2 dX5_seal_54
      · have h := kF h c43
        refine lv_iload_n hx hb dX5_seal_46 rfl (lv_at hl 0 rfl) ?_
        refine lv_ldc hx hb hown wf3 dX5_seal_47 ?_
        refine lv_isub hx hb dX5_seal_49 ?_
        refine lv_goto (tgt := 54) hx hb dX5_seal_50 (by decide) ?_
        obtain rfl := Option.some.inj h
        subst hQ
        exact W.iret (v := ((x1 &&& (65535 : Int32)) - (65536 : Int32))) hx hb hr (fun t ht hW => ⟨⟨((x1 &&& (65535 : Int32)) - (65536 : Int32)), (), rfl, rfl, kEnd ht hP⟩, hS.F ht⟩) hS.2.2 dX5_seal_54
    · have h := kF h c12
      refine lv_bipush (v := 31) hx hb dX5_seal_15 (by decide) ?_
      refine lv_iload_n hx hb dX5_seal_17 rfl (lv_at hl 1 rfl) ?_
      refine lv_imul hx hb dX5_seal_18 ?_
      refine lv_aload_n hx hb dX5_seal_19 rfl (lv_at hl 0 rfl) ?_
      refine lv_iload_n hx hb dX5_seal_20 rfl (lv_at hl 2 rfl) ?_
      refine lv_iconst (v := 1) hx hb dX5_seal_21 (by decide) ?_
      refine lv_iadd hx hb dX5_seal_22 ?_
      obtain ⟨r23, e23, h⟩ := kBd h
      refine kCallVI (As := [.int (x2 + (1 : Int32))]) (rest := [.int ((31 : Int32) * x1)]) (wc := wM ty adM vM) (w1 := wM ty adM vM) (wn := wM ty adM vM) ⟨hx, hb, hml, hown, hts⟩ (cX5_ageAtTop_ok l D ty adM H.size vM (x2 + (1 : Int32)) r23 e23) (cwV 1 hts gX5_seal_X5_ageAtTop rfl rfl rfl (by decide +kernel) ⟨Nat.le_of_ble_eq_true rfl, Nat.le_of_ble_eq_true rfl⟩) hP hK hD hS hA [0, 1, 2, 3, 4, 5, 6] (by decide) rfl 5 0 rfl rfl rfl rfl hl.1 rfl (Nat.le_of_ble_eq_true rfl) dX5_seal_23 ⟨Nat.le_of_ble_eq_true rfl, Nat.le_of_ble_eq_true rfl⟩ rfl rfl (fun H locs hP hD hS => ?_)
      refine lv_iadd hx hb dX5_seal_26 ?_
      refine lv_istore_n (lv' := [(1, .int (((31 : Int32) * x1) + r23)), (0, .ref (adM 0)), (2, .int x2)]) hx hb dX5_seal_27 rfl hl (by decide) rfl (fun ls hl => ?_)
      refine lv_iinc (v := (x2 + 1)) (lv' := [(2, .int (x2 + 1)), (1, .int (((31 : Int32) * x1) + r23)), (0, .ref (adM 0))]) hx hb dX5_seal_28 hl (k := 2) rfl rfl (by decide) rfl (fun ls hl => ?_)
      refine lv_goto (tgt := 5) hx hb dX5_seal_31 (by decide) ?_
      exact hn5 (((31 : Int32) * x1) + r23) (x2 + 1) h H locs ls hP hD hS (lv_sub hl [2, 1, 0] rfl)
  have L5 : ∀  (n : Nat) (x1 : Int32) (x2 : Int32), kLoopC n (fun q nx5 => fX5_seal_c5 vM q.1 q.2 nx5) (x1, x2) = some res → ∀ (H : Heap) (locs : List Loc) (ls : Array Slot), va_P D vwCl (wM ty adM vM) H → va_D A (wM ty adM vM) → va_S A s.heap H locs → lv_has ls 3 [(0, .ref (adM 0)), (1, .int x1), (2, .int x2)] → W p l e (headSpec wsX5_seal { frames := 5, cells := 0, slots := 0, locals := 118 }).room s m ([.ref (adM 0)] : List Value).toArray below meth c H locs 0 0 Q (F0 m 5 ls []) := by
    intro  n
    induction n with
    | zero => intro x1 x2 h; exact absurd h (by simp [kLoopC])
    | succ n ih => intro x1 x2 h; exact B5  (kLoopC n (fun q nx5 => fX5_seal_c5 vM q.1 q.2 nx5)) ih x1 x2 h
  have hl := lv_entry ([.ref (adM 0)]) (n := 3) (Nat.le_of_ble_eq_true rfl)
  rw [lg_entry_eq]
  generalize (lg_sl ([.ref (adM 0)]) ++ List.replicate (3 - (lg_sl ([.ref (adM 0)])).length) Slot.unset).toArray = ls at hl ⊢
  have hl : lv_has ls 3 [(0, .ref (adM 0))] := hl
  unfold fX5_seal at h
  have E0 : ∀ (H : Heap) (locs : List Loc) (ls : Array Slot), va_P D vwCl (wM ty adM vM) H → va_D A (wM ty adM vM) → va_S A s.heap H locs → lv_has ls 3 [(0, .ref (adM 0))] → W p l e (headSpec wsX5_seal { frames := 5, cells := 0, slots := 0, locals := 118 }).room s m ([.ref (adM 0)] : List Value).toArray below meth c H locs 0 0 Q (F0 m 0 ls []) := by
    intro H locs ls hP hD hS hl
    refine lv_bipush (v := 7) hx hb dX5_seal_0 (by decide) ?_
    refine lv_istore_n (lv' := [(1, .int (7 : Int32)), (0, .ref (adM 0))]) hx hb dX5_seal_2 rfl hl (by decide) rfl (fun ls hl => ?_)
    refine lv_iconst (v := 0) hx hb dX5_seal_3 (by decide) ?_
    refine lv_istore_n (lv' := [(2, .int (0 : Int32)), (1, .int (7 : Int32)), (0, .ref (adM 0))]) hx hb dX5_seal_4 rfl hl (by decide) rfl (fun ls hl => ?_)
    exact L5   kFu (7 : Int32) (0 : Int32) h H locs ls hP hD hS (lv_sub hl [2, 1, 0] rfl)
  exact E0 s.heap [] ls hP hD hS hl
def fX5_residuals_c4 (vM : KM) (x1 : Int64) (x3 : Int32) (nx4 : Int64 × Int32 → Option (Int64)) : Option (Int64) := if kIn (0 : Int32) 133 = true then (if (vM.2.2.2.2.2.2.1 (0 : Int32).toNatClampNeg) ≤ x3 then some x1 else ((fX5_of vM x3 (9 : Int32)).bind fun r19 => if ¬ r19 = (1 : Int32) then (nx4 ((x1 + (0 : Int64)), (x3 + 1))) else ((fX5_residualOf vM x3).bind fun r28 => (fX5_size r28.toInt64).bind fun r32 => nx4 ((x1 + r32), (x3 + 1))))) else none
def fX5_residuals (vM : KM) : Option (Int64) := kLoopC kFu (fun q nx4 => fX5_residuals_c4 vM q.1 q.2 nx4) ((0 : Int64), (0 : Int32))
set_option maxHeartbeats 4000000 in
set_option maxRecDepth 100000 in
theorem cX5_residuals_ok (l : Launch) (D : va_G) (ty : kTy) (adM : Nat → Nat) (sz : Nat) (vM : KM) (res : Int64) (h : fX5_residuals vM = some res) : kML l yX5_residuals wsX5_residuals { frames := 6, cells := 0, slots := 0, locals := 139 } [.ref (adM 0)] D ty (wM ty adM vM) sz res (wM ty adM vM) := by
  refine Met.ofW (cc := cX5_residuals) (maxL := 4) (ret := (some .long)) (by decide) rfl ?_
  intro p e s m args below meth c s₁ B hml hv
  obtain ⟨rfl, hsz, hP, hK, hD0⟩ := hv
  have hx := B.exec
  have hb := B.bytes
  have hr := B.returns
  have hts := atoms_spec (ws := wsX5_residuals) B.pre
  have hown : s.vm.findClass RX5 = some m.cls := findClass_of_methodNamed B.named
  have hlocks := B.notSynchronized
  subst hsz
  have hD := hD0.self (sz := s.heap.size)
  generalize hAe : va_A (wM ty adM vM) s.heap.size = A at hD ⊢
  have hA : ∀ q : Nat, s.heap.size ≤ q → A q := fun q h => by rw [← hAe]; exact Or.inr h
  have hS : va_S A s.heap s.heap [] := va_S.rf
  refine kGenW (fun Q hQ => ?_)
  have wf0 := hts (.fieldLink RX5 7 "IceCoreDaterModel" "now" "[I") (by decide +kernel)
  have hinX5 : ∀ w ∈ wsX50, w ∈ wsX5_residuals := by decide +kernel
  have B4 : ∀ (nx4 : Int64 × Int32 → Option (Int64)) (hn4 : ∀ (x1 : Int64) (x3 : Int32), nx4 (x1, x3) = some res → ∀ (H : Heap) (locs : List Loc) (ls : Array Slot), va_P D vwCl (wM ty adM vM) H → va_D A (wM ty adM vM) → va_S A s.heap H locs → lv_has ls 4 [(0, .ref (adM 0)), (1, .long x1), (3, .int x3)] → W p l e (headSpec wsX5_residuals { frames := 6, cells := 0, slots := 0, locals := 139 }).room s m ([.ref (adM 0)] : List Value).toArray below meth c H locs 0 0 Q (F0 m 4 ls [])) (x1 : Int64) (x3 : Int32), fX5_residuals_c4 vM x1 x3 nx4 = some res → ∀ (H : Heap) (locs : List Loc) (ls : Array Slot), va_P D vwCl (wM ty adM vM) H → va_D A (wM ty adM vM) → va_S A s.heap H locs → lv_has ls 4 [(0, .ref (adM 0)), (1, .long x1), (3, .int x3)] → W p l e (headSpec wsX5_residuals { frames := 6, cells := 0, slots := 0, locals := 139 }).room s m ([.ref (adM 0)] : List Value).toArray below meth c H locs 0 0 Q (F0 m 4 ls []) := by
    intro  nx4 hn4 x1 x3 h H locs ls hP hD hS hl
    unfold fX5_residuals_c4 at h
    refine lv_iload_n hx hb dX5_residuals_4 rfl (lv_at hl 2 rfl) ?_
    refine lv_aload_n hx hb dX5_residuals_5 rfl (lv_at hl 0 rfl) ?_
    refine va_get (D := D) (ci := 5) (v := .ref (adM 1)) (C := RX5) (T := TX5) (N := 12) hx hb hts hinX5 hown hK.1 hP 0 rfl rfl 0 (by decide) wf0 (fun _ h9 => h9) rfl dX5_residuals_6 ?_
    refine lv_iconst (v := 0) hx hb dX5_residuals_9 (by decide) ?_
    obtain ⟨b10, h⟩ := kIf h
    refine va_iald (f := vM.2.2.2.2.2.2.1) (n := 133) hx hb hK.1 hP 1 0 rfl rfl (kIn_ok b10) dX5_residuals_10 ?_
    refine lv_icmp_ge (tgt := 47) hx hb dX5_residuals_11 (by decide) (fun c11 => ?_) (fun c11 => ?_)
    · have h := kT h c11
      refine lv_lload_n hx hb dX5_residuals_47 rfl (lv_at hl 1 rfl) ?_
      obtain rfl := Option.some.inj h
      subst hQ
      exact W.lret (v := x1) hx hb hr (fun t ht hW => ⟨⟨x1, (), rfl, rfl, kEnd ht hP⟩, hS.F ht⟩) hS.2.2 dX5_residuals_48
    · have h := kF h c11
      refine lv_lload_n hx hb dX5_residuals_14 rfl (lv_at hl 1 rfl) ?_
      refine lv_aload_n hx hb dX5_residuals_15 rfl (lv_at hl 0 rfl) ?_
      refine lv_iload_n hx hb dX5_residuals_16 rfl (lv_at hl 2 rfl) ?_
      refine lv_bipush (v := 9) hx hb dX5_residuals_17 (by decide) ?_
      obtain ⟨r19, e19, h⟩ := kBd h
      refine kCallVI (As := [.int x3, .int (9 : Int32)]) (rest := [.long x1]) (wc := wM ty adM vM) (w1 := wM ty adM vM) (wn := wM ty adM vM) ⟨hx, hb, hml, hown, hts⟩ (cX5_of_ok l D ty adM H.size vM x3 (9 : Int32) r19 e19) (cwV 2 hts gX5_residuals_X5_of rfl rfl rfl (by decide +kernel) ⟨Nat.le_of_ble_eq_true rfl, Nat.le_of_ble_eq_true rfl⟩) hP hK hD hS hA [0, 1, 2, 3, 4, 5, 6] (by decide) rfl 5 0 rfl rfl rfl rfl hl.1 rfl (Nat.le_of_ble_eq_true rfl) dX5_residuals_19 ⟨Nat.le_of_ble_eq_true rfl, Nat.le_of_ble_eq_true rfl⟩ rfl rfl (fun H locs hP hD hS => ?_)
      refine lv_iconst (v := 1) hx hb dX5_residuals_22 (by decide) ?_
      refine lv_icmp_ne (tgt := 38) hx hb dX5_residuals_23 (by decide) (fun c23 => ?_) (fun c23 => ?_)
      · have h := kT h c23
        refine lv_lconst (v := 0) hx hb dX5_residuals_38 (by decide) ?_
        refine lv_ladd hx hb dX5_residuals_39 ?_
        refine lv_lstore_n (lv' := [(1, .long (x1 + (0 : Int64))), (0, .ref (adM 0)), (3, .int x3)]) hx hb dX5_residuals_40 rfl hl (by decide) rfl (fun ls hl => ?_)
        refine lv_iinc (v := (x3 + 1)) (lv' := [(3, .int (x3 + 1)), (1, .long (x1 + (0 : Int64))), (0, .ref (adM 0))]) hx hb dX5_residuals_41 hl (k := 2) rfl rfl (by decide) rfl (fun ls hl => ?_)
        refine lv_goto (tgt := 4) hx hb dX5_residuals_44 (by decide) ?_
        exact hn4 (x1 + (0 : Int64)) (x3 + 1) h H locs ls hP hD hS (lv_sub hl [2, 1, 0] rfl)
      · have h := kF h (fun z => z c23)
        refine lv_aload_n hx hb dX5_residuals_26 rfl (lv_at hl 0 rfl) ?_
        refine lv_iload_n hx hb dX5_residuals_27 rfl (lv_at hl 2 rfl) ?_
        obtain ⟨r28, e28, h⟩ := kBd h
        refine kCallVI (As := [.int x3]) (rest := [.long x1]) (wc := wM ty adM vM) (w1 := wM ty adM vM) (wn := wM ty adM vM) ⟨hx, hb, hml, hown, hts⟩ (cX5_residualOf_ok l D ty adM H.size vM x3 r28 e28) (cwV 1 hts gX5_residuals_X5_residualOf rfl rfl rfl (by decide +kernel) ⟨Nat.le_of_ble_eq_true rfl, Nat.le_of_ble_eq_true rfl⟩) hP hK hD hS hA [0, 1, 2, 3, 4, 5, 6] (by decide) rfl 5 0 rfl rfl rfl rfl hl.1 rfl (Nat.le_of_ble_eq_true rfl) dX5_residuals_28 ⟨Nat.le_of_ble_eq_true rfl, Nat.le_of_ble_eq_true rfl⟩ rfl rfl (fun H locs hP hD hS => ?_)
        refine lv_i2l hx hb dX5_residuals_31 rfl ?_
        obtain ⟨r32, e32, h⟩ := kBd h
        refine kCallSL (As := [.long r28.toInt64]) (rest := [.long x1]) ⟨hx, hb, hml, hown, hts⟩ (cX5_size_ok l D ty  H.size r28.toInt64 r32 e32) (va_cwS 1 hts gX5_residuals_X5_size rfl rfl rfl (by decide +kernel) ⟨Nat.le_of_ble_eq_true rfl, Nat.le_of_ble_eq_true rfl⟩) hP hK hD hS hA rfl hl.1 rfl (Nat.le_of_ble_eq_true rfl) dX5_residuals_32 ⟨Nat.le_of_ble_eq_true rfl, Nat.le_of_ble_eq_true rfl⟩ (fun H locs hP hS => ?_)
        refine lv_goto (tgt := 39) hx hb dX5_residuals_35 (by decide) ?_
        refine lv_ladd hx hb dX5_residuals_39 ?_
        refine lv_lstore_n (lv' := [(1, .long (x1 + r32)), (0, .ref (adM 0)), (3, .int x3)]) hx hb dX5_residuals_40 rfl hl (by decide) rfl (fun ls hl => ?_)
        refine lv_iinc (v := (x3 + 1)) (lv' := [(3, .int (x3 + 1)), (1, .long (x1 + r32)), (0, .ref (adM 0))]) hx hb dX5_residuals_41 hl (k := 2) rfl rfl (by decide) rfl (fun ls hl => ?_)
        refine lv_goto (tgt := 4) hx hb dX5_residuals_44 (by decide) ?_
        exact hn4 (x1 + r32) (x3 + 1) h H locs ls hP hD hS (lv_sub hl [2, 1, 0] rfl)
  have L4 : ∀  (n : Nat) (x1 : Int64) (x3 : Int32), kLoopC n (fun q nx4 => fX5_residuals_c4 vM q.1 q.2 nx4) (x1, x3) = some res → ∀ (H : Heap) (locs : List Loc) (ls : Array Slot), va_P D vwCl (wM ty adM vM) H → va_D A (wM ty adM vM) → va_S A s.heap H locs → lv_has ls 4 [(0, .ref (adM 0)), (1, .long x1), (3, .int x3)] → W p l e (headSpec wsX5_residuals { frames := 6, cells := 0, slots := 0, locals := 139 }).room s m ([.ref (adM 0)] : List Value).toArray below meth c H locs 0 0 Q (F0 m 4 ls []) := by
    intro  n
    induction n with
    | zero => intro x1 x3 h; exact absurd h (by simp [kLoopC])
    | succ n ih => intro x1 x3 h; exact B4  (kLoopC n (fun q nx4 => fX5_residuals_c4 vM q.1 q.2 nx4)) ih x1 x3 h
  have hl := lv_entry ([.ref (adM 0)]) (n := 4) (Nat.le_of_ble_eq_true rfl)
  rw [lg_entry_eq]
  generalize (lg_sl ([.ref (adM 0)]) ++ List.replicate (4 - (lg_sl ([.ref (adM 0)])).length) Slot.unset).toArray = ls at hl ⊢
  have hl : lv_has ls 4 [(0, .ref (adM 0))] := hl
  unfold fX5_residuals at h
  have E0 : ∀ (H : Heap) (locs : List Loc) (ls : Array Slot), va_P D vwCl (wM ty adM vM) H → va_D A (wM ty adM vM) → va_S A s.heap H locs → lv_has ls 4 [(0, .ref (adM 0))] → W p l e (headSpec wsX5_residuals { frames := 6, cells := 0, slots := 0, locals := 139 }).room s m ([.ref (adM 0)] : List Value).toArray below meth c H locs 0 0 Q (F0 m 0 ls []) := by
    intro H locs ls hP hD hS hl
    refine lv_lconst (v := 0) hx hb dX5_residuals_0 (by decide) ?_
    refine lv_lstore_n (lv' := [(1, .long (0 : Int64)), (0, .ref (adM 0))]) hx hb dX5_residuals_1 rfl hl (by decide) rfl (fun ls hl => ?_)
    refine lv_iconst (v := 0) hx hb dX5_residuals_2 (by decide) ?_
    refine lv_istore_n (lv' := [(3, .int (0 : Int32)), (1, .long (0 : Int64)), (0, .ref (adM 0))]) hx hb dX5_residuals_3 rfl hl (by decide) rfl (fun ls hl => ?_)
    exact L4   kFu (0 : Int64) (0 : Int32) h H locs ls hP hD hS (lv_sub hl [2, 1, 0] rfl)
  exact E0 s.heap [] ls hP hD hS hl
def fX5_bestFunction_c24 (uM : KM) (x1 : Int32) (x2 : Int32) (x3 : Int64) (x5 : Int32) (nx24 : KM × Int32 × Int64 × Int32 → Option (Int32 × KM)) : Option (Int32 × KM) := if (3 : Int32) ≤ x5 then (if kIn (2 : Int32) 133 = true then (some (x2, (uM.1, uM.2.1, uM.2.2.1, uM.2.2.2.1, uM.2.2.2.2.1, uM.2.2.2.2.2.1, (upd uM.2.2.2.2.2.2.1 (2 : Int32).toNatClampNeg x1), uM.2.2.2.2.2.2.2))) else none) else (if kIn (2 : Int32) 133 = true then ((fX5_residuals (uM.1, uM.2.1, uM.2.2.1, uM.2.2.2.1, uM.2.2.2.2.1, uM.2.2.2.2.2.1, (upd uM.2.2.2.2.2.2.1 (2 : Int32).toNatClampNeg x5), uM.2.2.2.2.2.2.2)).bind fun r39 => if x5 = (0 : Int32) then (if ¬ x5 = x5 then (nx24 ((uM.1, uM.2.1, uM.2.2.1, uM.2.2.2.1, uM.2.2.2.2.1, uM.2.2.2.2.2.1, (upd uM.2.2.2.2.2.2.1 (2 : Int32).toNatClampNeg x5), uM.2.2.2.2.2.2.2), x5, x3, (x5 + 1))) else (nx24 ((uM.1, uM.2.1, uM.2.2.1, uM.2.2.2.1, uM.2.2.2.2.1, uM.2.2.2.2.2.1, (upd uM.2.2.2.2.2.2.1 (2 : Int32).toNatClampNeg x5), uM.2.2.2.2.2.2.2), x5, r39, (x5 + 1)))) else (if x3 ≤ r39 then (if ¬ x2 = x5 then (nx24 ((uM.1, uM.2.1, uM.2.2.1, uM.2.2.2.1, uM.2.2.2.2.1, uM.2.2.2.2.2.1, (upd uM.2.2.2.2.2.2.1 (2 : Int32).toNatClampNeg x5), uM.2.2.2.2.2.2.2), x2, x3, (x5 + 1))) else (nx24 ((uM.1, uM.2.1, uM.2.2.1, uM.2.2.2.1, uM.2.2.2.2.1, uM.2.2.2.2.2.1, (upd uM.2.2.2.2.2.2.1 (2 : Int32).toNatClampNeg x5), uM.2.2.2.2.2.2.2), x2, r39, (x5 + 1)))) else (if ¬ x5 = x5 then (nx24 ((uM.1, uM.2.1, uM.2.2.1, uM.2.2.2.1, uM.2.2.2.2.1, uM.2.2.2.2.2.1, (upd uM.2.2.2.2.2.2.1 (2 : Int32).toNatClampNeg x5), uM.2.2.2.2.2.2.2), x5, x3, (x5 + 1))) else (nx24 ((uM.1, uM.2.1, uM.2.2.1, uM.2.2.2.1, uM.2.2.2.2.1, uM.2.2.2.2.2.1, (upd uM.2.2.2.2.2.2.1 (2 : Int32).toNatClampNeg x5), uM.2.2.2.2.2.2.2), x5, r39, (x5 + 1)))))) else none)
def fX5_bestFunction (vM : KM) : Option (Int32 × KM) := (fX5_ashes vM).bind fun r1 => if ¬ r1 = (0 : Int32) then (if kIn (2 : Int32) 133 = true then ((some (vM.2.2.2.2.2.2.1 (2 : Int32).toNatClampNeg)).bind fun y16 => kLoopC kFu (fun q nx24 => fX5_bestFunction_c24 q.1 y16 q.2.1 q.2.2.1 q.2.2.2 nx24) (vM, (0 : Int32), (0 : Int64), (0 : Int32))) else none) else (some ((-1000000005 : Int32), vM))
set_option maxHeartbeats 4000000 in
set_option maxRecDepth 100000 in
theorem cX5_bestFunction_ok (l : Launch) (D : va_G) (ty : kTy) (adM : Nat → Nat) (sz : Nat) (vM : KM) (res : Int32 × KM) (h : fX5_bestFunction vM = some res) : kMI l yX5_bestFunction wsX5_bestFunction { frames := 7, cells := 0, slots := 0, locals := 162 } [.ref (adM 0)] D ty (wM ty adM vM) sz res.1 (wM ty adM res.2) := by
  refine Met.ofW (cc := cX5_bestFunction) (maxL := 8) (ret := (some .int)) (by decide) rfl ?_
  intro p e s m args below meth c s₁ B hml hv
  obtain ⟨rfl, hsz, hP, hK, hD0⟩ := hv
  have hx := B.exec
  have hb := B.bytes
  have hr := B.returns
  have hts := atoms_spec (ws := wsX5_bestFunction) B.pre
  have hown : s.vm.findClass RX5 = some m.cls := findClass_of_methodNamed B.named
  have hlocks := B.notSynchronized
  subst hsz
  have hD := hD0.self (sz := s.heap.size)
  generalize hAe : va_A (wM ty adM vM) s.heap.size = A at hD ⊢
  have hA : ∀ q : Nat, s.heap.size ≤ q → A q := fun q h => by rw [← hAe]; exact Or.inr h
  have hS : va_S A s.heap s.heap [] := va_S.rf
  refine kGenW (fun Q hQ => ?_)
  have wf0 := hts (.fieldLink RX5 7 "IceCoreDaterModel" "now" "[I") (by decide +kernel)
  have hinX5 : ∀ w ∈ wsX50, w ∈ wsX5_bestFunction := by decide +kernel
  have wf2 := hts (.constant RX5 22 (-1000000005)) (by decide +kernel)
  have B24 : ∀ (x1 : Int32) (nx24 : KM × Int32 × Int64 × Int32 → Option (Int32 × KM)) (hn24 : ∀ (uM : KM) (x2 : Int32) (x3 : Int64) (x5 : Int32), nx24 (uM, x2, x3, x5) = some res → ∀ (H : Heap) (locs : List Loc) (ls : Array Slot), va_P D vwCl (wM ty adM uM) H → va_D A (wM ty adM uM) → va_S A s.heap H locs → lv_has ls 8 [(0, .ref (adM 0)), (1, .int x1), (2, .int x2), (3, .long x3), (5, .int x5)] → W p l e (headSpec wsX5_bestFunction { frames := 7, cells := 0, slots := 0, locals := 162 }).room s m ([.ref (adM 0)] : List Value).toArray below meth c H locs 0 0 Q (F0 m 24 ls [])) (uM : KM) (x2 : Int32) (x3 : Int64) (x5 : Int32), fX5_bestFunction_c24 uM x1 x2 x3 x5 nx24 = some res → ∀ (H : Heap) (locs : List Loc) (ls : Array Slot), va_P D vwCl (wM ty adM uM) H → va_D A (wM ty adM uM) → va_S A s.heap H locs → lv_has ls 8 [(0, .ref (adM 0)), (1, .int x1), (2, .int x2), (3, .long x3), (5, .int x5)] → W p l e (headSpec wsX5_bestFunction { frames := 7, cells := 0, slots := 0, locals := 162 }).room s m ([.ref (adM 0)] : List Value).toArray below meth c H locs 0 0 Q (F0 m 24 ls []) := by
    intro x1 nx24 hn24 uM x2 x3 x5 h H locs ls hP hD hS hl
    unfold fX5_bestFunction_c24 at h
    refine lv_iload hx hb dX5_bestFunction_24 (lv_at hl 4 rfl) ?_
    refine lv_iconst (v := 3) hx hb dX5_bestFunction_26 (by decide) ?_
    refine lv_icmp_ge (tgt := 82) hx hb dX5_bestFunction_27 (by decide) (fun c27 => ?_) (fun c27 => ?_)
    · have h := kT h c27
      refine lv_aload_n hx hb dX5_bestFunction_82 rfl (lv_at hl 0 rfl) ?_
      refine va_get (D := D) (ci := 5) (v := .ref (adM 1)) (C := RX5) (T := TX5) (N := 12) hx hb hts hinX5 hown hK.1 hP 0 rfl rfl 0 (by decide) wf0 (fun _ h9 => h9) rfl dX5_bestFunction_83 ?_
      refine lv_iconst (v := 2) hx hb dX5_bestFunction_86 (by decide) ?_
      refine lv_iload_n hx hb dX5_bestFunction_87 rfl (lv_at hl 1 rfl) ?_
      obtain ⟨b88, h⟩ := kIf h
      refine va_iast (f := uM.2.2.2.2.2.2.1) (n := 133) hx hb hK.1 hP hD hS 1 0 rfl rfl (kIn_ok b88) dX5_bestFunction_88 (fun H locs hP hD hS => ?_)
      have hP : va_P D vwCl (wM ty adM (uM.1, uM.2.1, uM.2.2.1, uM.2.2.2.1, uM.2.2.2.2.1, uM.2.2.2.2.2.1, (upd uM.2.2.2.2.2.2.1 (2 : Int32).toNatClampNeg x1), uM.2.2.2.2.2.2.2)) H := hP
      have hD : va_D A (wM ty adM (uM.1, uM.2.1, uM.2.2.1, uM.2.2.2.1, uM.2.2.2.2.1, uM.2.2.2.2.2.1, (upd uM.2.2.2.2.2.2.1 (2 : Int32).toNatClampNeg x1), uM.2.2.2.2.2.2.2)) := hD
      refine lv_iload_n hx hb dX5_bestFunction_89 rfl (lv_at hl 2 rfl) ?_
      obtain rfl := Option.some.inj h
      subst hQ
      exact W.iret (v := x2) hx hb hr (fun t ht hW => ⟨⟨x2, (), rfl, rfl, kEnd ht hP⟩, hS.F ht⟩) hS.2.2 dX5_bestFunction_90
    · have h := kF h c27
      refine lv_aload_n hx hb dX5_bestFunction_30 rfl (lv_at hl 0 rfl) ?_
      refine va_get (D := D) (ci := 5) (v := .ref (adM 1)) (C := RX5) (T := TX5) (N := 12) hx hb hts hinX5 hown hK.1 hP 0 rfl rfl 0 (by decide) wf0 (fun _ h9 => h9) rfl dX5_bestFunction_31 ?_
      refine lv_iconst (v := 2) hx hb dX5_bestFunction_34 (by decide) ?_
      refine lv_iload hx hb dX5_bestFunction_35 (lv_at hl 4 rfl) ?_
      obtain ⟨b37, h⟩ := kIf h
      refine va_iast (f := uM.2.2.2.2.2.2.1) (n := 133) hx hb hK.1 hP hD hS 1 0 rfl rfl (kIn_ok b37) dX5_bestFunction_37 (fun H locs hP hD hS => ?_)
      have hP : va_P D vwCl (wM ty adM (uM.1, uM.2.1, uM.2.2.1, uM.2.2.2.1, uM.2.2.2.2.1, uM.2.2.2.2.2.1, (upd uM.2.2.2.2.2.2.1 (2 : Int32).toNatClampNeg x5), uM.2.2.2.2.2.2.2)) H := hP
      have hD : va_D A (wM ty adM (uM.1, uM.2.1, uM.2.2.1, uM.2.2.2.1, uM.2.2.2.2.1, uM.2.2.2.2.2.1, (upd uM.2.2.2.2.2.2.1 (2 : Int32).toNatClampNeg x5), uM.2.2.2.2.2.2.2)) := hD
      refine lv_aload_n hx hb dX5_bestFunction_38 rfl (lv_at hl 0 rfl) ?_
      obtain ⟨r39, e39, h⟩ := kBd h
      refine kCallVL (As := []) (rest := []) (wc := wM ty adM (uM.1, uM.2.1, uM.2.2.1, uM.2.2.2.1, uM.2.2.2.2.1, uM.2.2.2.2.2.1, (upd uM.2.2.2.2.2.2.1 (2 : Int32).toNatClampNeg x5), uM.2.2.2.2.2.2.2)) (w1 := wM ty adM (uM.1, uM.2.1, uM.2.2.1, uM.2.2.2.1, uM.2.2.2.2.1, uM.2.2.2.2.2.1, (upd uM.2.2.2.2.2.2.1 (2 : Int32).toNatClampNeg x5), uM.2.2.2.2.2.2.2)) (wn := wM ty adM (uM.1, uM.2.1, uM.2.2.1, uM.2.2.2.1, uM.2.2.2.2.1, uM.2.2.2.2.2.1, (upd uM.2.2.2.2.2.2.1 (2 : Int32).toNatClampNeg x5), uM.2.2.2.2.2.2.2)) ⟨hx, hb, hml, hown, hts⟩ (cX5_residuals_ok l D ty adM H.size (uM.1, uM.2.1, uM.2.2.1, uM.2.2.2.1, uM.2.2.2.2.1, uM.2.2.2.2.2.1, (upd uM.2.2.2.2.2.2.1 (2 : Int32).toNatClampNeg x5), uM.2.2.2.2.2.2.2) r39 e39) (cwV 0 hts gX5_bestFunction_X5_residuals rfl rfl rfl (by decide +kernel) ⟨Nat.le_of_ble_eq_true rfl, Nat.le_of_ble_eq_true rfl⟩) hP hK hD hS hA [0, 1, 2, 3, 4, 5, 6] (by decide) rfl 5 0 rfl rfl rfl rfl hl.1 rfl (Nat.le_of_ble_eq_true rfl) dX5_bestFunction_39 ⟨Nat.le_of_ble_eq_true rfl, Nat.le_of_ble_eq_true rfl⟩ rfl rfl (fun H locs hP hD hS => ?_)
      refine lv_lstore (lv' := [(6, .long r39), (0, .ref (adM 0)), (1, .int x1), (2, .int x2), (3, .long x3), (5, .int x5)]) hx hb dX5_bestFunction_42 hl (by decide) rfl (fun ls hl => ?_)
      refine lv_iload hx hb dX5_bestFunction_44 (lv_at hl 5 rfl) ?_
      refine lv_if_eq (tgt := 56) hx hb dX5_bestFunction_46 (by decide) (fun c46 => ?_) (fun c46 => ?_)
      · have h := kT h c46
        refine lv_iload hx hb dX5_bestFunction_56 (lv_at hl 5 rfl) ?_
        refine lv_goto (tgt := 62) hx hb dX5_bestFunction_58 (by decide) ?_
        refine lv_istore_n (lv' := [(2, .int x5), (6, .long r39), (0, .ref (adM 0)), (1, .int x1), (3, .long x3), (5, .int x5)]) hx hb dX5_bestFunction_62 rfl hl (by decide) rfl (fun ls hl => ?_)
        refine lv_iload_n hx hb dX5_bestFunction_63 rfl (lv_at hl 0 rfl) ?_
        refine lv_iload hx hb dX5_bestFunction_64 (lv_at hl 5 rfl) ?_
        refine lv_icmp_ne (tgt := 74) hx hb dX5_bestFunction_66 (by decide) (fun c66 => ?_) (fun c66 => ?_)
        · have h := kT h c66
          refine lv_lload_n hx hb dX5_bestFunction_74 rfl (lv_at hl 4 rfl) ?_
          refine lv_lstore_n (lv' := [(3, .long x3), (2, .int x5), (6, .long r39), (0, .ref (adM 0)), (1, .int x1), (5, .int x5)]) hx hb dX5_bestFunction_75 rfl hl (by decide) rfl (fun ls hl => ?_)
          refine lv_iinc (v := (x5 + 1)) (lv' := [(5, .int (x5 + 1)), (3, .long x3), (2, .int x5), (6, .long r39), (0, .ref (adM 0)), (1, .int x1)]) hx hb dX5_bestFunction_76 hl (k := 5) rfl rfl (by decide) rfl (fun ls hl => ?_)
          refine lv_goto (tgt := 24) hx hb dX5_bestFunction_79 (by decide) ?_
          exact hn24 (uM.1, uM.2.1, uM.2.2.1, uM.2.2.2.1, uM.2.2.2.2.1, uM.2.2.2.2.2.1, (upd uM.2.2.2.2.2.2.1 (2 : Int32).toNatClampNeg x5), uM.2.2.2.2.2.2.2) x5 x3 (x5 + 1) h H locs ls hP hD hS (lv_sub hl [4, 5, 2, 1, 0] rfl)
        · have h := kF h (fun z => z c66)
          refine lv_lload hx hb dX5_bestFunction_69 (lv_at hl 1 rfl) ?_
          refine lv_goto (tgt := 75) hx hb dX5_bestFunction_71 (by decide) ?_
          refine lv_lstore_n (lv' := [(3, .long r39), (2, .int x5), (6, .long r39), (0, .ref (adM 0)), (1, .int x1), (5, .int x5)]) hx hb dX5_bestFunction_75 rfl hl (by decide) rfl (fun ls hl => ?_)
          refine lv_iinc (v := (x5 + 1)) (lv' := [(5, .int (x5 + 1)), (3, .long r39), (2, .int x5), (6, .long r39), (0, .ref (adM 0)), (1, .int x1)]) hx hb dX5_bestFunction_76 hl (k := 5) rfl rfl (by decide) rfl (fun ls hl => ?_)
          refine lv_goto (tgt := 24) hx hb dX5_bestFunction_79 (by decide) ?_
          exact hn24 (uM.1, uM.2.1, uM.2.2.1, uM.2.2.2.1, uM.2.2.2.2.1, uM.2.2.2.2.2.1, (upd uM.2.2.2.2.2.2.1 (2 : Int32).toNatClampNeg x5), uM.2.2.2.2.2.2.2) x5 r39 (x5 + 1) h H locs ls hP hD hS (lv_sub hl [4, 5, 2, 1, 0] rfl)
      · have h := kF h c46
        refine lv_lload hx hb dX5_bestFunction_49 (lv_at hl 0 rfl) ?_
        refine lv_lload_n hx hb dX5_bestFunction_51 rfl (lv_at hl 4 rfl) ?_
        refine W.lcmp hx hb dX5_bestFunction_52 ?_
        refine lv_if_ge (tgt := 61) hx hb dX5_bestFunction_53 (by decide) (fun c53 => ?_) (fun c53 => ?_)
        · have h := kT h ((lg_cmp_ge _ _).mp c53)
          refine lv_iload_n hx hb dX5_bestFunction_61 rfl (lv_at hl 3 rfl) ?_
          refine lv_istore_n (lv' := [(2, .int x2), (6, .long r39), (0, .ref (adM 0)), (1, .int x1), (3, .long x3), (5, .int x5)]) hx hb dX5_bestFunction_62 rfl hl (by decide) rfl (fun ls hl => ?_)
          refine lv_iload_n hx hb dX5_bestFunction_63 rfl (lv_at hl 0 rfl) ?_
          refine lv_iload hx hb dX5_bestFunction_64 (lv_at hl 5 rfl) ?_
          refine lv_icmp_ne (tgt := 74) hx hb dX5_bestFunction_66 (by decide) (fun c66 => ?_) (fun c66 => ?_)
          · have h := kT h c66
            refine lv_lload_n hx hb dX5_bestFunction_74 rfl (lv_at hl 4 rfl) ?_
            refine lv_lstore_n (lv' := [(3, .long x3), (2, .int x2), (6, .long r39), (0, .ref (adM 0)), (1, .int x1), (5, .int x5)]) hx hb dX5_bestFunction_75 rfl hl (by decide) rfl (fun ls hl => ?_)
            refine lv_iinc (v := (x5 + 1)) (lv' := [(5, .int (x5 + 1)), (3, .long x3), (2, .int x2), (6, .long r39), (0, .ref (adM 0)), (1, .int x1)]) hx hb dX5_bestFunction_76 hl (k := 5) rfl rfl (by decide) rfl (fun ls hl => ?_)
            refine lv_goto (tgt := 24) hx hb dX5_bestFunction_79 (by decide) ?_
            exact hn24 (uM.1, uM.2.1, uM.2.2.1, uM.2.2.2.1, uM.2.2.2.2.1, uM.2.2.2.2.2.1, (upd uM.2.2.2.2.2.2.1 (2 : Int32).toNatClampNeg x5), uM.2.2.2.2.2.2.2) x2 x3 (x5 + 1) h H locs ls hP hD hS (lv_sub hl [4, 5, 2, 1, 0] rfl)
          · have h := kF h (fun z => z c66)
            refine lv_lload hx hb dX5_bestFunction_69 (lv_at hl 1 rfl) ?_
            refine lv_goto (tgt := 75) hx hb dX5_bestFunction_71 (by decide) ?_
            refine lv_lstore_n (lv' := [(3, .long r39), (2, .int x2), (6, .long r39), (0, .ref (adM 0)), (1, .int x1), (5, .int x5)]) hx hb dX5_bestFunction_75 rfl hl (by decide) rfl (fun ls hl => ?_)
            refine lv_iinc (v := (x5 + 1)) (lv' := [(5, .int (x5 + 1)), (3, .long r39), (2, .int x2), (6, .long r39), (0, .ref (adM 0)), (1, .int x1)]) hx hb dX5_bestFunction_76 hl (k := 5) rfl rfl (by decide) rfl (fun ls hl => ?_)
            refine lv_goto (tgt := 24) hx hb dX5_bestFunction_79 (by decide) ?_
            exact hn24 (uM.1, uM.2.1, uM.2.2.1, uM.2.2.2.1, uM.2.2.2.2.1, uM.2.2.2.2.2.1, (upd uM.2.2.2.2.2.2.1 (2 : Int32).toNatClampNeg x5), uM.2.2.2.2.2.2.2) x2 r39 (x5 + 1) h H locs ls hP hD hS (lv_sub hl [4, 5, 2, 1, 0] rfl)
        · have h := kF h (fun z => c53 ((lg_cmp_ge _ _).mpr z))
          refine lv_iload hx hb dX5_bestFunction_56 (lv_at hl 5 rfl) ?_
          refine lv_goto (tgt := 62) hx hb dX5_bestFunction_58 (by decide) ?_
          refine lv_istore_n (lv' := [(2, .int x5), (6, .long r39), (0, .ref (adM 0)), (1, .int x1), (3, .long x3), (5, .int x5)]) hx hb dX5_bestFunction_62 rfl hl (by decide) rfl (fun ls hl => ?_)
          refine lv_iload_n hx hb dX5_bestFunction_63 rfl (lv_at hl 0 rfl) ?_
          refine lv_iload hx hb dX5_bestFunction_64 (lv_at hl 5 rfl) ?_
          refine lv_icmp_ne (tgt := 74) hx hb dX5_bestFunction_66 (by decide) (fun c66 => ?_) (fun c66 => ?_)
          · have h := kT h c66
            refine lv_lload_n hx hb dX5_bestFunction_74 rfl (lv_at hl 4 rfl) ?_
            refine lv_lstore_n (lv' := [(3, .long x3), (2, .int x5), (6, .long r39), (0, .ref (adM 0)), (1, .int x1), (5, .int x5)]) hx hb dX5_bestFunction_75 rfl hl (by decide) rfl (fun ls hl => ?_)
            refine lv_iinc (v := (x5 + 1)) (lv' := [(5, .int (x5 + 1)), (3, .long x3), (2, .int x5), (6, .long r39), (0, .ref (adM 0)), (1, .int x1)]) hx hb dX5_bestFunction_76 hl (k := 5) rfl rfl (by decide) rfl (fun ls hl => ?_)
            refine lv_goto (tgt := 24) hx hb dX5_bestFunction_79 (by decide) ?_
            exact hn24 (uM.1, uM.2.1, uM.2.2.1, uM.2.2.2.1, uM.2.2.2.2.1, uM.2.2.2.2.2.1, (upd uM.2.2.2.2.2.2.1 (2 : Int32).toNatClampNeg x5), uM.2.2.2.2.2.2.2) x5 x3 (x5 + 1) h H locs ls hP hD hS (lv_sub hl [4, 5, 2, 1, 0] rfl)
          · have h := kF h (fun z => z c66)
            refine lv_lload hx hb dX5_bestFunction_69 (lv_at hl 1 rfl) ?_
            refine lv_goto (tgt := 75) hx hb dX5_bestFunction_71 (by decide) ?_
            refine lv_lstore_n (lv' := [(3, .long r39), (2, .int x5), (6, .long r39), (0, .ref (adM 0)), (1, .int x1), (5, .int x5)]) hx hb dX5_bestFunction_75 rfl hl (by decide) rfl (fun ls hl => ?_)
            refine lv_iinc (v := (x5 + 1)) (lv' := [(5, .int (x5 + 1)), (3, .long r39), (2, .int x5), (6, .long r39), (0, .ref (adM 0)), (1, .int x1)]) hx hb dX5_bestFunction_76 hl (k := 5) rfl rfl (by decide) rfl (fun ls hl => ?_)
            refine lv_goto (tgt := 24) hx hb dX5_bestFunction_79 (by decide) ?_
            exact hn24 (uM.1, uM.2.1, uM.2.2.1, uM.2.2.2.1, uM.2.2.2.2.1, uM.2.2.2.2.2.1, (upd uM.2.2.2.2.2.2.1 (2 : Int32).toNatClampNeg x5), uM.2.2.2.2.2.2.2) x5 r39 (x5 + 1) h H locs ls hP hD hS (lv_sub hl [4, 5, 2, 1, 0] rfl)
  have L24 : ∀ (x1 : Int32) (n : Nat) (uM : KM) (x2 : Int32) (x3 : Int64) (x5 : Int32), kLoopC n (fun q nx24 => fX5_bestFunction_c24 q.1 x1 q.2.1 q.2.2.1 q.2.2.2 nx24) (uM, x2, x3, x5) = some res → ∀ (H : Heap) (locs : List Loc) (ls : Array Slot), va_P D vwCl (wM ty adM uM) H → va_D A (wM ty adM uM) → va_S A s.heap H locs → lv_has ls 8 [(0, .ref (adM 0)), (1, .int x1), (2, .int x2), (3, .long x3), (5, .int x5)] → W p l e (headSpec wsX5_bestFunction { frames := 7, cells := 0, slots := 0, locals := 162 }).room s m ([.ref (adM 0)] : List Value).toArray below meth c H locs 0 0 Q (F0 m 24 ls []) := by
    intro x1 n
    induction n with
    | zero => intro uM x2 x3 x5 h; exact absurd h (by simp [kLoopC])
    | succ n ih => intro uM x2 x3 x5 h; exact B24 x1 (kLoopC n (fun q nx24 => fX5_bestFunction_c24 q.1 x1 q.2.1 q.2.2.1 q.2.2.2 nx24)) ih uM x2 x3 x5 h
  have hl := lv_entry ([.ref (adM 0)]) (n := 8) (Nat.le_of_ble_eq_true rfl)
  rw [lg_entry_eq]
  generalize (lg_sl ([.ref (adM 0)]) ++ List.replicate (8 - (lg_sl ([.ref (adM 0)])).length) Slot.unset).toArray = ls at hl ⊢
  have hl : lv_has ls 8 [(0, .ref (adM 0))] := hl
  unfold fX5_bestFunction at h
  have E0 : ∀ (H : Heap) (locs : List Loc) (ls : Array Slot), va_P D vwCl (wM ty adM vM) H → va_D A (wM ty adM vM) → va_S A s.heap H locs → lv_has ls 8 [(0, .ref (adM 0))] → W p l e (headSpec wsX5_bestFunction { frames := 7, cells := 0, slots := 0, locals := 162 }).room s m ([.ref (adM 0)] : List Value).toArray below meth c H locs 0 0 Q (F0 m 0 ls []) := by
    intro H locs ls hP hD hS hl
    refine lv_aload_n hx hb dX5_bestFunction_0 rfl (lv_at hl 0 rfl) ?_
    obtain ⟨r1, e1, h⟩ := kBd h
    refine kCallVI (As := []) (rest := []) (wc := wM ty adM vM) (w1 := wM ty adM vM) (wn := wM ty adM vM) ⟨hx, hb, hml, hown, hts⟩ (cX5_ashes_ok l D ty adM H.size vM r1 e1) (cwV 0 hts gX5_bestFunction_X5_ashes rfl rfl rfl (by decide +kernel) ⟨Nat.le_of_ble_eq_true rfl, Nat.le_of_ble_eq_true rfl⟩) hP hK hD hS hA [0, 1, 2, 3, 4, 5, 6] (by decide) rfl 5 0 rfl rfl rfl rfl hl.1 rfl (Nat.le_of_ble_eq_true rfl) dX5_bestFunction_1 ⟨Nat.le_of_ble_eq_true rfl, Nat.le_of_ble_eq_true rfl⟩ rfl rfl (fun H locs hP hD hS => ?_)
    refine lv_if_ne (tgt := 10) hx hb dX5_bestFunction_4 (by decide) (fun c4 => ?_) (fun c4 => ?_)
    · have h := kT h c4
      refine lv_aload_n hx hb dX5_bestFunction_10 rfl (lv_at hl 0 rfl) ?_
      refine va_get (D := D) (ci := 5) (v := .ref (adM 1)) (C := RX5) (T := TX5) (N := 12) hx hb hts hinX5 hown hK.1 hP 0 rfl rfl 0 (by decide) wf0 (fun _ h9 => h9) rfl dX5_bestFunction_11 ?_
      refine lv_iconst (v := 2) hx hb dX5_bestFunction_14 (by decide) ?_
      obtain ⟨b15, h⟩ := kIf h
      refine va_iald (f := vM.2.2.2.2.2.2.1) (n := 133) hx hb hK.1 hP 1 0 rfl rfl (kIn_ok b15) dX5_bestFunction_15 ?_
      refine lv_topi (fun y16 ey16 => ?_)
      have h := kBs h ey16
      refine lv_istore_n (lv' := [(1, .int y16), (0, .ref (adM 0))]) hx hb dX5_bestFunction_16 rfl hl (by decide) rfl (fun ls hl => ?_)
      refine lv_iconst (v := 0) hx hb dX5_bestFunction_17 (by decide) ?_
      refine lv_istore_n (lv' := [(2, .int (0 : Int32)), (1, .int y16), (0, .ref (adM 0))]) hx hb dX5_bestFunction_18 rfl hl (by decide) rfl (fun ls hl => ?_)
      refine lv_lconst (v := 0) hx hb dX5_bestFunction_19 (by decide) ?_
      refine lv_lstore_n (lv' := [(3, .long (0 : Int64)), (2, .int (0 : Int32)), (1, .int y16), (0, .ref (adM 0))]) hx hb dX5_bestFunction_20 rfl hl (by decide) rfl (fun ls hl => ?_)
      refine lv_iconst (v := 0) hx hb dX5_bestFunction_21 (by decide) ?_
      refine lv_istore (lv' := [(5, .int (0 : Int32)), (3, .long (0 : Int64)), (2, .int (0 : Int32)), (1, .int y16), (0, .ref (adM 0))]) hx hb dX5_bestFunction_22 hl (by decide) rfl (fun ls hl => ?_)
      exact L24 y16  kFu vM (0 : Int32) (0 : Int64) (0 : Int32) h H locs ls hP hD hS (lv_sub hl [4, 3, 2, 1, 0] rfl)
    · have h := kF h (fun z => z c4)
      refine lv_ldc hx hb hown wf2 dX5_bestFunction_7 ?_
      obtain rfl := Option.some.inj h
      subst hQ
      exact W.iret (v := (-1000000005 : Int32)) hx hb hr (fun t ht hW => ⟨⟨(-1000000005 : Int32), (), rfl, rfl, kEnd ht hP⟩, hS.F ht⟩) hS.2.2 dX5_bestFunction_9
  exact E0 s.heap [] ls hP hD hS hl
def fX5_bestKink_c39 (uM : KM) (x1 : Int32) (x2 : Int32) (x3 : Int32) (x4 : Int64) (x6 : Int32) (nx39 : KM × Int32 × Int64 × Int32 → Option (Int32 × KM)) : Option (Int32 × KM) := if (900 : Int32) < x6 then (if kIn (2 : Int32) 133 = true then (if kIn (3 : Int32) 133 = true then (some (x3, (uM.1, uM.2.1, uM.2.2.1, uM.2.2.2.1, uM.2.2.2.2.1, uM.2.2.2.2.2.1, (upd (upd uM.2.2.2.2.2.2.1 (2 : Int32).toNatClampNeg x1) (3 : Int32).toNatClampNeg x2), uM.2.2.2.2.2.2.2))) else none) else none) else (if kIn (3 : Int32) 133 = true then ((fX5_residuals (uM.1, uM.2.1, uM.2.2.1, uM.2.2.2.1, uM.2.2.2.2.1, uM.2.2.2.2.2.1, (upd uM.2.2.2.2.2.2.1 (3 : Int32).toNatClampNeg x6), uM.2.2.2.2.2.2.2)).bind fun r56 => if x6 = (0 : Int32) then (if ¬ x6 = x6 then (nx39 ((uM.1, uM.2.1, uM.2.2.1, uM.2.2.2.1, uM.2.2.2.2.1, uM.2.2.2.2.2.1, (upd uM.2.2.2.2.2.2.1 (3 : Int32).toNatClampNeg x6), uM.2.2.2.2.2.2.2), x6, x4, (x6 + 25))) else (nx39 ((uM.1, uM.2.1, uM.2.2.1, uM.2.2.2.1, uM.2.2.2.2.1, uM.2.2.2.2.2.1, (upd uM.2.2.2.2.2.2.1 (3 : Int32).toNatClampNeg x6), uM.2.2.2.2.2.2.2), x6, r56, (x6 + 25)))) else (if x4 ≤ r56 then (if ¬ x3 = x6 then (nx39 ((uM.1, uM.2.1, uM.2.2.1, uM.2.2.2.1, uM.2.2.2.2.1, uM.2.2.2.2.2.1, (upd uM.2.2.2.2.2.2.1 (3 : Int32).toNatClampNeg x6), uM.2.2.2.2.2.2.2), x3, x4, (x6 + 25))) else (nx39 ((uM.1, uM.2.1, uM.2.2.1, uM.2.2.2.1, uM.2.2.2.2.1, uM.2.2.2.2.2.1, (upd uM.2.2.2.2.2.2.1 (3 : Int32).toNatClampNeg x6), uM.2.2.2.2.2.2.2), x3, r56, (x6 + 25)))) else (if ¬ x6 = x6 then (nx39 ((uM.1, uM.2.1, uM.2.2.1, uM.2.2.2.1, uM.2.2.2.2.1, uM.2.2.2.2.2.1, (upd uM.2.2.2.2.2.2.1 (3 : Int32).toNatClampNeg x6), uM.2.2.2.2.2.2.2), x6, x4, (x6 + 25))) else (nx39 ((uM.1, uM.2.1, uM.2.2.1, uM.2.2.2.1, uM.2.2.2.2.1, uM.2.2.2.2.2.1, (upd uM.2.2.2.2.2.2.1 (3 : Int32).toNatClampNeg x6), uM.2.2.2.2.2.2.2), x6, r56, (x6 + 25)))))) else none)
def fX5_bestKink (vM : KM) : Option (Int32 × KM) := (fX5_ashes vM).bind fun r1 => if ¬ r1 = (0 : Int32) then (if kIn (2 : Int32) 133 = true then ((some (vM.2.2.2.2.2.2.1 (2 : Int32).toNatClampNeg)).bind fun y16 => if kIn (3 : Int32) 133 = true then ((some (vM.2.2.2.2.2.2.1 (3 : Int32).toNatClampNeg)).bind fun y23 => if kIn (2 : Int32) 133 = true then (kLoopC kFu (fun q nx39 => fX5_bestKink_c39 q.1 y16 y23 q.2.1 q.2.2.1 q.2.2.2 nx39) ((vM.1, vM.2.1, vM.2.2.1, vM.2.2.2.1, vM.2.2.2.2.1, vM.2.2.2.2.2.1, (upd vM.2.2.2.2.2.2.1 (2 : Int32).toNatClampNeg (1 : Int32)), vM.2.2.2.2.2.2.2), (0 : Int32), (0 : Int64), (0 : Int32))) else none) else none) else none) else (some ((-1000000005 : Int32), vM))
set_option maxHeartbeats 4000000 in
set_option maxRecDepth 100000 in
theorem cX5_bestKink_ok (l : Launch) (D : va_G) (ty : kTy) (adM : Nat → Nat) (sz : Nat) (vM : KM) (res : Int32 × KM) (h : fX5_bestKink vM = some res) : kMI l yX5_bestKink wsX5_bestKink { frames := 7, cells := 0, slots := 0, locals := 162 } [.ref (adM 0)] D ty (wM ty adM vM) sz res.1 (wM ty adM res.2) := by
  refine Met.ofW (cc := cX5_bestKink) (maxL := 9) (ret := (some .int)) (by decide) rfl ?_
  intro p e s m args below meth c s₁ B hml hv
  obtain ⟨rfl, hsz, hP, hK, hD0⟩ := hv
  have hx := B.exec
  have hb := B.bytes
  have hr := B.returns
  have hts := atoms_spec (ws := wsX5_bestKink) B.pre
  have hown : s.vm.findClass RX5 = some m.cls := findClass_of_methodNamed B.named
  have hlocks := B.notSynchronized
  subst hsz
  have hD := hD0.self (sz := s.heap.size)
  generalize hAe : va_A (wM ty adM vM) s.heap.size = A at hD ⊢
  have hA : ∀ q : Nat, s.heap.size ≤ q → A q := fun q h => by rw [← hAe]; exact Or.inr h
  have hS : va_S A s.heap s.heap [] := va_S.rf
  refine kGenW (fun Q hQ => ?_)
  have wf0 := hts (.fieldLink RX5 7 "IceCoreDaterModel" "now" "[I") (by decide +kernel)
  have hinX5 : ∀ w ∈ wsX50, w ∈ wsX5_bestKink := by decide +kernel
  have wf2 := hts (.constant RX5 22 (-1000000005)) (by decide +kernel)
  have B39 : ∀ (x1 : Int32) (x2 : Int32) (nx39 : KM × Int32 × Int64 × Int32 → Option (Int32 × KM)) (hn39 : ∀ (uM : KM) (x3 : Int32) (x4 : Int64) (x6 : Int32), nx39 (uM, x3, x4, x6) = some res → ∀ (H : Heap) (locs : List Loc) (ls : Array Slot), va_P D vwCl (wM ty adM uM) H → va_D A (wM ty adM uM) → va_S A s.heap H locs → lv_has ls 9 [(0, .ref (adM 0)), (1, .int x1), (2, .int x2), (3, .int x3), (4, .long x4), (6, .int x6)] → W p l e (headSpec wsX5_bestKink { frames := 7, cells := 0, slots := 0, locals := 162 }).room s m ([.ref (adM 0)] : List Value).toArray below meth c H locs 0 0 Q (F0 m 39 ls [])) (uM : KM) (x3 : Int32) (x4 : Int64) (x6 : Int32), fX5_bestKink_c39 uM x1 x2 x3 x4 x6 nx39 = some res → ∀ (H : Heap) (locs : List Loc) (ls : Array Slot), va_P D vwCl (wM ty adM uM) H → va_D A (wM ty adM uM) → va_S A s.heap H locs → lv_has ls 9 [(0, .ref (adM 0)), (1, .int x1), (2, .int x2), (3, .int x3), (4, .long x4), (6, .int x6)] → W p l e (headSpec wsX5_bestKink { frames := 7, cells := 0, slots := 0, locals := 162 }).room s m ([.ref (adM 0)] : List Value).toArray below meth c H locs 0 0 Q (F0 m 39 ls []) := by
    intro x1 x2 nx39 hn39 uM x3 x4 x6 h H locs ls hP hD hS hl
    unfold fX5_bestKink_c39 at h
    refine lv_iload hx hb dX5_bestKink_39 (lv_at hl 5 rfl) ?_
    refine lv_sipush (v := 900) hx hb dX5_bestKink_41 (by decide) ?_
    refine lv_icmp_gt (tgt := 102) hx hb dX5_bestKink_44 (by decide) (fun c44 => ?_) (fun c44 => ?_)
    · have h := kT h c44
      refine lv_aload_n hx hb dX5_bestKink_102 rfl (lv_at hl 0 rfl) ?_
      refine va_get (D := D) (ci := 5) (v := .ref (adM 1)) (C := RX5) (T := TX5) (N := 12) hx hb hts hinX5 hown hK.1 hP 0 rfl rfl 0 (by decide) wf0 (fun _ h9 => h9) rfl dX5_bestKink_103 ?_
      refine lv_iconst (v := 2) hx hb dX5_bestKink_106 (by decide) ?_
      refine lv_iload_n hx hb dX5_bestKink_107 rfl (lv_at hl 1 rfl) ?_
      obtain ⟨b108, h⟩ := kIf h
      refine va_iast (f := uM.2.2.2.2.2.2.1) (n := 133) hx hb hK.1 hP hD hS 1 0 rfl rfl (kIn_ok b108) dX5_bestKink_108 (fun H locs hP hD hS => ?_)
      have hP : va_P D vwCl (wM ty adM (uM.1, uM.2.1, uM.2.2.1, uM.2.2.2.1, uM.2.2.2.2.1, uM.2.2.2.2.2.1, (upd uM.2.2.2.2.2.2.1 (2 : Int32).toNatClampNeg x1), uM.2.2.2.2.2.2.2)) H := hP
      have hD : va_D A (wM ty adM (uM.1, uM.2.1, uM.2.2.1, uM.2.2.2.1, uM.2.2.2.2.1, uM.2.2.2.2.2.1, (upd uM.2.2.2.2.2.2.1 (2 : Int32).toNatClampNeg x1), uM.2.2.2.2.2.2.2)) := hD
      refine lv_aload_n hx hb dX5_bestKink_109 rfl (lv_at hl 0 rfl) ?_
      refine va_get (D := D) (ci := 5) (v := .ref (adM 1)) (C := RX5) (T := TX5) (N := 12) hx hb hts hinX5 hown hK.1 hP 0 rfl rfl 0 (by decide) wf0 (fun _ h9 => h9) rfl dX5_bestKink_110 ?_
      refine lv_iconst (v := 3) hx hb dX5_bestKink_113 (by decide) ?_
      refine lv_iload_n hx hb dX5_bestKink_114 rfl (lv_at hl 2 rfl) ?_
      obtain ⟨b115, h⟩ := kIf h
      refine va_iast (f := (upd uM.2.2.2.2.2.2.1 (2 : Int32).toNatClampNeg x1)) (n := 133) hx hb hK.1 hP hD hS 1 0 rfl rfl (kIn_ok b115) dX5_bestKink_115 (fun H locs hP hD hS => ?_)
      have hP : va_P D vwCl (wM ty adM (uM.1, uM.2.1, uM.2.2.1, uM.2.2.2.1, uM.2.2.2.2.1, uM.2.2.2.2.2.1, (upd (upd uM.2.2.2.2.2.2.1 (2 : Int32).toNatClampNeg x1) (3 : Int32).toNatClampNeg x2), uM.2.2.2.2.2.2.2)) H := hP
      have hD : va_D A (wM ty adM (uM.1, uM.2.1, uM.2.2.1, uM.2.2.2.1, uM.2.2.2.2.1, uM.2.2.2.2.2.1, (upd (upd uM.2.2.2.2.2.2.1 (2 : Int32).toNatClampNeg x1) (3 : Int32).toNatClampNeg x2), uM.2.2.2.2.2.2.2)) := hD
      refine lv_iload_n hx hb dX5_bestKink_116 rfl (lv_at hl 3 rfl) ?_
      obtain rfl := Option.some.inj h
      subst hQ
      exact W.iret (v := x3) hx hb hr (fun t ht hW => ⟨⟨x3, (), rfl, rfl, kEnd ht hP⟩, hS.F ht⟩) hS.2.2 dX5_bestKink_117
    · have h := kF h c44
      refine lv_aload_n hx hb dX5_bestKink_47 rfl (lv_at hl 0 rfl) ?_
      refine va_get (D := D) (ci := 5) (v := .ref (adM 1)) (C := RX5) (T := TX5) (N := 12) hx hb hts hinX5 hown hK.1 hP 0 rfl rfl 0 (by decide) wf0 (fun _ h9 => h9) rfl dX5_bestKink_48 ?_
      refine lv_iconst (v := 3) hx hb dX5_bestKink_51 (by decide) ?_
      refine lv_iload hx hb dX5_bestKink_52 (lv_at hl 5 rfl) ?_
      obtain ⟨b54, h⟩ := kIf h
      refine va_iast (f := uM.2.2.2.2.2.2.1) (n := 133) hx hb hK.1 hP hD hS 1 0 rfl rfl (kIn_ok b54) dX5_bestKink_54 (fun H locs hP hD hS => ?_)
      have hP : va_P D vwCl (wM ty adM (uM.1, uM.2.1, uM.2.2.1, uM.2.2.2.1, uM.2.2.2.2.1, uM.2.2.2.2.2.1, (upd uM.2.2.2.2.2.2.1 (3 : Int32).toNatClampNeg x6), uM.2.2.2.2.2.2.2)) H := hP
      have hD : va_D A (wM ty adM (uM.1, uM.2.1, uM.2.2.1, uM.2.2.2.1, uM.2.2.2.2.1, uM.2.2.2.2.2.1, (upd uM.2.2.2.2.2.2.1 (3 : Int32).toNatClampNeg x6), uM.2.2.2.2.2.2.2)) := hD
      refine lv_aload_n hx hb dX5_bestKink_55 rfl (lv_at hl 0 rfl) ?_
      obtain ⟨r56, e56, h⟩ := kBd h
      refine kCallVL (As := []) (rest := []) (wc := wM ty adM (uM.1, uM.2.1, uM.2.2.1, uM.2.2.2.1, uM.2.2.2.2.1, uM.2.2.2.2.2.1, (upd uM.2.2.2.2.2.2.1 (3 : Int32).toNatClampNeg x6), uM.2.2.2.2.2.2.2)) (w1 := wM ty adM (uM.1, uM.2.1, uM.2.2.1, uM.2.2.2.1, uM.2.2.2.2.1, uM.2.2.2.2.2.1, (upd uM.2.2.2.2.2.2.1 (3 : Int32).toNatClampNeg x6), uM.2.2.2.2.2.2.2)) (wn := wM ty adM (uM.1, uM.2.1, uM.2.2.1, uM.2.2.2.1, uM.2.2.2.2.1, uM.2.2.2.2.2.1, (upd uM.2.2.2.2.2.2.1 (3 : Int32).toNatClampNeg x6), uM.2.2.2.2.2.2.2)) ⟨hx, hb, hml, hown, hts⟩ (cX5_residuals_ok l D ty adM H.size (uM.1, uM.2.1, uM.2.2.1, uM.2.2.2.1, uM.2.2.2.2.1, uM.2.2.2.2.2.1, (upd uM.2.2.2.2.2.2.1 (3 : Int32).toNatClampNeg x6), uM.2.2.2.2.2.2.2) r56 e56) (cwV 0 hts gX5_bestKink_X5_residuals rfl rfl rfl (by decide +kernel) ⟨Nat.le_of_ble_eq_true rfl, Nat.le_of_ble_eq_true rfl⟩) hP hK hD hS hA [0, 1, 2, 3, 4, 5, 6] (by decide) rfl 5 0 rfl rfl rfl rfl hl.1 rfl (Nat.le_of_ble_eq_true rfl) dX5_bestKink_56 ⟨Nat.le_of_ble_eq_true rfl, Nat.le_of_ble_eq_true rfl⟩ rfl rfl (fun H locs hP hD hS => ?_)
      refine lv_lstore (lv' := [(7, .long r56), (0, .ref (adM 0)), (1, .int x1), (2, .int x2), (3, .int x3), (4, .long x4), (6, .int x6)]) hx hb dX5_bestKink_59 hl (by decide) rfl (fun ls hl => ?_)
      refine lv_iload hx hb dX5_bestKink_61 (lv_at hl 6 rfl) ?_
      refine lv_if_eq (tgt := 74) hx hb dX5_bestKink_63 (by decide) (fun c63 => ?_) (fun c63 => ?_)
      · have h := kT h c63
        refine lv_iload hx hb dX5_bestKink_74 (lv_at hl 6 rfl) ?_
        refine lv_goto (tgt := 80) hx hb dX5_bestKink_76 (by decide) ?_
        refine lv_istore_n (lv' := [(3, .int x6), (7, .long r56), (0, .ref (adM 0)), (1, .int x1), (2, .int x2), (4, .long x4), (6, .int x6)]) hx hb dX5_bestKink_80 rfl hl (by decide) rfl (fun ls hl => ?_)
        refine lv_iload_n hx hb dX5_bestKink_81 rfl (lv_at hl 0 rfl) ?_
        refine lv_iload hx hb dX5_bestKink_82 (lv_at hl 6 rfl) ?_
        refine lv_icmp_ne (tgt := 92) hx hb dX5_bestKink_84 (by decide) (fun c84 => ?_) (fun c84 => ?_)
        · have h := kT h c84
          refine lv_lload hx hb dX5_bestKink_92 (lv_at hl 5 rfl) ?_
          refine lv_lstore (lv' := [(4, .long x4), (3, .int x6), (7, .long r56), (0, .ref (adM 0)), (1, .int x1), (2, .int x2), (6, .int x6)]) hx hb dX5_bestKink_94 hl (by decide) rfl (fun ls hl => ?_)
          refine lv_iinc (v := (x6 + 25)) (lv' := [(6, .int (x6 + 25)), (4, .long x4), (3, .int x6), (7, .long r56), (0, .ref (adM 0)), (1, .int x1), (2, .int x2)]) hx hb dX5_bestKink_96 hl (k := 6) rfl rfl (by decide) rfl (fun ls hl => ?_)
          refine lv_goto (tgt := 39) hx hb dX5_bestKink_99 (by decide) ?_
          exact hn39 (uM.1, uM.2.1, uM.2.2.1, uM.2.2.2.1, uM.2.2.2.2.1, uM.2.2.2.2.2.1, (upd uM.2.2.2.2.2.2.1 (3 : Int32).toNatClampNeg x6), uM.2.2.2.2.2.2.2) x6 x4 (x6 + 25) h H locs ls hP hD hS (lv_sub hl [4, 5, 6, 2, 1, 0] rfl)
        · have h := kF h (fun z => z c84)
          refine lv_lload hx hb dX5_bestKink_87 (lv_at hl 1 rfl) ?_
          refine lv_goto (tgt := 94) hx hb dX5_bestKink_89 (by decide) ?_
          refine lv_lstore (lv' := [(4, .long r56), (3, .int x6), (7, .long r56), (0, .ref (adM 0)), (1, .int x1), (2, .int x2), (6, .int x6)]) hx hb dX5_bestKink_94 hl (by decide) rfl (fun ls hl => ?_)
          refine lv_iinc (v := (x6 + 25)) (lv' := [(6, .int (x6 + 25)), (4, .long r56), (3, .int x6), (7, .long r56), (0, .ref (adM 0)), (1, .int x1), (2, .int x2)]) hx hb dX5_bestKink_96 hl (k := 6) rfl rfl (by decide) rfl (fun ls hl => ?_)
          refine lv_goto (tgt := 39) hx hb dX5_bestKink_99 (by decide) ?_
          exact hn39 (uM.1, uM.2.1, uM.2.2.1, uM.2.2.2.1, uM.2.2.2.2.1, uM.2.2.2.2.2.1, (upd uM.2.2.2.2.2.2.1 (3 : Int32).toNatClampNeg x6), uM.2.2.2.2.2.2.2) x6 r56 (x6 + 25) h H locs ls hP hD hS (lv_sub hl [4, 5, 6, 2, 1, 0] rfl)
      · have h := kF h c63
        refine lv_lload hx hb dX5_bestKink_66 (lv_at hl 0 rfl) ?_
        refine lv_lload hx hb dX5_bestKink_68 (lv_at hl 5 rfl) ?_
        refine W.lcmp hx hb dX5_bestKink_70 ?_
        refine lv_if_ge (tgt := 79) hx hb dX5_bestKink_71 (by decide) (fun c71 => ?_) (fun c71 => ?_)
        · have h := kT h ((lg_cmp_ge _ _).mp c71)
          refine lv_iload_n hx hb dX5_bestKink_79 rfl (lv_at hl 4 rfl) ?_
          refine lv_istore_n (lv' := [(3, .int x3), (7, .long r56), (0, .ref (adM 0)), (1, .int x1), (2, .int x2), (4, .long x4), (6, .int x6)]) hx hb dX5_bestKink_80 rfl hl (by decide) rfl (fun ls hl => ?_)
          refine lv_iload_n hx hb dX5_bestKink_81 rfl (lv_at hl 0 rfl) ?_
          refine lv_iload hx hb dX5_bestKink_82 (lv_at hl 6 rfl) ?_
          refine lv_icmp_ne (tgt := 92) hx hb dX5_bestKink_84 (by decide) (fun c84 => ?_) (fun c84 => ?_)
          · have h := kT h c84
            refine lv_lload hx hb dX5_bestKink_92 (lv_at hl 5 rfl) ?_
            refine lv_lstore (lv' := [(4, .long x4), (3, .int x3), (7, .long r56), (0, .ref (adM 0)), (1, .int x1), (2, .int x2), (6, .int x6)]) hx hb dX5_bestKink_94 hl (by decide) rfl (fun ls hl => ?_)
            refine lv_iinc (v := (x6 + 25)) (lv' := [(6, .int (x6 + 25)), (4, .long x4), (3, .int x3), (7, .long r56), (0, .ref (adM 0)), (1, .int x1), (2, .int x2)]) hx hb dX5_bestKink_96 hl (k := 6) rfl rfl (by decide) rfl (fun ls hl => ?_)
            refine lv_goto (tgt := 39) hx hb dX5_bestKink_99 (by decide) ?_
            exact hn39 (uM.1, uM.2.1, uM.2.2.1, uM.2.2.2.1, uM.2.2.2.2.1, uM.2.2.2.2.2.1, (upd uM.2.2.2.2.2.2.1 (3 : Int32).toNatClampNeg x6), uM.2.2.2.2.2.2.2) x3 x4 (x6 + 25) h H locs ls hP hD hS (lv_sub hl [4, 5, 6, 2, 1, 0] rfl)
          · have h := kF h (fun z => z c84)
            refine lv_lload hx hb dX5_bestKink_87 (lv_at hl 1 rfl) ?_
            refine lv_goto (tgt := 94) hx hb dX5_bestKink_89 (by decide) ?_
            refine lv_lstore (lv' := [(4, .long r56), (3, .int x3), (7, .long r56), (0, .ref (adM 0)), (1, .int x1), (2, .int x2), (6, .int x6)]) hx hb dX5_bestKink_94 hl (by decide) rfl (fun ls hl => ?_)
            refine lv_iinc (v := (x6 + 25)) (lv' := [(6, .int (x6 + 25)), (4, .long r56), (3, .int x3), (7, .long r56), (0, .ref (adM 0)), (1, .int x1), (2, .int x2)]) hx hb dX5_bestKink_96 hl (k := 6) rfl rfl (by decide) rfl (fun ls hl => ?_)
            refine lv_goto (tgt := 39) hx hb dX5_bestKink_99 (by decide) ?_
            exact hn39 (uM.1, uM.2.1, uM.2.2.1, uM.2.2.2.1, uM.2.2.2.2.1, uM.2.2.2.2.2.1, (upd uM.2.2.2.2.2.2.1 (3 : Int32).toNatClampNeg x6), uM.2.2.2.2.2.2.2) x3 r56 (x6 + 25) h H locs ls hP hD hS (lv_sub hl [4, 5, 6, 2, 1, 0] rfl)
        · have h := kF h (fun z => c71 ((lg_cmp_ge _ _).mpr z))
          refine lv_iload hx hb dX5_bestKink_74 (lv_at hl 6 rfl) ?_
          refine lv_goto (tgt := 80) hx hb dX5_bestKink_76 (by decide) ?_
          refine lv_istore_n (lv' := [(3, .int x6), (7, .long r56), (0, .ref (adM 0)), (1, .int x1), (2, .int x2), (4, .long x4), (6, .int x6)]) hx hb dX5_bestKink_80 rfl hl (by decide) rfl (fun ls hl => ?_)
          refine lv_iload_n hx hb dX5_bestKink_81 rfl (lv_at hl 0 rfl) ?_
          refine lv_iload hx hb dX5_bestKink_82 (lv_at hl 6 rfl) ?_
          refine lv_icmp_ne (tgt := 92) hx hb dX5_bestKink_84 (by decide) (fun c84 => ?_) (fun c84 => ?_)
          · have h := kT h c84
            refine lv_lload hx hb dX5_bestKink_92 (lv_at hl 5 rfl) ?_
            refine lv_lstore (lv' := [(4, .long x4), (3, .int x6), (7, .long r56), (0, .ref (adM 0)), (1, .int x1), (2, .int x2), (6, .int x6)]) hx hb dX5_bestKink_94 hl (by decide) rfl (fun ls hl => ?_)
            refine lv_iinc (v := (x6 + 25)) (lv' := [(6, .int (x6 + 25)), (4, .long x4), (3, .int x6), (7, .long r56), (0, .ref (adM 0)), (1, .int x1), (2, .int x2)]) hx hb dX5_bestKink_96 hl (k := 6) rfl rfl (by decide) rfl (fun ls hl => ?_)
            refine lv_goto (tgt := 39) hx hb dX5_bestKink_99 (by decide) ?_
            exact hn39 (uM.1, uM.2.1, uM.2.2.1, uM.2.2.2.1, uM.2.2.2.2.1, uM.2.2.2.2.2.1, (upd uM.2.2.2.2.2.2.1 (3 : Int32).toNatClampNeg x6), uM.2.2.2.2.2.2.2) x6 x4 (x6 + 25) h H locs ls hP hD hS (lv_sub hl [4, 5, 6, 2, 1, 0] rfl)
          · have h := kF h (fun z => z c84)
            refine lv_lload hx hb dX5_bestKink_87 (lv_at hl 1 rfl) ?_
            refine lv_goto (tgt := 94) hx hb dX5_bestKink_89 (by decide) ?_
            refine lv_lstore (lv' := [(4, .long r56), (3, .int x6), (7, .long r56), (0, .ref (adM 0)), (1, .int x1), (2, .int x2), (6, .int x6)]) hx hb dX5_bestKink_94 hl (by decide) rfl (fun ls hl => ?_)
            refine lv_iinc (v := (x6 + 25)) (lv' := [(6, .int (x6 + 25)), (4, .long r56), (3, .int x6), (7, .long r56), (0, .ref (adM 0)), (1, .int x1), (2, .int x2)]) hx hb dX5_bestKink_96 hl (k := 6) rfl rfl (by decide) rfl (fun ls hl => ?_)
            refine lv_goto (tgt := 39) hx hb dX5_bestKink_99 (by decide) ?_
            exact hn39 (uM.1, uM.2.1, uM.2.2.1, uM.2.2.2.1, uM.2.2.2.2.1, uM.2.2.2.2.2.1, (upd uM.2.2.2.2.2.2.1 (3 : Int32).toNatClampNeg x6), uM.2.2.2.2.2.2.2) x6 r56 (x6 + 25) h H locs ls hP hD hS (lv_sub hl [4, 5, 6, 2, 1, 0] rfl)
  have L39 : ∀ (x1 : Int32) (x2 : Int32) (n : Nat) (uM : KM) (x3 : Int32) (x4 : Int64) (x6 : Int32), kLoopC n (fun q nx39 => fX5_bestKink_c39 q.1 x1 x2 q.2.1 q.2.2.1 q.2.2.2 nx39) (uM, x3, x4, x6) = some res → ∀ (H : Heap) (locs : List Loc) (ls : Array Slot), va_P D vwCl (wM ty adM uM) H → va_D A (wM ty adM uM) → va_S A s.heap H locs → lv_has ls 9 [(0, .ref (adM 0)), (1, .int x1), (2, .int x2), (3, .int x3), (4, .long x4), (6, .int x6)] → W p l e (headSpec wsX5_bestKink { frames := 7, cells := 0, slots := 0, locals := 162 }).room s m ([.ref (adM 0)] : List Value).toArray below meth c H locs 0 0 Q (F0 m 39 ls []) := by
    intro x1 x2 n
    induction n with
    | zero => intro uM x3 x4 x6 h; exact absurd h (by simp [kLoopC])
    | succ n ih => intro uM x3 x4 x6 h; exact B39 x1 x2 (kLoopC n (fun q nx39 => fX5_bestKink_c39 q.1 x1 x2 q.2.1 q.2.2.1 q.2.2.2 nx39)) ih uM x3 x4 x6 h
  have hl := lv_entry ([.ref (adM 0)]) (n := 9) (Nat.le_of_ble_eq_true rfl)
  rw [lg_entry_eq]
  generalize (lg_sl ([.ref (adM 0)]) ++ List.replicate (9 - (lg_sl ([.ref (adM 0)])).length) Slot.unset).toArray = ls at hl ⊢
  have hl : lv_has ls 9 [(0, .ref (adM 0))] := hl
  unfold fX5_bestKink at h
  have E0 : ∀ (H : Heap) (locs : List Loc) (ls : Array Slot), va_P D vwCl (wM ty adM vM) H → va_D A (wM ty adM vM) → va_S A s.heap H locs → lv_has ls 9 [(0, .ref (adM 0))] → W p l e (headSpec wsX5_bestKink { frames := 7, cells := 0, slots := 0, locals := 162 }).room s m ([.ref (adM 0)] : List Value).toArray below meth c H locs 0 0 Q (F0 m 0 ls []) := by
    intro H locs ls hP hD hS hl
    refine lv_aload_n hx hb dX5_bestKink_0 rfl (lv_at hl 0 rfl) ?_
    obtain ⟨r1, e1, h⟩ := kBd h
    refine kCallVI (As := []) (rest := []) (wc := wM ty adM vM) (w1 := wM ty adM vM) (wn := wM ty adM vM) ⟨hx, hb, hml, hown, hts⟩ (cX5_ashes_ok l D ty adM H.size vM r1 e1) (cwV 0 hts gX5_bestKink_X5_ashes rfl rfl rfl (by decide +kernel) ⟨Nat.le_of_ble_eq_true rfl, Nat.le_of_ble_eq_true rfl⟩) hP hK hD hS hA [0, 1, 2, 3, 4, 5, 6] (by decide) rfl 5 0 rfl rfl rfl rfl hl.1 rfl (Nat.le_of_ble_eq_true rfl) dX5_bestKink_1 ⟨Nat.le_of_ble_eq_true rfl, Nat.le_of_ble_eq_true rfl⟩ rfl rfl (fun H locs hP hD hS => ?_)
    refine lv_if_ne (tgt := 10) hx hb dX5_bestKink_4 (by decide) (fun c4 => ?_) (fun c4 => ?_)
    · have h := kT h c4
      refine lv_aload_n hx hb dX5_bestKink_10 rfl (lv_at hl 0 rfl) ?_
      refine va_get (D := D) (ci := 5) (v := .ref (adM 1)) (C := RX5) (T := TX5) (N := 12) hx hb hts hinX5 hown hK.1 hP 0 rfl rfl 0 (by decide) wf0 (fun _ h9 => h9) rfl dX5_bestKink_11 ?_
      refine lv_iconst (v := 2) hx hb dX5_bestKink_14 (by decide) ?_
      obtain ⟨b15, h⟩ := kIf h
      refine va_iald (f := vM.2.2.2.2.2.2.1) (n := 133) hx hb hK.1 hP 1 0 rfl rfl (kIn_ok b15) dX5_bestKink_15 ?_
      refine lv_topi (fun y16 ey16 => ?_)
      have h := kBs h ey16
      refine lv_istore_n (lv' := [(1, .int y16), (0, .ref (adM 0))]) hx hb dX5_bestKink_16 rfl hl (by decide) rfl (fun ls hl => ?_)
      refine lv_aload_n hx hb dX5_bestKink_17 rfl (lv_at hl 1 rfl) ?_
      refine va_get (D := D) (ci := 5) (v := .ref (adM 1)) (C := RX5) (T := TX5) (N := 12) hx hb hts hinX5 hown hK.1 hP 0 rfl rfl 0 (by decide) wf0 (fun _ h9 => h9) rfl dX5_bestKink_18 ?_
      refine lv_iconst (v := 3) hx hb dX5_bestKink_21 (by decide) ?_
      obtain ⟨b22, h⟩ := kIf h
      refine va_iald (f := vM.2.2.2.2.2.2.1) (n := 133) hx hb hK.1 hP 1 0 rfl rfl (kIn_ok b22) dX5_bestKink_22 ?_
      refine lv_topi (fun y23 ey23 => ?_)
      have h := kBs h ey23
      refine lv_istore_n (lv' := [(2, .int y23), (1, .int y16), (0, .ref (adM 0))]) hx hb dX5_bestKink_23 rfl hl (by decide) rfl (fun ls hl => ?_)
      refine lv_iconst (v := 0) hx hb dX5_bestKink_24 (by decide) ?_
      refine lv_istore_n (lv' := [(3, .int (0 : Int32)), (2, .int y23), (1, .int y16), (0, .ref (adM 0))]) hx hb dX5_bestKink_25 rfl hl (by decide) rfl (fun ls hl => ?_)
      refine lv_lconst (v := 0) hx hb dX5_bestKink_26 (by decide) ?_
      refine lv_lstore (lv' := [(4, .long (0 : Int64)), (3, .int (0 : Int32)), (2, .int y23), (1, .int y16), (0, .ref (adM 0))]) hx hb dX5_bestKink_27 hl (by decide) rfl (fun ls hl => ?_)
      refine lv_aload_n hx hb dX5_bestKink_29 rfl (lv_at hl 4 rfl) ?_
      refine va_get (D := D) (ci := 5) (v := .ref (adM 1)) (C := RX5) (T := TX5) (N := 12) hx hb hts hinX5 hown hK.1 hP 0 rfl rfl 0 (by decide) wf0 (fun _ h9 => h9) rfl dX5_bestKink_30 ?_
      refine lv_iconst (v := 2) hx hb dX5_bestKink_33 (by decide) ?_
      refine lv_iconst (v := 1) hx hb dX5_bestKink_34 (by decide) ?_
      obtain ⟨b35, h⟩ := kIf h
      refine va_iast (f := vM.2.2.2.2.2.2.1) (n := 133) hx hb hK.1 hP hD hS 1 0 rfl rfl (kIn_ok b35) dX5_bestKink_35 (fun H locs hP hD hS => ?_)
      have hP : va_P D vwCl (wM ty adM (vM.1, vM.2.1, vM.2.2.1, vM.2.2.2.1, vM.2.2.2.2.1, vM.2.2.2.2.2.1, (upd vM.2.2.2.2.2.2.1 (2 : Int32).toNatClampNeg (1 : Int32)), vM.2.2.2.2.2.2.2)) H := hP
      have hD : va_D A (wM ty adM (vM.1, vM.2.1, vM.2.2.1, vM.2.2.2.1, vM.2.2.2.2.1, vM.2.2.2.2.2.1, (upd vM.2.2.2.2.2.2.1 (2 : Int32).toNatClampNeg (1 : Int32)), vM.2.2.2.2.2.2.2)) := hD
      refine lv_iconst (v := 0) hx hb dX5_bestKink_36 (by decide) ?_
      refine lv_istore (lv' := [(6, .int (0 : Int32)), (4, .long (0 : Int64)), (3, .int (0 : Int32)), (2, .int y23), (1, .int y16), (0, .ref (adM 0))]) hx hb dX5_bestKink_37 hl (by decide) rfl (fun ls hl => ?_)
      exact L39 y16 y23  kFu (vM.1, vM.2.1, vM.2.2.1, vM.2.2.2.1, vM.2.2.2.2.1, vM.2.2.2.2.2.1, (upd vM.2.2.2.2.2.2.1 (2 : Int32).toNatClampNeg (1 : Int32)), vM.2.2.2.2.2.2.2) (0 : Int32) (0 : Int64) (0 : Int32) h H locs ls hP hD hS (lv_sub hl [5, 4, 3, 2, 1, 0] rfl)
    · have h := kF h (fun z => z c4)
      refine lv_ldc hx hb hown wf2 dX5_bestKink_7 ?_
      obtain rfl := Option.some.inj h
      subst hQ
      exact W.iret (v := (-1000000005 : Int32)) hx hb hr (fun t ht hW => ⟨⟨(-1000000005 : Int32), (), rfl, rfl, kEnd ht hP⟩, hS.F ht⟩) hS.2.2 dX5_bestKink_9
  exact E0 s.heap [] ls hP hD hS hl
def fX5_neededAccumulation_c42 (vM : KM) (x1 : Int32) (x2 : Int32) (x3 : Int32) (x4 : Int32) (x5 : Int64) (x7 : Int32) (nx42 : Int32 × Int64 × Int32 → Option (Int32)) : Option (Int32) := if (2000 : Int32) < x7 then some x4 else ((fX5_of vM x1 (5 : Int32)).bind fun r53 => (fX5_of vM x1 (7 : Int32)).bind fun r64 => (fX5_yearsBy r53.toInt64 x7.toInt64 r64.toInt64 x3.toInt64).bind fun r70 => (fX5_size ((r70 - x2).toInt64)).bind fun r76 => if x7 = (10 : Int32) then (if ¬ x7 = x7 then (nx42 (x7, x5, (x7 + 1))) else (nx42 (x7, r76, (x7 + 1)))) else (if x5 ≤ r76 then (if ¬ x4 = x7 then (nx42 (x4, x5, (x7 + 1))) else (nx42 (x4, r76, (x7 + 1)))) else (if ¬ x7 = x7 then (nx42 (x7, x5, (x7 + 1))) else (nx42 (x7, r76, (x7 + 1))))))
def fX5_neededAccumulation (vM : KM) (p1 : Int32) : Option (Int32) := (fX5_isLayer vM p1).bind fun r2 => if ¬ r2 = (0 : Int32) then ((fX5_of vM p1 (12 : Int32)).bind fun r15 => if ¬ r15 = (0 : Int32) then ((fX5_thinningOf vM p1).bind fun r28 => kLoopC kFu (fun q nx42 => fX5_neededAccumulation_c42 vM p1 r15 r28 q.1 q.2.1 q.2.2 nx42) ((0 : Int32), (0 : Int64), (10 : Int32))) else (some (-1000000005 : Int32))) else (some (-1000000001 : Int32))
set_option maxHeartbeats 4000000 in
set_option maxRecDepth 100000 in
theorem cX5_neededAccumulation_ok (l : Launch) (D : va_G) (ty : kTy) (adM : Nat → Nat) (sz : Nat) (vM : KM) (p1 : Int32) (res : Int32) (h : fX5_neededAccumulation vM p1 = some res) : kMI l yX5_neededAccumulation wsX5_neededAccumulation { frames := 3, cells := 0, slots := 0, locals := 74 } [.ref (adM 0), .int p1] D ty (wM ty adM vM) sz res (wM ty adM vM) := by
  refine Met.ofW (cc := cX5_neededAccumulation) (maxL := 10) (ret := (some .int)) (by decide) rfl ?_
  intro p e s m args below meth c s₁ B hml hv
  obtain ⟨rfl, hsz, hP, hK, hD0⟩ := hv
  have hx := B.exec
  have hb := B.bytes
  have hr := B.returns
  have hts := atoms_spec (ws := wsX5_neededAccumulation) B.pre
  have hown : s.vm.findClass RX5 = some m.cls := findClass_of_methodNamed B.named
  have hlocks := B.notSynchronized
  subst hsz
  have hD := hD0.self (sz := s.heap.size)
  generalize hAe : va_A (wM ty adM vM) s.heap.size = A at hD ⊢
  have hA : ∀ q : Nat, s.heap.size ≤ q → A q := fun q h => by rw [← hAe]; exact Or.inr h
  have hS : va_S A s.heap s.heap [] := va_S.rf
  refine kGenW (fun Q hQ => ?_)
  have wf0 := hts (.constant RX5 22 (-1000000005)) (by decide +kernel)
  have wf1 := hts (.constant RX5 114 (-1000000001)) (by decide +kernel)
  have B42 : ∀ (x1 : Int32) (x2 : Int32) (x3 : Int32) (nx42 : Int32 × Int64 × Int32 → Option (Int32)) (hn42 : ∀ (x4 : Int32) (x5 : Int64) (x7 : Int32), nx42 (x4, x5, x7) = some res → ∀ (H : Heap) (locs : List Loc) (ls : Array Slot), va_P D vwCl (wM ty adM vM) H → va_D A (wM ty adM vM) → va_S A s.heap H locs → lv_has ls 10 [(0, .ref (adM 0)), (1, .int x1), (2, .int x2), (3, .int x3), (4, .int x4), (5, .long x5), (7, .int x7)] → W p l e (headSpec wsX5_neededAccumulation { frames := 3, cells := 0, slots := 0, locals := 74 }).room s m ([.ref (adM 0), .int p1] : List Value).toArray below meth c H locs 0 0 Q (F0 m 42 ls [])) (x4 : Int32) (x5 : Int64) (x7 : Int32), fX5_neededAccumulation_c42 vM x1 x2 x3 x4 x5 x7 nx42 = some res → ∀ (H : Heap) (locs : List Loc) (ls : Array Slot), va_P D vwCl (wM ty adM vM) H → va_D A (wM ty adM vM) → va_S A s.heap H locs → lv_has ls 10 [(0, .ref (adM 0)), (1, .int x1), (2, .int x2), (3, .int x3), (4, .int x4), (5, .long x5), (7, .int x7)] → W p l e (headSpec wsX5_neededAccumulation { frames := 3, cells := 0, slots := 0, locals := 74 }).room s m ([.ref (adM 0), .int p1] : List Value).toArray below meth c H locs 0 0 Q (F0 m 42 ls []) := by
    intro x1 x2 x3 nx42 hn42 x4 x5 x7 h H locs ls hP hD hS hl
    unfold fX5_neededAccumulation_c42 at h
    refine lv_iload hx hb dX5_neededAccumulation_42 (lv_at hl 6 rfl) ?_
    refine lv_sipush (v := 2000) hx hb dX5_neededAccumulation_44 (by decide) ?_
    refine lv_icmp_gt (tgt := 127) hx hb dX5_neededAccumulation_47 (by decide) (fun c47 => ?_) (fun c47 => ?_)
    · have h := kT h c47
      refine lv_iload hx hb dX5_neededAccumulation_127 (lv_at hl 4 rfl) ?_
      obtain rfl := Option.some.inj h
      subst hQ
      exact W.iret (v := x4) hx hb hr (fun t ht hW => ⟨⟨x4, (), rfl, rfl, kEnd ht hP⟩, hS.F ht⟩) hS.2.2 dX5_neededAccumulation_129
    · have h := kF h c47
      refine lv_aload_n hx hb dX5_neededAccumulation_50 rfl (lv_at hl 0 rfl) ?_
      refine lv_iload_n hx hb dX5_neededAccumulation_51 rfl (lv_at hl 1 rfl) ?_
      refine lv_iconst (v := 5) hx hb dX5_neededAccumulation_52 (by decide) ?_
      obtain ⟨r53, e53, h⟩ := kBd h
      refine kCallVI (As := [.int x1, .int (5 : Int32)]) (rest := []) (wc := wM ty adM vM) (w1 := wM ty adM vM) (wn := wM ty adM vM) ⟨hx, hb, hml, hown, hts⟩ (cX5_of_ok l D ty adM H.size vM x1 (5 : Int32) r53 e53) (cwV 2 hts gX5_neededAccumulation_X5_of rfl rfl rfl (by decide +kernel) ⟨Nat.le_of_ble_eq_true rfl, Nat.le_of_ble_eq_true rfl⟩) hP hK hD hS hA [0, 1, 2, 3, 4, 5, 6] (by decide) rfl 5 0 rfl rfl rfl rfl hl.1 rfl (Nat.le_of_ble_eq_true rfl) dX5_neededAccumulation_53 ⟨Nat.le_of_ble_eq_true rfl, Nat.le_of_ble_eq_true rfl⟩ rfl rfl (fun H locs hP hD hS => ?_)
      refine lv_i2l hx hb dX5_neededAccumulation_56 rfl ?_
      refine lv_iload hx hb dX5_neededAccumulation_57 (lv_at hl 6 rfl) ?_
      refine lv_i2l hx hb dX5_neededAccumulation_59 rfl ?_
      refine lv_aload_n hx hb dX5_neededAccumulation_60 rfl (lv_at hl 0 rfl) ?_
      refine lv_iload_n hx hb dX5_neededAccumulation_61 rfl (lv_at hl 1 rfl) ?_
      refine lv_bipush (v := 7) hx hb dX5_neededAccumulation_62 (by decide) ?_
      obtain ⟨r64, e64, h⟩ := kBd h
      refine kCallVI (As := [.int x1, .int (7 : Int32)]) (rest := [.long x7.toInt64, .long r53.toInt64]) (wc := wM ty adM vM) (w1 := wM ty adM vM) (wn := wM ty adM vM) ⟨hx, hb, hml, hown, hts⟩ (cX5_of_ok l D ty adM H.size vM x1 (7 : Int32) r64 e64) (cwV 2 hts gX5_neededAccumulation_X5_of rfl rfl rfl (by decide +kernel) ⟨Nat.le_of_ble_eq_true rfl, Nat.le_of_ble_eq_true rfl⟩) hP hK hD hS hA [0, 1, 2, 3, 4, 5, 6] (by decide) rfl 5 0 rfl rfl rfl rfl hl.1 rfl (Nat.le_of_ble_eq_true rfl) dX5_neededAccumulation_64 ⟨Nat.le_of_ble_eq_true rfl, Nat.le_of_ble_eq_true rfl⟩ rfl rfl (fun H locs hP hD hS => ?_)
      refine lv_i2l hx hb dX5_neededAccumulation_67 rfl ?_
      refine lv_iload_n hx hb dX5_neededAccumulation_68 rfl (lv_at hl 3 rfl) ?_
      refine lv_i2l hx hb dX5_neededAccumulation_69 rfl ?_
      obtain ⟨r70, e70, h⟩ := kBd h
      refine kCallSI (As := [.long r53.toInt64, .long x7.toInt64, .long r64.toInt64, .long x3.toInt64]) (rest := []) ⟨hx, hb, hml, hown, hts⟩ (cX5_yearsBy_ok l D ty  H.size r53.toInt64 x7.toInt64 r64.toInt64 x3.toInt64 r70 e70) (va_cwS 4 hts gX5_neededAccumulation_X5_yearsBy rfl rfl rfl (by decide +kernel) ⟨Nat.le_of_ble_eq_true rfl, Nat.le_of_ble_eq_true rfl⟩) hP hK hD hS hA rfl hl.1 rfl (Nat.le_of_ble_eq_true rfl) dX5_neededAccumulation_70 ⟨Nat.le_of_ble_eq_true rfl, Nat.le_of_ble_eq_true rfl⟩ (fun H locs hP hS => ?_)
      refine lv_iload_n hx hb dX5_neededAccumulation_73 rfl (lv_at hl 2 rfl) ?_
      refine lv_isub hx hb dX5_neededAccumulation_74 ?_
      refine lv_i2l hx hb dX5_neededAccumulation_75 rfl ?_
      obtain ⟨r76, e76, h⟩ := kBd h
      refine kCallSL (As := [.long (r70 - x2).toInt64]) (rest := []) ⟨hx, hb, hml, hown, hts⟩ (cX5_size_ok l D ty  H.size ((r70 - x2).toInt64) r76 e76) (va_cwS 1 hts gX5_neededAccumulation_X5_size rfl rfl rfl (by decide +kernel) ⟨Nat.le_of_ble_eq_true rfl, Nat.le_of_ble_eq_true rfl⟩) hP hK hD hS hA rfl hl.1 rfl (Nat.le_of_ble_eq_true rfl) dX5_neededAccumulation_76 ⟨Nat.le_of_ble_eq_true rfl, Nat.le_of_ble_eq_true rfl⟩ (fun H locs hP hS => ?_)
      refine lv_lstore (lv' := [(8, .long r76), (0, .ref (adM 0)), (1, .int x1), (2, .int x2), (3, .int x3), (4, .int x4), (5, .long x5), (7, .int x7)]) hx hb dX5_neededAccumulation_79 hl (by decide) rfl (fun ls hl => ?_)
      refine lv_iload hx hb dX5_neededAccumulation_81 (lv_at hl 7 rfl) ?_
      refine lv_bipush (v := 10) hx hb dX5_neededAccumulation_83 (by decide) ?_
      refine lv_icmp_eq (tgt := 96) hx hb dX5_neededAccumulation_85 (by decide) (fun c85 => ?_) (fun c85 => ?_)
      · have h := kT h c85
        refine lv_iload hx hb dX5_neededAccumulation_96 (lv_at hl 7 rfl) ?_
        refine lv_goto (tgt := 103) hx hb dX5_neededAccumulation_98 (by decide) ?_
        refine lv_istore (lv' := [(4, .int x7), (8, .long r76), (0, .ref (adM 0)), (1, .int x1), (2, .int x2), (3, .int x3), (5, .long x5), (7, .int x7)]) hx hb dX5_neededAccumulation_103 hl (by decide) rfl (fun ls hl => ?_)
        refine lv_iload hx hb dX5_neededAccumulation_105 (lv_at hl 0 rfl) ?_
        refine lv_iload hx hb dX5_neededAccumulation_107 (lv_at hl 7 rfl) ?_
        refine lv_icmp_ne (tgt := 117) hx hb dX5_neededAccumulation_109 (by decide) (fun c109 => ?_) (fun c109 => ?_)
        · have h := kT h c109
          refine lv_lload hx hb dX5_neededAccumulation_117 (lv_at hl 6 rfl) ?_
          refine lv_lstore (lv' := [(5, .long x5), (4, .int x7), (8, .long r76), (0, .ref (adM 0)), (1, .int x1), (2, .int x2), (3, .int x3), (7, .int x7)]) hx hb dX5_neededAccumulation_119 hl (by decide) rfl (fun ls hl => ?_)
          refine lv_iinc (v := (x7 + 1)) (lv' := [(7, .int (x7 + 1)), (5, .long x5), (4, .int x7), (8, .long r76), (0, .ref (adM 0)), (1, .int x1), (2, .int x2), (3, .int x3)]) hx hb dX5_neededAccumulation_121 hl (k := 7) rfl rfl (by decide) rfl (fun ls hl => ?_)
          refine lv_goto (tgt := 42) hx hb dX5_neededAccumulation_124 (by decide) ?_
          exact hn42 x7 x5 (x7 + 1) h H locs ls hP hD hS (lv_sub hl [4, 5, 6, 7, 2, 1, 0] rfl)
        · have h := kF h (fun z => z c109)
          refine lv_lload hx hb dX5_neededAccumulation_112 (lv_at hl 1 rfl) ?_
          refine lv_goto (tgt := 119) hx hb dX5_neededAccumulation_114 (by decide) ?_
          refine lv_lstore (lv' := [(5, .long r76), (4, .int x7), (8, .long r76), (0, .ref (adM 0)), (1, .int x1), (2, .int x2), (3, .int x3), (7, .int x7)]) hx hb dX5_neededAccumulation_119 hl (by decide) rfl (fun ls hl => ?_)
          refine lv_iinc (v := (x7 + 1)) (lv' := [(7, .int (x7 + 1)), (5, .long r76), (4, .int x7), (8, .long r76), (0, .ref (adM 0)), (1, .int x1), (2, .int x2), (3, .int x3)]) hx hb dX5_neededAccumulation_121 hl (k := 7) rfl rfl (by decide) rfl (fun ls hl => ?_)
          refine lv_goto (tgt := 42) hx hb dX5_neededAccumulation_124 (by decide) ?_
          exact hn42 x7 r76 (x7 + 1) h H locs ls hP hD hS (lv_sub hl [4, 5, 6, 7, 2, 1, 0] rfl)
      · have h := kF h c85
        refine lv_lload hx hb dX5_neededAccumulation_88 (lv_at hl 0 rfl) ?_
        refine lv_lload hx hb dX5_neededAccumulation_90 (lv_at hl 6 rfl) ?_
        refine W.lcmp hx hb dX5_neededAccumulation_92 ?_
        refine lv_if_ge (tgt := 101) hx hb dX5_neededAccumulation_93 (by decide) (fun c93 => ?_) (fun c93 => ?_)
        · have h := kT h ((lg_cmp_ge _ _).mp c93)
          refine lv_iload hx hb dX5_neededAccumulation_101 (lv_at hl 5 rfl) ?_
          refine lv_istore (lv' := [(4, .int x4), (8, .long r76), (0, .ref (adM 0)), (1, .int x1), (2, .int x2), (3, .int x3), (5, .long x5), (7, .int x7)]) hx hb dX5_neededAccumulation_103 hl (by decide) rfl (fun ls hl => ?_)
          refine lv_iload hx hb dX5_neededAccumulation_105 (lv_at hl 0 rfl) ?_
          refine lv_iload hx hb dX5_neededAccumulation_107 (lv_at hl 7 rfl) ?_
          refine lv_icmp_ne (tgt := 117) hx hb dX5_neededAccumulation_109 (by decide) (fun c109 => ?_) (fun c109 => ?_)
          · have h := kT h c109
            refine lv_lload hx hb dX5_neededAccumulation_117 (lv_at hl 6 rfl) ?_
            refine lv_lstore (lv' := [(5, .long x5), (4, .int x4), (8, .long r76), (0, .ref (adM 0)), (1, .int x1), (2, .int x2), (3, .int x3), (7, .int x7)]) hx hb dX5_neededAccumulation_119 hl (by decide) rfl (fun ls hl => ?_)
            refine lv_iinc (v := (x7 + 1)) (lv' := [(7, .int (x7 + 1)), (5, .long x5), (4, .int x4), (8, .long r76), (0, .ref (adM 0)), (1, .int x1), (2, .int x2), (3, .int x3)]) hx hb dX5_neededAccumulation_121 hl (k := 7) rfl rfl (by decide) rfl (fun ls hl => ?_)
            refine lv_goto (tgt := 42) hx hb dX5_neededAccumulation_124 (by decide) ?_
            exact hn42 x4 x5 (x7 + 1) h H locs ls hP hD hS (lv_sub hl [4, 5, 6, 7, 2, 1, 0] rfl)
          · have h := kF h (fun z => z c109)
            refine lv_lload hx hb dX5_neededAccumulation_112 (lv_at hl 1 rfl) ?_
            refine lv_goto (tgt := 119) hx hb dX5_neededAccumulation_114 (by decide) ?_
            refine lv_lstore (lv' := [(5, .long r76), (4, .int x4), (8, .long r76), (0, .ref (adM 0)), (1, .int x1), (2, .int x2), (3, .int x3), (7, .int x7)]) hx hb dX5_neededAccumulation_119 hl (by decide) rfl (fun ls hl => ?_)
            refine lv_iinc (v := (x7 + 1)) (lv' := [(7, .int (x7 + 1)), (5, .long r76), (4, .int x4), (8, .long r76), (0, .ref (adM 0)), (1, .int x1), (2, .int x2), (3, .int x3)]) hx hb dX5_neededAccumulation_121 hl (k := 7) rfl rfl (by decide) rfl (fun ls hl => ?_)
            refine lv_goto (tgt := 42) hx hb dX5_neededAccumulation_124 (by decide) ?_
            exact hn42 x4 r76 (x7 + 1) h H locs ls hP hD hS (lv_sub hl [4, 5, 6, 7, 2, 1, 0] rfl)
        · have h := kF h (fun z => c93 ((lg_cmp_ge _ _).mpr z))
          refine lv_iload hx hb dX5_neededAccumulation_96 (lv_at hl 7 rfl) ?_
          refine lv_goto (tgt := 103) hx hb dX5_neededAccumulation_98 (by decide) ?_
          refine lv_istore (lv' := [(4, .int x7), (8, .long r76), (0, .ref (adM 0)), (1, .int x1), (2, .int x2), (3, .int x3), (5, .long x5), (7, .int x7)]) hx hb dX5_neededAccumulation_103 hl (by decide) rfl (fun ls hl => ?_)
          refine lv_iload hx hb dX5_neededAccumulation_105 (lv_at hl 0 rfl) ?_
          refine lv_iload hx hb dX5_neededAccumulation_107 (lv_at hl 7 rfl) ?_
          refine lv_icmp_ne (tgt := 117) hx hb dX5_neededAccumulation_109 (by decide) (fun c109 => ?_) (fun c109 => ?_)
          · have h := kT h c109
            refine lv_lload hx hb dX5_neededAccumulation_117 (lv_at hl 6 rfl) ?_
            refine lv_lstore (lv' := [(5, .long x5), (4, .int x7), (8, .long r76), (0, .ref (adM 0)), (1, .int x1), (2, .int x2), (3, .int x3), (7, .int x7)]) hx hb dX5_neededAccumulation_119 hl (by decide) rfl (fun ls hl => ?_)
            refine lv_iinc (v := (x7 + 1)) (lv' := [(7, .int (x7 + 1)), (5, .long x5), (4, .int x7), (8, .long r76), (0, .ref (adM 0)), (1, .int x1), (2, .int x2), (3, .int x3)]) hx hb dX5_neededAccumulation_121 hl (k := 7) rfl rfl (by decide) rfl (fun ls hl => ?_)
            refine lv_goto (tgt := 42) hx hb dX5_neededAccumulation_124 (by decide) ?_
            exact hn42 x7 x5 (x7 + 1) h H locs ls hP hD hS (lv_sub hl [4, 5, 6, 7, 2, 1, 0] rfl)
          · have h := kF h (fun z => z c109)
            refine lv_lload hx hb dX5_neededAccumulation_112 (lv_at hl 1 rfl) ?_
            refine lv_goto (tgt := 119) hx hb dX5_neededAccumulation_114 (by decide) ?_
            refine lv_lstore (lv' := [(5, .long r76), (4, .int x7), (8, .long r76), (0, .ref (adM 0)), (1, .int x1), (2, .int x2), (3, .int x3), (7, .int x7)]) hx hb dX5_neededAccumulation_119 hl (by decide) rfl (fun ls hl => ?_)
            refine lv_iinc (v := (x7 + 1)) (lv' := [(7, .int (x7 + 1)), (5, .long r76), (4, .int x7), (8, .long r76), (0, .ref (adM 0)), (1, .int x1), (2, .int x2), (3, .int x3)]) hx hb dX5_neededAccumulation_121 hl (k := 7) rfl rfl (by decide) rfl (fun ls hl => ?_)
            refine lv_goto (tgt := 42) hx hb dX5_neededAccumulation_124 (by decide) ?_
            exact hn42 x7 r76 (x7 + 1) h H locs ls hP hD hS (lv_sub hl [4, 5, 6, 7, 2, 1, 0] rfl)
  have L42 : ∀ (x1 : Int32) (x2 : Int32) (x3 : Int32) (n : Nat) (x4 : Int32) (x5 : Int64) (x7 : Int32), kLoopC n (fun q nx42 => fX5_neededAccumulation_c42 vM x1 x2 x3 q.1 q.2.1 q.2.2 nx42) (x4, x5, x7) = some res → ∀ (H : Heap) (locs : List Loc) (ls : Array Slot), va_P D vwCl (wM ty adM vM) H → va_D A (wM ty adM vM) → va_S A s.heap H locs → lv_has ls 10 [(0, .ref (adM 0)), (1, .int x1), (2, .int x2), (3, .int x3), (4, .int x4), (5, .long x5), (7, .int x7)] → W p l e (headSpec wsX5_neededAccumulation { frames := 3, cells := 0, slots := 0, locals := 74 }).room s m ([.ref (adM 0), .int p1] : List Value).toArray below meth c H locs 0 0 Q (F0 m 42 ls []) := by
    intro x1 x2 x3 n
    induction n with
    | zero => intro x4 x5 x7 h; exact absurd h (by simp [kLoopC])
    | succ n ih => intro x4 x5 x7 h; exact B42 x1 x2 x3 (kLoopC n (fun q nx42 => fX5_neededAccumulation_c42 vM x1 x2 x3 q.1 q.2.1 q.2.2 nx42)) ih x4 x5 x7 h
  have hl := lv_entry ([.ref (adM 0), .int p1]) (n := 10) (Nat.le_of_ble_eq_true rfl)
  rw [lg_entry_eq]
  generalize (lg_sl ([.ref (adM 0), .int p1]) ++ List.replicate (10 - (lg_sl ([.ref (adM 0), .int p1])).length) Slot.unset).toArray = ls at hl ⊢
  have hl : lv_has ls 10 [(0, .ref (adM 0)), (1, .int p1)] := hl
  unfold fX5_neededAccumulation at h
  have E0 : ∀ (H : Heap) (locs : List Loc) (ls : Array Slot), va_P D vwCl (wM ty adM vM) H → va_D A (wM ty adM vM) → va_S A s.heap H locs → lv_has ls 10 [(0, .ref (adM 0)), (1, .int p1)] → W p l e (headSpec wsX5_neededAccumulation { frames := 3, cells := 0, slots := 0, locals := 74 }).room s m ([.ref (adM 0), .int p1] : List Value).toArray below meth c H locs 0 0 Q (F0 m 0 ls []) := by
    intro H locs ls hP hD hS hl
    refine lv_aload_n hx hb dX5_neededAccumulation_0 rfl (lv_at hl 0 rfl) ?_
    refine lv_iload_n hx hb dX5_neededAccumulation_1 rfl (lv_at hl 1 rfl) ?_
    obtain ⟨r2, e2, h⟩ := kBd h
    refine kCallVI (As := [.int p1]) (rest := []) (wc := wM ty adM vM) (w1 := wM ty adM vM) (wn := wM ty adM vM) ⟨hx, hb, hml, hown, hts⟩ (cX5_isLayer_ok l D ty adM H.size vM p1 r2 e2) (cwV 1 hts gX5_neededAccumulation_X5_isLayer rfl rfl rfl (by decide +kernel) ⟨Nat.le_of_ble_eq_true rfl, Nat.le_of_ble_eq_true rfl⟩) hP hK hD hS hA [0, 1, 2, 3, 4, 5, 6] (by decide) rfl 5 0 rfl rfl rfl rfl hl.1 rfl (Nat.le_of_ble_eq_true rfl) dX5_neededAccumulation_2 ⟨Nat.le_of_ble_eq_true rfl, Nat.le_of_ble_eq_true rfl⟩ rfl rfl (fun H locs hP hD hS => ?_)
    refine lv_if_ne (tgt := 11) hx hb dX5_neededAccumulation_5 (by decide) (fun c5 => ?_) (fun c5 => ?_)
    · have h := kT h c5
      refine lv_aload_n hx hb dX5_neededAccumulation_11 rfl (lv_at hl 0 rfl) ?_
      refine lv_iload_n hx hb dX5_neededAccumulation_12 rfl (lv_at hl 1 rfl) ?_
      refine lv_bipush (v := 12) hx hb dX5_neededAccumulation_13 (by decide) ?_
      obtain ⟨r15, e15, h⟩ := kBd h
      refine kCallVI (As := [.int p1, .int (12 : Int32)]) (rest := []) (wc := wM ty adM vM) (w1 := wM ty adM vM) (wn := wM ty adM vM) ⟨hx, hb, hml, hown, hts⟩ (cX5_of_ok l D ty adM H.size vM p1 (12 : Int32) r15 e15) (cwV 2 hts gX5_neededAccumulation_X5_of rfl rfl rfl (by decide +kernel) ⟨Nat.le_of_ble_eq_true rfl, Nat.le_of_ble_eq_true rfl⟩) hP hK hD hS hA [0, 1, 2, 3, 4, 5, 6] (by decide) rfl 5 0 rfl rfl rfl rfl hl.1 rfl (Nat.le_of_ble_eq_true rfl) dX5_neededAccumulation_15 ⟨Nat.le_of_ble_eq_true rfl, Nat.le_of_ble_eq_true rfl⟩ rfl rfl (fun H locs hP hD hS => ?_)
      refine lv_istore_n (lv' := [(2, .int r15), (0, .ref (adM 0)), (1, .int p1)]) hx hb dX5_neededAccumulation_18 rfl hl (by decide) rfl (fun ls hl => ?_)
      refine lv_iload_n hx hb dX5_neededAccumulation_19 rfl (lv_at hl 0 rfl) ?_
      refine lv_if_ne (tgt := 26) hx hb dX5_neededAccumulation_20 (by decide) (fun c20 => ?_) (fun c20 => ?_)
      · have h := kT h c20
        refine lv_aload_n hx hb dX5_neededAccumulation_26 rfl (lv_at hl 1 rfl) ?_
        refine lv_iload_n hx hb dX5_neededAccumulation_27 rfl (lv_at hl 2 rfl) ?_
        obtain ⟨r28, e28, h⟩ := kBd h
        refine kCallVI (As := [.int p1]) (rest := []) (wc := wM ty adM vM) (w1 := wM ty adM vM) (wn := wM ty adM vM) ⟨hx, hb, hml, hown, hts⟩ (cX5_thinningOf_ok l D ty adM H.size vM p1 r28 e28) (cwV 1 hts gX5_neededAccumulation_X5_thinningOf rfl rfl rfl (by decide +kernel) ⟨Nat.le_of_ble_eq_true rfl, Nat.le_of_ble_eq_true rfl⟩) hP hK hD hS hA [0, 1, 2, 3, 4, 5, 6] (by decide) rfl 5 0 rfl rfl rfl rfl hl.1 rfl (Nat.le_of_ble_eq_true rfl) dX5_neededAccumulation_28 ⟨Nat.le_of_ble_eq_true rfl, Nat.le_of_ble_eq_true rfl⟩ rfl rfl (fun H locs hP hD hS => ?_)
        refine lv_istore_n (lv' := [(3, .int r28), (2, .int r15), (0, .ref (adM 0)), (1, .int p1)]) hx hb dX5_neededAccumulation_31 rfl hl (by decide) rfl (fun ls hl => ?_)
        refine lv_iconst (v := 0) hx hb dX5_neededAccumulation_32 (by decide) ?_
        refine lv_istore (lv' := [(4, .int (0 : Int32)), (3, .int r28), (2, .int r15), (0, .ref (adM 0)), (1, .int p1)]) hx hb dX5_neededAccumulation_33 hl (by decide) rfl (fun ls hl => ?_)
        refine lv_lconst (v := 0) hx hb dX5_neededAccumulation_35 (by decide) ?_
        refine lv_lstore (lv' := [(5, .long (0 : Int64)), (4, .int (0 : Int32)), (3, .int r28), (2, .int r15), (0, .ref (adM 0)), (1, .int p1)]) hx hb dX5_neededAccumulation_36 hl (by decide) rfl (fun ls hl => ?_)
        refine lv_bipush (v := 10) hx hb dX5_neededAccumulation_38 (by decide) ?_
        refine lv_istore (lv' := [(7, .int (10 : Int32)), (5, .long (0 : Int64)), (4, .int (0 : Int32)), (3, .int r28), (2, .int r15), (0, .ref (adM 0)), (1, .int p1)]) hx hb dX5_neededAccumulation_40 hl (by decide) rfl (fun ls hl => ?_)
        exact L42 p1 r15 r28  kFu (0 : Int32) (0 : Int64) (10 : Int32) h H locs ls hP hD hS (lv_sub hl [5, 6, 4, 3, 2, 1, 0] rfl)
      · have h := kF h (fun z => z c20)
        refine lv_ldc hx hb hown wf0 dX5_neededAccumulation_23 ?_
        obtain rfl := Option.some.inj h
        subst hQ
        exact W.iret (v := (-1000000005 : Int32)) hx hb hr (fun t ht hW => ⟨⟨(-1000000005 : Int32), (), rfl, rfl, kEnd ht hP⟩, hS.F ht⟩) hS.2.2 dX5_neededAccumulation_25
    · have h := kF h (fun z => z c5)
      refine lv_ldc hx hb hown wf1 dX5_neededAccumulation_8 ?_
      obtain rfl := Option.some.inj h
      subst hQ
      exact W.iret (v := (-1000000001 : Int32)) hx hb hr (fun t ht hW => ⟨⟨(-1000000001 : Int32), (), rfl, rfl, kEnd ht hP⟩, hS.F ht⟩) hS.2.2 dX5_neededAccumulation_10
  exact E0 s.heap [] ls hP hD hS hl
