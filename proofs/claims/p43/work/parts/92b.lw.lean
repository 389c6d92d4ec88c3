def fL_areAges_c363 (vX : KX) (vC : KC) (x3 : Int32) (s0 : Int32) : Option (Int32) := if s0 = (0 : Int32) then (some (0 : Int32)) else ((fX4_seal vX vC).bind fun r371 => if ¬ r371 = x3.toInt16.toInt32 then (some (0 : Int32)) else (some (1 : Int32)))
def fL_areAges_c362 (vX : KX) (vC : KC) (x3 : Int32) : Option (Int32) := fL_areAges_c363 vX vC x3 (0 : Int32)
def fL_areAges_c343 (vX : KX) (vC : KC) (x1 : Int32) (x3 : Int32) (s0 : Int32) (s1 : Int32) : Option (Int32) := if ¬ s0 = s1 then (fL_areAges_c362 vX vC x3) else ((fX4_age vX vC (x1 + (1 : Int32))).bind fun r350 => if ¬ r350 = (-1000000002 : Int32) then (fL_areAges_c362 vX vC x3) else (fL_areAges_c363 vX vC x3 (1 : Int32)))
def fL_areAges_c333 (vX : KX) (vC : KC) (x1 : Int32) (x3 : Int32) (x4 : Int32) (s0 : Int32) : Option (Int32) := if ¬ x4 = (0 : Int32) then (fL_areAges_c343 vX vC x1 x3 s0 (0 : Int32)) else (fL_areAges_c343 vX vC x1 x3 s0 (1 : Int32))
def fL_areAges_c312 (vX : KX) (vC : KC) (x1 : Int32) (x3 : Int32) (x4 : Int32) (s0 : Int32) : Option (Int32) := if s0 = (0 : Int32) then (fL_areAges_c362 vX vC x3) else ((fX4_bestFunction vX vC).bind fun r320 => if ¬ r320 = (-1000000005 : Int32) then (fL_areAges_c333 vX vC x1 x3 x4 (0 : Int32)) else (fL_areAges_c333 vX vC x1 x3 x4 (1 : Int32)))
def fL_areAges_c311 (vX : KX) (vC : KC) (x1 : Int32) (x3 : Int32) (x4 : Int32) : Option (Int32) := fL_areAges_c312 vX vC x1 x3 x4 (0 : Int32)
def fL_areAges_c242 (vX : KX) (vC : KC) (x1 : Int32) (x2 : Int32) (x3 : Int32) (x4 : Int32) (x6 : Int32) (s0 : Int32) (nx16 : Int32 × Int32 × Int32 × Int32 × Int32 × Int32 → Option (Int32)) : Option (Int32) := (fX4_residual vX vC x6).bind fun r247 => if ¬ r247 = (-1000000005 : Int32) then (nx16 (x1, x2, x3, (x4 + (1 : Int32)), s0, (x6 + 1))) else (nx16 (x1, x2, x3, x4, s0, (x6 + 1)))
def fL_areAges_c241 (vX : KX) (vC : KC) (x1 : Int32) (x2 : Int32) (x3 : Int32) (x4 : Int32) (x6 : Int32) (nx16 : Int32 × Int32 × Int32 × Int32 × Int32 × Int32 → Option (Int32)) : Option (Int32) := fL_areAges_c242 vX vC x1 x2 x3 x4 x6 (0 : Int32) nx16
def fL_areAges_c237 (vX : KX) (vC : KC) (x1 : Int32) (x2 : Int32) (x3 : Int32) (x4 : Int32) (x6 : Int32) (nx16 : Int32 × Int32 × Int32 × Int32 × Int32 × Int32 → Option (Int32)) : Option (Int32) := fL_areAges_c242 vX vC x1 x2 x3 x4 x6 (1 : Int32) nx16
def fL_areAges_c198 (vX : KX) (vC : KC) (x1 : Int32) (x2 : Int32) (x3 : Int32) (x4 : Int32) (x6 : Int32) (x8 : Int32) (s0 : Int32) (nx16 : Int32 × Int32 × Int32 × Int32 × Int32 × Int32 → Option (Int32)) : Option (Int32) := (fX4_countError vX vC x6).bind fun r203 => if s0 = (0 : Int32) then (fL_areAges_c241 vX vC x1 x2 x3 x4 x6 nx16) else (if r203 = (-1000000005 : Int32) then (fL_areAges_c237 vX vC x1 x2 x3 x4 x6 nx16) else (if x8 ≤ r203 then (fL_areAges_c241 vX vC x1 x2 x3 x4 x6 nx16) else (if (1000000 : Int32) < (x8 - r203) then (fL_areAges_c241 vX vC x1 x2 x3 x4 x6 nx16) else (fL_areAges_c237 vX vC x1 x2 x3 x4 x6 nx16))))
def fL_areAges_c197 (vX : KX) (vC : KC) (x1 : Int32) (x2 : Int32) (x3 : Int32) (x4 : Int32) (x6 : Int32) (x8 : Int32) (nx16 : Int32 × Int32 × Int32 × Int32 × Int32 × Int32 → Option (Int32)) : Option (Int32) := fL_areAges_c198 vX vC x1 x2 x3 x4 x6 x8 (0 : Int32) nx16
def fL_areAges_c174 (vX : KX) (vC : KC) (x1 : Int32) (x2 : Int32) (x3 : Int32) (x4 : Int32) (x6 : Int32) (x8 : Int32) (s0 : Int32) (s1 : Int32) (nx16 : Int32 × Int32 × Int32 × Int32 × Int32 × Int32 → Option (Int32)) : Option (Int32) := if ¬ s0 = s1 then (fL_areAges_c197 vX vC x1 x2 x3 x4 x6 x8 nx16) else ((fX4_lead vX vC x1 x1).bind fun r180 => (fX4_gasAge vX vC x1).bind fun r186 => if ¬ r180 = (x2 - r186) then (fL_areAges_c197 vX vC x1 x2 x3 x4 x6 x8 nx16) else (fL_areAges_c198 vX vC x1 x2 x3 x4 x6 x8 (1 : Int32) nx16))
def fL_areAges_c115 (vX : KX) (vC : KC) (x1 : Int32) (x2 : Int32) (x3 : Int32) (x4 : Int32) (x6 : Int32) (x7 : Int32) (x8 : Int32) (s0 : Int32) (nx16 : Int32 × Int32 × Int32 × Int32 × Int32 × Int32 → Option (Int32)) : Option (Int32) := (fX4_delay vX vC x6).bind fun r138 => if s0 = (0 : Int32) then (fL_areAges_c197 vX vC (x1 + x7) (x2 + x8) (((31 : Int32) * x3) + (x2 + x8)) x4 x6 x8 nx16) else ((fX4_age vX vC (x1 + x7)).bind fun r151 => if ¬ r151 = (x2 + x8) then (fL_areAges_c197 vX vC (x1 + x7) (x2 + x8) (((31 : Int32) * x3) + (x2 + x8)) x4 x6 x8 nx16) else ((fX4_gasAge vX vC (x1 + x7)).bind fun r160 => if (0 : Int32) ≤ ((x2 + x8) - r138) then (fL_areAges_c174 vX vC (x1 + x7) (x2 + x8) (((31 : Int32) * x3) + (x2 + x8)) x4 x6 x8 r160 ((x2 + x8) - r138) nx16) else (fL_areAges_c174 vX vC (x1 + x7) (x2 + x8) (((31 : Int32) * x3) + (x2 + x8)) x4 x6 x8 r160 (0 : Int32) nx16)))
def fL_areAges_c114 (vX : KX) (vC : KC) (x1 : Int32) (x2 : Int32) (x3 : Int32) (x4 : Int32) (x6 : Int32) (x7 : Int32) (x8 : Int32) (nx16 : Int32 × Int32 × Int32 × Int32 × Int32 × Int32 → Option (Int32)) : Option (Int32) := fL_areAges_c115 vX vC x1 x2 x3 x4 x6 x7 x8 (0 : Int32) nx16
def fL_areAges_c16 (vX : KX) (vC : KC) (x1 : Int32) (x2 : Int32) (x3 : Int32) (x4 : Int32) (x5 : Int32) (x6 : Int32) (nx16 : Int32 × Int32 × Int32 × Int32 × Int32 × Int32 → Option (Int32)) : Option (Int32) := (fX4_layers vX vC).bind fun r19 => if r19 ≤ x6 then (if x5 = (0 : Int32) then (fL_areAges_c311 vX vC x1 x3 x4) else ((fX4_depth vX vC).bind fun r278 => if ¬ r278 = x1 then (fL_areAges_c311 vX vC x1 x3 x4) else ((fX4_fitting vX vC).bind fun r286 => if x4 < r286 then (fL_areAges_c311 vX vC x1 x3 x4) else ((fX4_layers vX vC).bind fun r296 => (fX4_thickness vX vC r296).bind fun r299 => if ¬ r299 = (-1000000001 : Int32) then (fL_areAges_c311 vX vC x1 x3 x4) else (fL_areAges_c312 vX vC x1 x3 x4 (1 : Int32)))))) else ((fX4_thickness vX vC x6).bind fun r28 => (fX4_years vX vC x6).bind fun r36 => (fX4_age vX vC (x1 + (r28 / (2 : Int32)))).bind fun r48 => if x5 = (0 : Int32) then (fL_areAges_c114 vX vC x1 x2 x3 x4 x6 r28 r36 nx16) else (if r28 ≤ (0 : Int32) then (fL_areAges_c114 vX vC x1 x2 x3 x4 x6 r28 r36 nx16) else ((fX4_thinning vX vC x6).bind fun r66 => if r66 < (10 : Int32) then (fL_areAges_c114 vX vC x1 x2 x3 x4 x6 r28 r36 nx16) else ((fX4_thinning vX vC x6).bind fun r77 => if (1000 : Int32) < r77 then (fL_areAges_c114 vX vC x1 x2 x3 x4 x6 r28 r36 nx16) else ((fX4_age vX vC x1).bind fun r88 => if ¬ r88 = x2 then (fL_areAges_c114 vX vC x1 x2 x3 x4 x6 r28 r36 nx16) else (if r48 < x2 then (fL_areAges_c114 vX vC x1 x2 x3 x4 x6 r28 r36 nx16) else (if (x2 + r36) < r48 then (fL_areAges_c114 vX vC x1 x2 x3 x4 x6 r28 r36 nx16) else (fL_areAges_c115 vX vC x1 x2 x3 x4 x6 r28 r36 (1 : Int32) nx16))))))))
def fL_areAges (vX : KX) (vC : KC) : Option (Int32) := kLoopC kFu (fun q nx16 => fL_areAges_c16 vX vC q.1 q.2.1 q.2.2.1 q.2.2.2.1 q.2.2.2.2.1 q.2.2.2.2.2 nx16) ((0 : Int32), (0 : Int32), (7 : Int32), (0 : Int32), (1 : Int32), (0 : Int32))
set_option maxHeartbeats 4000000 in
set_option maxRecDepth 100000 in
theorem cL_areAges_ok (l : Launch) (D : va_G) (ty : kTy) (aX : Nat) (adC adF adH adT : Nat → Nat) (sz : Nat) (vX : KX) (vC : KC)  (res : Int32) (h : fL_areAges vX vC = some res) : kMI l yL_areAges wsL_areAges { frames := 6, cells := 0, slots := 0, locals := 154 } [.ref aX] D ty (wX aX adC adH adF adT vX ++ wC ty adC vC) sz res (wX aX adC adH adF adT vX ++ wC ty adC vC) := by
  refine Met.ofW (cc := cL_areAges) (maxL := 12) (ret := (some .boolean)) (by decide) rfl ?_
  intro p e s m args below meth c s₁ B hml hv
  obtain ⟨rfl, hsz, hP, hK, hD0⟩ := hv
  have hx := B.exec
  have hb := B.bytes
  have hr := B.returns
  have hts := atoms_spec (ws := wsL_areAges) B.pre
  have hown : s.vm.findClass RL = some m.cls := findClass_of_methodNamed B.named
  have hlocks := B.notSynchronized
  subst hsz
  have hD := hD0.self (sz := s.heap.size)
  generalize hAe : va_A (wX aX adC adH adF adT vX ++ wC ty adC vC) s.heap.size = A at hD ⊢
  have hA : ∀ q : Nat, s.heap.size ≤ q → A q := fun q h => by rw [← hAe]; exact Or.inr h
  have hS : va_S A s.heap s.heap [] := va_S.rf
  refine kGenW (fun Q hQ => ?_)
  have wf0 := hts (.constant RL 106 (-1000000002)) (by decide +kernel)
  have wf1 := hts (.constant RL 95 (-1000000005)) (by decide +kernel)
  have wf2 := hts (.constant RL 96 (1000000)) (by decide +kernel)
  have wf3 := hts (.constant RL 72 (-1000000001)) (by decide +kernel)
  have J363 : ∀ (x3 : Int32) (s0 : Int32), fL_areAges_c363 vX vC x3 s0 = some res → ∀ (H : Heap) (locs : List Loc) (ls : Array Slot), va_P D vwCl (wX aX adC adH adF adT vX ++ wC ty adC vC) H → va_D A (wX aX adC adH adF adT vX ++ wC ty adC vC) → va_S A s.heap H locs → lv_has ls 12 [(0, .ref aX), (3, .int x3)] → W p l e (headSpec wsL_areAges { frames := 6, cells := 0, slots := 0, locals := 154 }).room s m ([.ref aX] : List Value).toArray below meth c H locs 0 0 Q (F0 m 363 ls [.int s0]) := by
    intro x3 s0 h H locs ls hP hD hS hl
    unfold fL_areAges_c363 at h
    refine lv_istore (lv' := [(5, .int s0), (0, .ref aX), (3, .int x3)]) hx hb dL_areAges_363 hl (by decide) rfl (fun ls hl => ?_)
    refine lv_iload hx hb dL_areAges_365 (lv_at hl 0 rfl) ?_
    refine lv_if_eq (tgt := 383) hx hb dL_areAges_367 (by decide) (fun c367 => ?_) (fun c367 => ?_)
    · have h := kT h c367
      refine lv_iconst (v := 0) hx hb dL_areAges_383 (by decide) ?_
      obtain rfl := Option.some.inj h
      subst hQ
      exact W.zret (ty := .boolean) (v := (0 : Int32)) hx hb hr rfl (fun t ht hW => ⟨⟨(0 : Int32), (), rfl, rfl, kEnd ht hP⟩, hS.F ht⟩) hS.2.2 dL_areAges_384
    · have h := kF h c367
      refine lv_aload_n hx hb dL_areAges_370 rfl (lv_at hl 1 rfl) ?_
      obtain ⟨r371, e371, h⟩ := kBd h
      refine kCallWI (As := []) (rest := []) (sg := [wX aX adC adH adF adT vX, wC ty adC vC]) (sc := [wX aX adC adH adF adT vX, wC ty adC vC]) (s1 := [wX aX adC adH adF adT vX, wC ty adC vC]) (sn := [wX aX adC adH adF adT vX, wC ty adC vC]) ⟨hx, hb, hml, hown, hts⟩ (cX4_seal_ok l D ty aX adC adF adH adT H.size vX vC  r371 e371) (cwV 0 hts gL_areAges_X4_seal rfl rfl rfl (by decide +kernel) ⟨Nat.le_of_ble_eq_true rfl, Nat.le_of_ble_eq_true rfl⟩) hP hK hD hS hA [0, 1] (by decide) rfl 4 0 rfl rfl rfl rfl hl.1 rfl (Nat.le_of_ble_eq_true rfl) dL_areAges_371 ⟨Nat.le_of_ble_eq_true rfl, Nat.le_of_ble_eq_true rfl⟩ rfl rfl (fun H locs hP hD hS => ?_)
      have hP : va_P D vwCl (wX aX adC adH adF adT vX ++ wC ty adC vC) H := hP
      have hD : va_D A (wX aX adC adH adF adT vX ++ wC ty adC vC) := hD
      refine lv_iload_n hx hb dL_areAges_374 rfl (lv_at hl 2 rfl) ?_
      refine lv_i2s hx hb dL_areAges_375 rfl ?_
      refine lv_icmp_ne (tgt := 383) hx hb dL_areAges_376 (by decide) (fun c376 => ?_) (fun c376 => ?_)
      · have h := kT h c376
        refine lv_iconst (v := 0) hx hb dL_areAges_383 (by decide) ?_
        obtain rfl := Option.some.inj h
        subst hQ
        exact W.zret (ty := .boolean) (v := (0 : Int32)) hx hb hr rfl (fun t ht hW => ⟨⟨(0 : Int32), (), rfl, rfl, kEnd ht hP⟩, hS.F ht⟩) hS.2.2 dL_areAges_384
      · have h := kF h (fun z => z c376)
        refine lv_iconst (v := 1) hx hb dL_areAges_379 (by decide) ?_
        refine lv_goto (tgt := 384) hx hb dL_areAges_380 (by decide) ?_
        obtain rfl := Option.some.inj h
        subst hQ
        exact W.zret (ty := .boolean) (v := (1 : Int32)) hx hb hr rfl (fun t ht hW => ⟨⟨(1 : Int32), (), rfl, rfl, kEnd ht hP⟩, hS.F ht⟩) hS.2.2 dL_areAges_384
  have J362 : ∀ (x3 : Int32), fL_areAges_c362 vX vC x3 = some res → ∀ (H : Heap) (locs : List Loc) (ls : Array Slot), va_P D vwCl (wX aX adC adH adF adT vX ++ wC ty adC vC) H → va_D A (wX aX adC adH adF adT vX ++ wC ty adC vC) → va_S A s.heap H locs → lv_has ls 12 [(0, .ref aX), (3, .int x3)] → W p l e (headSpec wsL_areAges { frames := 6, cells := 0, slots := 0, locals := 154 }).room s m ([.ref aX] : List Value).toArray below meth c H locs 0 0 Q (F0 m 362 ls []) := by
    intro x3 h H locs ls hP hD hS hl
    unfold fL_areAges_c362 at h
    refine lv_iconst (v := 0) hx hb dL_areAges_362 (by decide) ?_
    exact J363 x3 (0 : Int32) h H locs ls hP hD hS (lv_sub hl [0, 1] rfl)
  have J343 : ∀ (x1 : Int32) (x3 : Int32) (s0 : Int32) (s1 : Int32), fL_areAges_c343 vX vC x1 x3 s0 s1 = some res → ∀ (H : Heap) (locs : List Loc) (ls : Array Slot), va_P D vwCl (wX aX adC adH adF adT vX ++ wC ty adC vC) H → va_D A (wX aX adC adH adF adT vX ++ wC ty adC vC) → va_S A s.heap H locs → lv_has ls 12 [(0, .ref aX), (1, .int x1), (3, .int x3)] → W p l e (headSpec wsL_areAges { frames := 6, cells := 0, slots := 0, locals := 154 }).room s m ([.ref aX] : List Value).toArray below meth c H locs 0 0 Q (F0 m 343 ls [.int s1, .int s0]) := by
    intro x1 x3 s0 s1 h H locs ls hP hD hS hl
    unfold fL_areAges_c343 at h
    refine lv_icmp_ne (tgt := 362) hx hb dL_areAges_343 (by decide) (fun c343 => ?_) (fun c343 => ?_)
    · have h := kT h c343
      exact J362 x3 h H locs ls hP hD hS (lv_sub hl [0, 2] rfl)
    · have h := kF h (fun z => z c343)
      refine lv_aload_n hx hb dL_areAges_346 rfl (lv_at hl 0 rfl) ?_
      refine lv_iload_n hx hb dL_areAges_347 rfl (lv_at hl 1 rfl) ?_
      refine lv_iconst (v := 1) hx hb dL_areAges_348 (by decide) ?_
      refine lv_iadd hx hb dL_areAges_349 ?_
      obtain ⟨r350, e350, h⟩ := kBd h
      refine kCallWI (As := [.int (x1 + (1 : Int32))]) (rest := []) (sg := [wX aX adC adH adF adT vX, wC ty adC vC]) (sc := [wX aX adC adH adF adT vX, wC ty adC vC]) (s1 := [wX aX adC adH adF adT vX, wC ty adC vC]) (sn := [wX aX adC adH adF adT vX, wC ty adC vC]) ⟨hx, hb, hml, hown, hts⟩ (cX4_age_ok l D ty aX adC adF adH adT H.size vX vC (x1 + (1 : Int32))  r350 e350) (cwV 1 hts gL_areAges_X4_age rfl rfl rfl (by decide +kernel) ⟨Nat.le_of_ble_eq_true rfl, Nat.le_of_ble_eq_true rfl⟩) hP hK hD hS hA [0, 1] (by decide) rfl 4 0 rfl rfl rfl rfl hl.1 rfl (Nat.le_of_ble_eq_true rfl) dL_areAges_350 ⟨Nat.le_of_ble_eq_true rfl, Nat.le_of_ble_eq_true rfl⟩ rfl rfl (fun H locs hP hD hS => ?_)
      have hP : va_P D vwCl (wX aX adC adH adF adT vX ++ wC ty adC vC) H := hP
      have hD : va_D A (wX aX adC adH adF adT vX ++ wC ty adC vC) := hD
      refine lv_ldc hx hb hown wf0 dL_areAges_353 ?_
      refine lv_icmp_ne (tgt := 362) hx hb dL_areAges_355 (by decide) (fun c355 => ?_) (fun c355 => ?_)
      · have h := kT h c355
        exact J362 x3 h H locs ls hP hD hS (lv_sub hl [0, 2] rfl)
      · have h := kF h (fun z => z c355)
        refine lv_iconst (v := 1) hx hb dL_areAges_358 (by decide) ?_
        refine lv_goto (tgt := 363) hx hb dL_areAges_359 (by decide) ?_
        exact J363 x3 (1 : Int32) h H locs ls hP hD hS (lv_sub hl [0, 2] rfl)
  have J333 : ∀ (x1 : Int32) (x3 : Int32) (x4 : Int32) (s0 : Int32), fL_areAges_c333 vX vC x1 x3 x4 s0 = some res → ∀ (H : Heap) (locs : List Loc) (ls : Array Slot), va_P D vwCl (wX aX adC adH adF adT vX ++ wC ty adC vC) H → va_D A (wX aX adC adH adF adT vX ++ wC ty adC vC) → va_S A s.heap H locs → lv_has ls 12 [(0, .ref aX), (1, .int x1), (3, .int x3), (4, .int x4)] → W p l e (headSpec wsL_areAges { frames := 6, cells := 0, slots := 0, locals := 154 }).room s m ([.ref aX] : List Value).toArray below meth c H locs 0 0 Q (F0 m 333 ls [.int s0]) := by
    intro x1 x3 x4 s0 h H locs ls hP hD hS hl
    unfold fL_areAges_c333 at h
    refine lv_iload hx hb dL_areAges_333 (lv_at hl 3 rfl) ?_
    refine lv_if_ne (tgt := 342) hx hb dL_areAges_335 (by decide) (fun c335 => ?_) (fun c335 => ?_)
    · have h := kT h c335
      refine lv_iconst (v := 0) hx hb dL_areAges_342 (by decide) ?_
      exact J343 x1 x3 s0 (0 : Int32) h H locs ls hP hD hS (lv_sub hl [0, 1, 2] rfl)
    · have h := kF h (fun z => z c335)
      refine lv_iconst (v := 1) hx hb dL_areAges_338 (by decide) ?_
      refine lv_goto (tgt := 343) hx hb dL_areAges_339 (by decide) ?_
      exact J343 x1 x3 s0 (1 : Int32) h H locs ls hP hD hS (lv_sub hl [0, 1, 2] rfl)
  have J312 : ∀ (x1 : Int32) (x3 : Int32) (x4 : Int32) (s0 : Int32), fL_areAges_c312 vX vC x1 x3 x4 s0 = some res → ∀ (H : Heap) (locs : List Loc) (ls : Array Slot), va_P D vwCl (wX aX adC adH adF adT vX ++ wC ty adC vC) H → va_D A (wX aX adC adH adF adT vX ++ wC ty adC vC) → va_S A s.heap H locs → lv_has ls 12 [(0, .ref aX), (1, .int x1), (3, .int x3), (4, .int x4)] → W p l e (headSpec wsL_areAges { frames := 6, cells := 0, slots := 0, locals := 154 }).room s m ([.ref aX] : List Value).toArray below meth c H locs 0 0 Q (F0 m 312 ls [.int s0]) := by
    intro x1 x3 x4 s0 h H locs ls hP hD hS hl
    unfold fL_areAges_c312 at h
    refine lv_istore (lv' := [(5, .int s0), (0, .ref aX), (1, .int x1), (3, .int x3), (4, .int x4)]) hx hb dL_areAges_312 hl (by decide) rfl (fun ls hl => ?_)
    refine lv_iload hx hb dL_areAges_314 (lv_at hl 0 rfl) ?_
    refine lv_if_eq (tgt := 362) hx hb dL_areAges_316 (by decide) (fun c316 => ?_) (fun c316 => ?_)
    · have h := kT h c316
      exact J362 x3 h H locs ls hP hD hS (lv_sub hl [1, 3] rfl)
    · have h := kF h c316
      refine lv_aload_n hx hb dL_areAges_319 rfl (lv_at hl 1 rfl) ?_
      obtain ⟨r320, e320, h⟩ := kBd h
      refine kCallWI (As := []) (rest := []) (sg := [wX aX adC adH adF adT vX, wC ty adC vC]) (sc := [wX aX adC adH adF adT vX, wC ty adC vC]) (s1 := [wX aX adC adH adF adT vX, wC ty adC vC]) (sn := [wX aX adC adH adF adT vX, wC ty adC vC]) ⟨hx, hb, hml, hown, hts⟩ (cX4_bestFunction_ok l D ty aX adC adF adH adT H.size vX vC  r320 e320) (cwV 0 hts gL_areAges_X4_bestFunction rfl rfl rfl (by decide +kernel) ⟨Nat.le_of_ble_eq_true rfl, Nat.le_of_ble_eq_true rfl⟩) hP hK hD hS hA [0, 1] (by decide) rfl 4 0 rfl rfl rfl rfl hl.1 rfl (Nat.le_of_ble_eq_true rfl) dL_areAges_320 ⟨Nat.le_of_ble_eq_true rfl, Nat.le_of_ble_eq_true rfl⟩ rfl rfl (fun H locs hP hD hS => ?_)
      have hP : va_P D vwCl (wX aX adC adH adF adT vX ++ wC ty adC vC) H := hP
      have hD : va_D A (wX aX adC adH adF adT vX ++ wC ty adC vC) := hD
      refine lv_ldc hx hb hown wf1 dL_areAges_323 ?_
      refine lv_icmp_ne (tgt := 332) hx hb dL_areAges_325 (by decide) (fun c325 => ?_) (fun c325 => ?_)
      · have h := kT h c325
        refine lv_iconst (v := 0) hx hb dL_areAges_332 (by decide) ?_
        exact J333 x1 x3 x4 (0 : Int32) h H locs ls hP hD hS (lv_sub hl [1, 2, 3, 4] rfl)
      · have h := kF h (fun z => z c325)
        refine lv_iconst (v := 1) hx hb dL_areAges_328 (by decide) ?_
        refine lv_goto (tgt := 333) hx hb dL_areAges_329 (by decide) ?_
        exact J333 x1 x3 x4 (1 : Int32) h H locs ls hP hD hS (lv_sub hl [1, 2, 3, 4] rfl)
  have J311 : ∀ (x1 : Int32) (x3 : Int32) (x4 : Int32), fL_areAges_c311 vX vC x1 x3 x4 = some res → ∀ (H : Heap) (locs : List Loc) (ls : Array Slot), va_P D vwCl (wX aX adC adH adF adT vX ++ wC ty adC vC) H → va_D A (wX aX adC adH adF adT vX ++ wC ty adC vC) → va_S A s.heap H locs → lv_has ls 12 [(0, .ref aX), (1, .int x1), (3, .int x3), (4, .int x4)] → W p l e (headSpec wsL_areAges { frames := 6, cells := 0, slots := 0, locals := 154 }).room s m ([.ref aX] : List Value).toArray below meth c H locs 0 0 Q (F0 m 311 ls []) := by
    intro x1 x3 x4 h H locs ls hP hD hS hl
    unfold fL_areAges_c311 at h
    refine lv_iconst (v := 0) hx hb dL_areAges_311 (by decide) ?_
    exact J312 x1 x3 x4 (0 : Int32) h H locs ls hP hD hS (lv_sub hl [0, 1, 2, 3] rfl)
  have J242 : ∀ (x1 : Int32) (x2 : Int32) (x3 : Int32) (x4 : Int32) (x6 : Int32) (s0 : Int32) (nx16 : Int32 × Int32 × Int32 × Int32 × Int32 × Int32 → Option (Int32)) (hn16 : ∀ (x1 : Int32) (x2 : Int32) (x3 : Int32) (x4 : Int32) (x5 : Int32) (x6 : Int32), nx16 (x1, x2, x3, x4, x5, x6) = some res → ∀ (H : Heap) (locs : List Loc) (ls : Array Slot), va_P D vwCl (wX aX adC adH adF adT vX ++ wC ty adC vC) H → va_D A (wX aX adC adH adF adT vX ++ wC ty adC vC) → va_S A s.heap H locs → lv_has ls 12 [(0, .ref aX), (1, .int x1), (2, .int x2), (3, .int x3), (4, .int x4), (5, .int x5), (6, .int x6)] → W p l e (headSpec wsL_areAges { frames := 6, cells := 0, slots := 0, locals := 154 }).room s m ([.ref aX] : List Value).toArray below meth c H locs 0 0 Q (F0 m 16 ls [])), fL_areAges_c242 vX vC x1 x2 x3 x4 x6 s0 nx16 = some res → ∀ (H : Heap) (locs : List Loc) (ls : Array Slot), va_P D vwCl (wX aX adC adH adF adT vX ++ wC ty adC vC) H → va_D A (wX aX adC adH adF adT vX ++ wC ty adC vC) → va_S A s.heap H locs → lv_has ls 12 [(0, .ref aX), (1, .int x1), (2, .int x2), (3, .int x3), (4, .int x4), (6, .int x6)] → W p l e (headSpec wsL_areAges { frames := 6, cells := 0, slots := 0, locals := 154 }).room s m ([.ref aX] : List Value).toArray below meth c H locs 0 0 Q (F0 m 242 ls [.int s0]) := by
    intro x1 x2 x3 x4 x6 s0 nx16 hn16 h H locs ls hP hD hS hl
    unfold fL_areAges_c242 at h
    refine lv_istore (lv' := [(5, .int s0), (0, .ref aX), (1, .int x1), (2, .int x2), (3, .int x3), (4, .int x4), (6, .int x6)]) hx hb dL_areAges_242 hl (by decide) rfl (fun ls hl => ?_)
    refine lv_aload_n hx hb dL_areAges_244 rfl (lv_at hl 1 rfl) ?_
    refine lv_iload hx hb dL_areAges_245 (lv_at hl 6 rfl) ?_
    obtain ⟨r247, e247, h⟩ := kBd h
    refine kCallWI (As := [.int x6]) (rest := []) (sg := [wX aX adC adH adF adT vX, wC ty adC vC]) (sc := [wX aX adC adH adF adT vX, wC ty adC vC]) (s1 := [wX aX adC adH adF adT vX, wC ty adC vC]) (sn := [wX aX adC adH adF adT vX, wC ty adC vC]) ⟨hx, hb, hml, hown, hts⟩ (cX4_residual_ok l D ty aX adC adF adH adT H.size vX vC x6  r247 e247) (cwV 1 hts gL_areAges_X4_residual rfl rfl rfl (by decide +kernel) ⟨Nat.le_of_ble_eq_true rfl, Nat.le_of_ble_eq_true rfl⟩) hP hK hD hS hA [0, 1] (by decide) rfl 4 0 rfl rfl rfl rfl hl.1 rfl (Nat.le_of_ble_eq_true rfl) dL_areAges_247 ⟨Nat.le_of_ble_eq_true rfl, Nat.le_of_ble_eq_true rfl⟩ rfl rfl (fun H locs hP hD hS => ?_)
    have hP : va_P D vwCl (wX aX adC adH adF adT vX ++ wC ty adC vC) H := hP
    have hD : va_D A (wX aX adC adH adF adT vX ++ wC ty adC vC) := hD
    refine lv_ldc hx hb hown wf1 dL_areAges_250 ?_
    refine lv_icmp_ne (tgt := 260) hx hb dL_areAges_252 (by decide) (fun c252 => ?_) (fun c252 => ?_)
    · have h := kT h c252
      refine lv_iload hx hb dL_areAges_260 (lv_at hl 5 rfl) ?_
      refine lv_iconst (v := 1) hx hb dL_areAges_262 (by decide) ?_
      refine lv_iadd hx hb dL_areAges_263 ?_
      refine lv_istore (lv' := [(4, .int (x4 + (1 : Int32))), (5, .int s0), (0, .ref aX), (1, .int x1), (2, .int x2), (3, .int x3), (6, .int x6)]) hx hb dL_areAges_264 hl (by decide) rfl (fun ls hl => ?_)
      refine lv_iinc (v := (x6 + 1)) (lv' := [(6, .int (x6 + 1)), (4, .int (x4 + (1 : Int32))), (5, .int s0), (0, .ref aX), (1, .int x1), (2, .int x2), (3, .int x3)]) hx hb dL_areAges_266 hl (k := 6) rfl rfl (by decide) rfl (fun ls hl => ?_)
      refine lv_goto (tgt := 16) hx hb dL_areAges_269 (by decide) ?_
      exact hn16 x1 x2 x3 (x4 + (1 : Int32)) s0 (x6 + 1) h H locs ls hP hD hS (lv_sub hl [3, 4, 5, 6, 1, 2, 0] rfl)
    · have h := kF h (fun z => z c252)
      refine lv_iload hx hb dL_areAges_255 (lv_at hl 5 rfl) ?_
      refine lv_goto (tgt := 264) hx hb dL_areAges_257 (by decide) ?_
      refine lv_istore (lv' := [(4, .int x4), (5, .int s0), (0, .ref aX), (1, .int x1), (2, .int x2), (3, .int x3), (6, .int x6)]) hx hb dL_areAges_264 hl (by decide) rfl (fun ls hl => ?_)
      refine lv_iinc (v := (x6 + 1)) (lv' := [(6, .int (x6 + 1)), (4, .int x4), (5, .int s0), (0, .ref aX), (1, .int x1), (2, .int x2), (3, .int x3)]) hx hb dL_areAges_266 hl (k := 6) rfl rfl (by decide) rfl (fun ls hl => ?_)
      refine lv_goto (tgt := 16) hx hb dL_areAges_269 (by decide) ?_
      exact hn16 x1 x2 x3 x4 s0 (x6 + 1) h H locs ls hP hD hS (lv_sub hl [3, 4, 5, 6, 1, 2, 0] rfl)
  have J241 : ∀ (x1 : Int32) (x2 : Int32) (x3 : Int32) (x4 : Int32) (x6 : Int32) (nx16 : Int32 × Int32 × Int32 × Int32 × Int32 × Int32 → Option (Int32)) (hn16 : ∀ (x1 : Int32) (x2 : Int32) (x3 : Int32) (x4 : Int32) (x5 : Int32) (x6 : Int32), nx16 (x1, x2, x3, x4, x5, x6) = some res → ∀ (H : Heap) (locs : List Loc) (ls : Array Slot), va_P D vwCl (wX aX adC adH adF adT vX ++ wC ty adC vC) H → va_D A (wX aX adC adH adF adT vX ++ wC ty adC vC) → va_S A s.heap H locs → lv_has ls 12 [(0, .ref aX), (1, .int x1), (2, .int x2), (3, .int x3), (4, .int x4), (5, .int x5), (6, .int x6)] → W p l e (headSpec wsL_areAges { frames := 6, cells := 0, slots := 0, locals := 154 }).room s m ([.ref aX] : List Value).toArray below meth c H locs 0 0 Q (F0 m 16 ls [])), fL_areAges_c241 vX vC x1 x2 x3 x4 x6 nx16 = some res → ∀ (H : Heap) (locs : List Loc) (ls : Array Slot), va_P D vwCl (wX aX adC adH adF adT vX ++ wC ty adC vC) H → va_D A (wX aX adC adH adF adT vX ++ wC ty adC vC) → va_S A s.heap H locs → lv_has ls 12 [(0, .ref aX), (1, .int x1), (2, .int x2), (3, .int x3), (4, .int x4), (6, .int x6)] → W p l e (headSpec wsL_areAges { frames := 6, cells := 0, slots := 0, locals := 154 }).room s m ([.ref aX] : List Value).toArray below meth c H locs 0 0 Q (F0 m 241 ls []) := by
    intro x1 x2 x3 x4 x6 nx16 hn16 h H locs ls hP hD hS hl
    unfold fL_areAges_c241 at h
    refine lv_iconst (v := 0) hx hb dL_areAges_241 (by decide) ?_
    exact J242 x1 x2 x3 x4 x6 (0 : Int32) nx16 hn16 h H locs ls hP hD hS (lv_sub hl [0, 1, 2, 3, 4, 5] rfl)
  have J237 : ∀ (x1 : Int32) (x2 : Int32) (x3 : Int32) (x4 : Int32) (x6 : Int32) (nx16 : Int32 × Int32 × Int32 × Int32 × Int32 × Int32 → Option (Int32)) (hn16 : ∀ (x1 : Int32) (x2 : Int32) (x3 : Int32) (x4 : Int32) (x5 : Int32) (x6 : Int32), nx16 (x1, x2, x3, x4, x5, x6) = some res → ∀ (H : Heap) (locs : List Loc) (ls : Array Slot), va_P D vwCl (wX aX adC adH adF adT vX ++ wC ty adC vC) H → va_D A (wX aX adC adH adF adT vX ++ wC ty adC vC) → va_S A s.heap H locs → lv_has ls 12 [(0, .ref aX), (1, .int x1), (2, .int x2), (3, .int x3), (4, .int x4), (5, .int x5), (6, .int x6)] → W p l e (headSpec wsL_areAges { frames := 6, cells := 0, slots := 0, locals := 154 }).room s m ([.ref aX] : List Value).toArray below meth c H locs 0 0 Q (F0 m 16 ls [])), fL_areAges_c237 vX vC x1 x2 x3 x4 x6 nx16 = some res → ∀ (H : Heap) (locs : List Loc) (ls : Array Slot), va_P D vwCl (wX aX adC adH adF adT vX ++ wC ty adC vC) H → va_D A (wX aX adC adH adF adT vX ++ wC ty adC vC) → va_S A s.heap H locs → lv_has ls 12 [(0, .ref aX), (1, .int x1), (2, .int x2), (3, .int x3), (4, .int x4), (6, .int x6)] → W p l e (headSpec wsL_areAges { frames := 6, cells := 0, slots := 0, locals := 154 }).room s m ([.ref aX] : List Value).toArray below meth c H locs 0 0 Q (F0 m 237 ls []) := by
    intro x1 x2 x3 x4 x6 nx16 hn16 h H locs ls hP hD hS hl
    unfold fL_areAges_c237 at h
    refine lv_iconst (v := 1) hx hb dL_areAges_237 (by decide) ?_
    refine lv_goto (tgt := 242) hx hb dL_areAges_238 (by decide) ?_
    exact J242 x1 x2 x3 x4 x6 (1 : Int32) nx16 hn16 h H locs ls hP hD hS (lv_sub hl [0, 1, 2, 3, 4, 5] rfl)
  have J198 : ∀ (x1 : Int32) (x2 : Int32) (x3 : Int32) (x4 : Int32) (x6 : Int32) (x8 : Int32) (s0 : Int32) (nx16 : Int32 × Int32 × Int32 × Int32 × Int32 × Int32 → Option (Int32)) (hn16 : ∀ (x1 : Int32) (x2 : Int32) (x3 : Int32) (x4 : Int32) (x5 : Int32) (x6 : Int32), nx16 (x1, x2, x3, x4, x5, x6) = some res → ∀ (H : Heap) (locs : List Loc) (ls : Array Slot), va_P D vwCl (wX aX adC adH adF adT vX ++ wC ty adC vC) H → va_D A (wX aX adC adH adF adT vX ++ wC ty adC vC) → va_S A s.heap H locs → lv_has ls 12 [(0, .ref aX), (1, .int x1), (2, .int x2), (3, .int x3), (4, .int x4), (5, .int x5), (6, .int x6)] → W p l e (headSpec wsL_areAges { frames := 6, cells := 0, slots := 0, locals := 154 }).room s m ([.ref aX] : List Value).toArray below meth c H locs 0 0 Q (F0 m 16 ls [])), fL_areAges_c198 vX vC x1 x2 x3 x4 x6 x8 s0 nx16 = some res → ∀ (H : Heap) (locs : List Loc) (ls : Array Slot), va_P D vwCl (wX aX adC adH adF adT vX ++ wC ty adC vC) H → va_D A (wX aX adC adH adF adT vX ++ wC ty adC vC) → va_S A s.heap H locs → lv_has ls 12 [(0, .ref aX), (1, .int x1), (2, .int x2), (3, .int x3), (4, .int x4), (6, .int x6), (8, .int x8)] → W p l e (headSpec wsL_areAges { frames := 6, cells := 0, slots := 0, locals := 154 }).room s m ([.ref aX] : List Value).toArray below meth c H locs 0 0 Q (F0 m 198 ls [.int s0]) := by
    intro x1 x2 x3 x4 x6 x8 s0 nx16 hn16 h H locs ls hP hD hS hl
    unfold fL_areAges_c198 at h
    refine lv_istore (lv' := [(5, .int s0), (0, .ref aX), (1, .int x1), (2, .int x2), (3, .int x3), (4, .int x4), (6, .int x6), (8, .int x8)]) hx hb dL_areAges_198 hl (by decide) rfl (fun ls hl => ?_)
    refine lv_aload_n hx hb dL_areAges_200 rfl (lv_at hl 1 rfl) ?_
    refine lv_iload hx hb dL_areAges_201 (lv_at hl 6 rfl) ?_
    obtain ⟨r203, e203, h⟩ := kBd h
    refine kCallWI (As := [.int x6]) (rest := []) (sg := [wX aX adC adH adF adT vX, wC ty adC vC]) (sc := [wX aX adC adH adF adT vX, wC ty adC vC]) (s1 := [wX aX adC adH adF adT vX, wC ty adC vC]) (sn := [wX aX adC adH adF adT vX, wC ty adC vC]) ⟨hx, hb, hml, hown, hts⟩ (cX4_countError_ok l D ty aX adC adF adH adT H.size vX vC x6  r203 e203) (cwV 1 hts gL_areAges_X4_countError rfl rfl rfl (by decide +kernel) ⟨Nat.le_of_ble_eq_true rfl, Nat.le_of_ble_eq_true rfl⟩) hP hK hD hS hA [0, 1] (by decide) rfl 4 0 rfl rfl rfl rfl hl.1 rfl (Nat.le_of_ble_eq_true rfl) dL_areAges_203 ⟨Nat.le_of_ble_eq_true rfl, Nat.le_of_ble_eq_true rfl⟩ rfl rfl (fun H locs hP hD hS => ?_)
    have hP : va_P D vwCl (wX aX adC adH adF adT vX ++ wC ty adC vC) H := hP
    have hD : va_D A (wX aX adC adH adF adT vX ++ wC ty adC vC) := hD
    refine lv_istore (lv' := [(11, .int r203), (5, .int s0), (0, .ref aX), (1, .int x1), (2, .int x2), (3, .int x3), (4, .int x4), (6, .int x6), (8, .int x8)]) hx hb dL_areAges_206 hl (by decide) rfl (fun ls hl => ?_)
    refine lv_iload hx hb dL_areAges_208 (lv_at hl 1 rfl) ?_
    refine lv_if_eq (tgt := 241) hx hb dL_areAges_210 (by decide) (fun c210 => ?_) (fun c210 => ?_)
    · have h := kT h c210
      exact J241 x1 x2 x3 x4 x6 nx16 hn16 h H locs ls hP hD hS (lv_sub hl [2, 3, 4, 5, 6, 7] rfl)
    · have h := kF h c210
      refine lv_iload hx hb dL_areAges_213 (lv_at hl 0 rfl) ?_
      refine lv_ldc hx hb hown wf1 dL_areAges_215 ?_
      refine lv_icmp_eq (tgt := 237) hx hb dL_areAges_217 (by decide) (fun c217 => ?_) (fun c217 => ?_)
      · have h := kT h c217
        exact J237 x1 x2 x3 x4 x6 nx16 hn16 h H locs ls hP hD hS (lv_sub hl [2, 3, 4, 5, 6, 7] rfl)
      · have h := kF h c217
        refine lv_iload hx hb dL_areAges_220 (lv_at hl 0 rfl) ?_
        refine lv_iload hx hb dL_areAges_222 (lv_at hl 8 rfl) ?_
        refine lv_icmp_ge (tgt := 241) hx hb dL_areAges_224 (by decide) (fun c224 => ?_) (fun c224 => ?_)
        · have h := kT h c224
          exact J241 x1 x2 x3 x4 x6 nx16 hn16 h H locs ls hP hD hS (lv_sub hl [2, 3, 4, 5, 6, 7] rfl)
        · have h := kF h c224
          refine lv_iload hx hb dL_areAges_227 (lv_at hl 8 rfl) ?_
          refine lv_iload hx hb dL_areAges_229 (lv_at hl 0 rfl) ?_
          refine lv_isub hx hb dL_areAges_231 ?_
          refine lv_ldc hx hb hown wf2 dL_areAges_232 ?_
          refine lv_icmp_gt (tgt := 241) hx hb dL_areAges_234 (by decide) (fun c234 => ?_) (fun c234 => ?_)
          · have h := kT h c234
            exact J241 x1 x2 x3 x4 x6 nx16 hn16 h H locs ls hP hD hS (lv_sub hl [2, 3, 4, 5, 6, 7] rfl)
          · have h := kF h c234
            exact J237 x1 x2 x3 x4 x6 nx16 hn16 h H locs ls hP hD hS (lv_sub hl [2, 3, 4, 5, 6, 7] rfl)
  have J197 : ∀ (x1 : Int32) (x2 : Int32) (x3 : Int32) (x4 : Int32) (x6 : Int32) (x8 : Int32) (nx16 : Int32 × Int32 × Int32 × Int32 × Int32 × Int32 → Option (Int32)) (hn16 : ∀ (x1 : Int32) (x2 : Int32) (x3 : Int32) (x4 : Int32) (x5 : Int32) (x6 : Int32), nx16 (x1, x2, x3, x4, x5, x6) = some res → ∀ (H : Heap) (locs : List Loc) (ls : Array Slot), va_P D vwCl (wX aX adC adH adF adT vX ++ wC ty adC vC) H → va_D A (wX aX adC adH adF adT vX ++ wC ty adC vC) → va_S A s.heap H locs → lv_has ls 12 [(0, .ref aX), (1, .int x1), (2, .int x2), (3, .int x3), (4, .int x4), (5, .int x5), (6, .int x6)] → W p l e (headSpec wsL_areAges { frames := 6, cells := 0, slots := 0, locals := 154 }).room s m ([.ref aX] : List Value).toArray below meth c H locs 0 0 Q (F0 m 16 ls [])), fL_areAges_c197 vX vC x1 x2 x3 x4 x6 x8 nx16 = some res → ∀ (H : Heap) (locs : List Loc) (ls : Array Slot), va_P D vwCl (wX aX adC adH adF adT vX ++ wC ty adC vC) H → va_D A (wX aX adC adH adF adT vX ++ wC ty adC vC) → va_S A s.heap H locs → lv_has ls 12 [(0, .ref aX), (1, .int x1), (2, .int x2), (3, .int x3), (4, .int x4), (6, .int x6), (8, .int x8)] → W p l e (headSpec wsL_areAges { frames := 6, cells := 0, slots := 0, locals := 154 }).room s m ([.ref aX] : List Value).toArray below meth c H locs 0 0 Q (F0 m 197 ls []) := by
    intro x1 x2 x3 x4 x6 x8 nx16 hn16 h H locs ls hP hD hS hl
    unfold fL_areAges_c197 at h
    refine lv_iconst (v := 0) hx hb dL_areAges_197 (by decide) ?_
    exact J198 x1 x2 x3 x4 x6 x8 (0 : Int32) nx16 hn16 h H locs ls hP hD hS (lv_sub hl [0, 1, 2, 3, 4, 5, 6] rfl)
  have J174 : ∀ (x1 : Int32) (x2 : Int32) (x3 : Int32) (x4 : Int32) (x6 : Int32) (x8 : Int32) (s0 : Int32) (s1 : Int32) (nx16 : Int32 × Int32 × Int32 × Int32 × Int32 × Int32 → Option (Int32)) (hn16 : ∀ (x1 : Int32) (x2 : Int32) (x3 : Int32) (x4 : Int32) (x5 : Int32) (x6 : Int32), nx16 (x1, x2, x3, x4, x5, x6) = some res → ∀ (H : Heap) (locs : List Loc) (ls : Array Slot), va_P D vwCl (wX aX adC adH adF adT vX ++ wC ty adC vC) H → va_D A (wX aX adC adH adF adT vX ++ wC ty adC vC) → va_S A s.heap H locs → lv_has ls 12 [(0, .ref aX), (1, .int x1), (2, .int x2), (3, .int x3), (4, .int x4), (5, .int x5), (6, .int x6)] → W p l e (headSpec wsL_areAges { frames := 6, cells := 0, slots := 0, locals := 154 }).room s m ([.ref aX] : List Value).toArray below meth c H locs 0 0 Q (F0 m 16 ls [])), fL_areAges_c174 vX vC x1 x2 x3 x4 x6 x8 s0 s1 nx16 = some res → ∀ (H : Heap) (locs : List Loc) (ls : Array Slot), va_P D vwCl (wX aX adC adH adF adT vX ++ wC ty adC vC) H → va_D A (wX aX adC adH adF adT vX ++ wC ty adC vC) → va_S A s.heap H locs → lv_has ls 12 [(0, .ref aX), (1, .int x1), (2, .int x2), (3, .int x3), (4, .int x4), (6, .int x6), (8, .int x8)] → W p l e (headSpec wsL_areAges { frames := 6, cells := 0, slots := 0, locals := 154 }).room s m ([.ref aX] : List Value).toArray below meth c H locs 0 0 Q (F0 m 174 ls [.int s1, .int s0]) := by
    intro x1 x2 x3 x4 x6 x8 s0 s1 nx16 hn16 h H locs ls hP hD hS hl
    unfold fL_areAges_c174 at h
    refine lv_icmp_ne (tgt := 197) hx hb dL_areAges_174 (by decide) (fun c174 => ?_) (fun c174 => ?_)
    · have h := kT h c174
      exact J197 x1 x2 x3 x4 x6 x8 nx16 hn16 h H locs ls hP hD hS (lv_sub hl [0, 1, 2, 3, 4, 5, 6] rfl)
    · have h := kF h (fun z => z c174)
      refine lv_aload_n hx hb dL_areAges_177 rfl (lv_at hl 0 rfl) ?_
      refine lv_iload_n hx hb dL_areAges_178 rfl (lv_at hl 1 rfl) ?_
      refine lv_iload_n hx hb dL_areAges_179 rfl (lv_at hl 1 rfl) ?_
      obtain ⟨r180, e180, h⟩ := kBd h
      refine kCallWI (As := [.int x1, .int x1]) (rest := []) (sg := [wX aX adC adH adF adT vX, wC ty adC vC]) (sc := [wX aX adC adH adF adT vX, wC ty adC vC]) (s1 := [wX aX adC adH adF adT vX, wC ty adC vC]) (sn := [wX aX adC adH adF adT vX, wC ty adC vC]) ⟨hx, hb, hml, hown, hts⟩ (cX4_lead_ok l D ty aX adC adF adH adT H.size vX vC x1 x1  r180 e180) (cwV 2 hts gL_areAges_X4_lead rfl rfl rfl (by decide +kernel) ⟨Nat.le_of_ble_eq_true rfl, Nat.le_of_ble_eq_true rfl⟩) hP hK hD hS hA [0, 1] (by decide) rfl 4 0 rfl rfl rfl rfl hl.1 rfl (Nat.le_of_ble_eq_true rfl) dL_areAges_180 ⟨Nat.le_of_ble_eq_true rfl, Nat.le_of_ble_eq_true rfl⟩ rfl rfl (fun H locs hP hD hS => ?_)
      have hP : va_P D vwCl (wX aX adC adH adF adT vX ++ wC ty adC vC) H := hP
      have hD : va_D A (wX aX adC adH adF adT vX ++ wC ty adC vC) := hD
      refine lv_iload_n hx hb dL_areAges_183 rfl (lv_at hl 2 rfl) ?_
      refine lv_aload_n hx hb dL_areAges_184 rfl (lv_at hl 0 rfl) ?_
      refine lv_iload_n hx hb dL_areAges_185 rfl (lv_at hl 1 rfl) ?_
      obtain ⟨r186, e186, h⟩ := kBd h
      refine kCallWI (As := [.int x1]) (rest := [.int x2, .int r180]) (sg := [wX aX adC adH adF adT vX, wC ty adC vC]) (sc := [wX aX adC adH adF adT vX, wC ty adC vC]) (s1 := [wX aX adC adH adF adT vX, wC ty adC vC]) (sn := [wX aX adC adH adF adT vX, wC ty adC vC]) ⟨hx, hb, hml, hown, hts⟩ (cX4_gasAge_ok l D ty aX adC adF adH adT H.size vX vC x1  r186 e186) (cwV 1 hts gL_areAges_X4_gasAge rfl rfl rfl (by decide +kernel) ⟨Nat.le_of_ble_eq_true rfl, Nat.le_of_ble_eq_true rfl⟩) hP hK hD hS hA [0, 1] (by decide) rfl 4 0 rfl rfl rfl rfl hl.1 rfl (Nat.le_of_ble_eq_true rfl) dL_areAges_186 ⟨Nat.le_of_ble_eq_true rfl, Nat.le_of_ble_eq_true rfl⟩ rfl rfl (fun H locs hP hD hS => ?_)
      have hP : va_P D vwCl (wX aX adC adH adF adT vX ++ wC ty adC vC) H := hP
      have hD : va_D A (wX aX adC adH adF adT vX ++ wC ty adC vC) := hD
      refine lv_isub hx hb dL_areAges_189 ?_
      refine lv_icmp_ne (tgt := 197) hx hb dL_areAges_190 (by decide) (fun c190 => ?_) (fun c190 => ?_)
      · have h := kT h c190
        exact J197 x1 x2 x3 x4 x6 x8 nx16 hn16 h H locs ls hP hD hS (lv_sub hl [0, 1, 2, 3, 4, 5, 6] rfl)
      · have h := kF h (fun z => z c190)
        refine lv_iconst (v := 1) hx hb dL_areAges_193 (by decide) ?_
        refine lv_goto (tgt := 198) hx hb dL_areAges_194 (by decide) ?_
        exact J198 x1 x2 x3 x4 x6 x8 (1 : Int32) nx16 hn16 h H locs ls hP hD hS (lv_sub hl [0, 1, 2, 3, 4, 5, 6] rfl)
  have J115 : ∀ (x1 : Int32) (x2 : Int32) (x3 : Int32) (x4 : Int32) (x6 : Int32) (x7 : Int32) (x8 : Int32) (s0 : Int32) (nx16 : Int32 × Int32 × Int32 × Int32 × Int32 × Int32 → Option (Int32)) (hn16 : ∀ (x1 : Int32) (x2 : Int32) (x3 : Int32) (x4 : Int32) (x5 : Int32) (x6 : Int32), nx16 (x1, x2, x3, x4, x5, x6) = some res → ∀ (H : Heap) (locs : List Loc) (ls : Array Slot), va_P D vwCl (wX aX adC adH adF adT vX ++ wC ty adC vC) H → va_D A (wX aX adC adH adF adT vX ++ wC ty adC vC) → va_S A s.heap H locs → lv_has ls 12 [(0, .ref aX), (1, .int x1), (2, .int x2), (3, .int x3), (4, .int x4), (5, .int x5), (6, .int x6)] → W p l e (headSpec wsL_areAges { frames := 6, cells := 0, slots := 0, locals := 154 }).room s m ([.ref aX] : List Value).toArray below meth c H locs 0 0 Q (F0 m 16 ls [])), fL_areAges_c115 vX vC x1 x2 x3 x4 x6 x7 x8 s0 nx16 = some res → ∀ (H : Heap) (locs : List Loc) (ls : Array Slot), va_P D vwCl (wX aX adC adH adF adT vX ++ wC ty adC vC) H → va_D A (wX aX adC adH adF adT vX ++ wC ty adC vC) → va_S A s.heap H locs → lv_has ls 12 [(0, .ref aX), (1, .int x1), (2, .int x2), (3, .int x3), (4, .int x4), (6, .int x6), (7, .int x7), (8, .int x8)] → W p l e (headSpec wsL_areAges { frames := 6, cells := 0, slots := 0, locals := 154 }).room s m ([.ref aX] : List Value).toArray below meth c H locs 0 0 Q (F0 m 115 ls [.int s0]) := by
    intro x1 x2 x3 x4 x6 x7 x8 s0 nx16 hn16 h H locs ls hP hD hS hl
    unfold fL_areAges_c115 at h
    refine lv_istore (lv' := [(5, .int s0), (0, .ref aX), (1, .int x1), (2, .int x2), (3, .int x3), (4, .int x4), (6, .int x6), (7, .int x7), (8, .int x8)]) hx hb dL_areAges_115 hl (by decide) rfl (fun ls hl => ?_)
    refine lv_iload_n hx hb dL_areAges_117 rfl (lv_at hl 2 rfl) ?_
    refine lv_iload hx hb dL_areAges_118 (lv_at hl 7 rfl) ?_
    refine lv_iadd hx hb dL_areAges_120 ?_
    refine lv_istore_n (lv' := [(1, .int (x1 + x7)), (5, .int s0), (0, .ref aX), (2, .int x2), (3, .int x3), (4, .int x4), (6, .int x6), (7, .int x7), (8, .int x8)]) hx hb dL_areAges_121 rfl hl (by decide) rfl (fun ls hl => ?_)
    refine lv_iload_n hx hb dL_areAges_122 rfl (lv_at hl 3 rfl) ?_
    refine lv_iload hx hb dL_areAges_123 (lv_at hl 8 rfl) ?_
    refine lv_iadd hx hb dL_areAges_125 ?_
    refine lv_istore_n (lv' := [(2, .int (x2 + x8)), (1, .int (x1 + x7)), (5, .int s0), (0, .ref aX), (3, .int x3), (4, .int x4), (6, .int x6), (7, .int x7), (8, .int x8)]) hx hb dL_areAges_126 rfl hl (by decide) rfl (fun ls hl => ?_)
    refine lv_bipush (v := 31) hx hb dL_areAges_127 (by decide) ?_
    refine lv_iload_n hx hb dL_areAges_129 rfl (lv_at hl 4 rfl) ?_
    refine lv_imul hx hb dL_areAges_130 ?_
    refine lv_iload_n hx hb dL_areAges_131 rfl (lv_at hl 0 rfl) ?_
    refine lv_iadd hx hb dL_areAges_132 ?_
    refine lv_istore_n (lv' := [(3, .int (((31 : Int32) * x3) + (x2 + x8))), (2, .int (x2 + x8)), (1, .int (x1 + x7)), (5, .int s0), (0, .ref aX), (4, .int x4), (6, .int x6), (7, .int x7), (8, .int x8)]) hx hb dL_areAges_133 rfl hl (by decide) rfl (fun ls hl => ?_)
    refine lv_iload_n hx hb dL_areAges_134 rfl (lv_at hl 1 rfl) ?_
    refine lv_aload_n hx hb dL_areAges_135 rfl (lv_at hl 4 rfl) ?_
    refine lv_iload hx hb dL_areAges_136 (lv_at hl 6 rfl) ?_
    obtain ⟨r138, e138, h⟩ := kBd h
    refine kCallWI (As := [.int x6]) (rest := [.int (x2 + x8)]) (sg := [wX aX adC adH adF adT vX, wC ty adC vC]) (sc := [wX aX adC adH adF adT vX, wC ty adC vC]) (s1 := [wX aX adC adH adF adT vX, wC ty adC vC]) (sn := [wX aX adC adH adF adT vX, wC ty adC vC]) ⟨hx, hb, hml, hown, hts⟩ (cX4_delay_ok l D ty aX adC adF adH adT H.size vX vC x6  r138 e138) (cwV 1 hts gL_areAges_X4_delay rfl rfl rfl (by decide +kernel) ⟨Nat.le_of_ble_eq_true rfl, Nat.le_of_ble_eq_true rfl⟩) hP hK hD hS hA [0, 1] (by decide) rfl 4 0 rfl rfl rfl rfl hl.1 rfl (Nat.le_of_ble_eq_true rfl) dL_areAges_138 ⟨Nat.le_of_ble_eq_true rfl, Nat.le_of_ble_eq_true rfl⟩ rfl rfl (fun H locs hP hD hS => ?_)
    have hP : va_P D vwCl (wX aX adC adH adF adT vX ++ wC ty adC vC) H := hP
    have hD : va_D A (wX aX adC adH adF adT vX ++ wC ty adC vC) := hD
    refine lv_isub hx hb dL_areAges_141 ?_
    refine lv_istore (lv' := [(10, .int ((x2 + x8) - r138)), (3, .int (((31 : Int32) * x3) + (x2 + x8))), (2, .int (x2 + x8)), (1, .int (x1 + x7)), (5, .int s0), (0, .ref aX), (4, .int x4), (6, .int x6), (7, .int x7), (8, .int x8)]) hx hb dL_areAges_142 hl (by decide) rfl (fun ls hl => ?_)
    refine lv_iload hx hb dL_areAges_144 (lv_at hl 4 rfl) ?_
    refine lv_if_eq (tgt := 197) hx hb dL_areAges_146 (by decide) (fun c146 => ?_) (fun c146 => ?_)
    · have h := kT h c146
      exact J197 (x1 + x7) (x2 + x8) (((31 : Int32) * x3) + (x2 + x8)) x4 x6 x8 nx16 hn16 h H locs ls hP hD hS (lv_sub hl [5, 3, 2, 1, 6, 7, 9] rfl)
    · have h := kF h c146
      refine lv_aload_n hx hb dL_areAges_149 rfl (lv_at hl 5 rfl) ?_
      refine lv_iload_n hx hb dL_areAges_150 rfl (lv_at hl 3 rfl) ?_
      obtain ⟨r151, e151, h⟩ := kBd h
      refine kCallWI (As := [.int (x1 + x7)]) (rest := []) (sg := [wX aX adC adH adF adT vX, wC ty adC vC]) (sc := [wX aX adC adH adF adT vX, wC ty adC vC]) (s1 := [wX aX adC adH adF adT vX, wC ty adC vC]) (sn := [wX aX adC adH adF adT vX, wC ty adC vC]) ⟨hx, hb, hml, hown, hts⟩ (cX4_age_ok l D ty aX adC adF adH adT H.size vX vC (x1 + x7)  r151 e151) (cwV 1 hts gL_areAges_X4_age rfl rfl rfl (by decide +kernel) ⟨Nat.le_of_ble_eq_true rfl, Nat.le_of_ble_eq_true rfl⟩) hP hK hD hS hA [0, 1] (by decide) rfl 4 0 rfl rfl rfl rfl hl.1 rfl (Nat.le_of_ble_eq_true rfl) dL_areAges_151 ⟨Nat.le_of_ble_eq_true rfl, Nat.le_of_ble_eq_true rfl⟩ rfl rfl (fun H locs hP hD hS => ?_)
      have hP : va_P D vwCl (wX aX adC adH adF adT vX ++ wC ty adC vC) H := hP
      have hD : va_D A (wX aX adC adH adF adT vX ++ wC ty adC vC) := hD
      refine lv_iload_n hx hb dL_areAges_154 rfl (lv_at hl 2 rfl) ?_
      refine lv_icmp_ne (tgt := 197) hx hb dL_areAges_155 (by decide) (fun c155 => ?_) (fun c155 => ?_)
      · have h := kT h c155
        exact J197 (x1 + x7) (x2 + x8) (((31 : Int32) * x3) + (x2 + x8)) x4 x6 x8 nx16 hn16 h H locs ls hP hD hS (lv_sub hl [5, 3, 2, 1, 6, 7, 9] rfl)
      · have h := kF h (fun z => z c155)
        refine lv_aload_n hx hb dL_areAges_158 rfl (lv_at hl 5 rfl) ?_
        refine lv_iload_n hx hb dL_areAges_159 rfl (lv_at hl 3 rfl) ?_
        obtain ⟨r160, e160, h⟩ := kBd h
        refine kCallWI (As := [.int (x1 + x7)]) (rest := []) (sg := [wX aX adC adH adF adT vX, wC ty adC vC]) (sc := [wX aX adC adH adF adT vX, wC ty adC vC]) (s1 := [wX aX adC adH adF adT vX, wC ty adC vC]) (sn := [wX aX adC adH adF adT vX, wC ty adC vC]) ⟨hx, hb, hml, hown, hts⟩ (cX4_gasAge_ok l D ty aX adC adF adH adT H.size vX vC (x1 + x7)  r160 e160) (cwV 1 hts gL_areAges_X4_gasAge rfl rfl rfl (by decide +kernel) ⟨Nat.le_of_ble_eq_true rfl, Nat.le_of_ble_eq_true rfl⟩) hP hK hD hS hA [0, 1] (by decide) rfl 4 0 rfl rfl rfl rfl hl.1 rfl (Nat.le_of_ble_eq_true rfl) dL_areAges_160 ⟨Nat.le_of_ble_eq_true rfl, Nat.le_of_ble_eq_true rfl⟩ rfl rfl (fun H locs hP hD hS => ?_)
        have hP : va_P D vwCl (wX aX adC adH adF adT vX ++ wC ty adC vC) H := hP
        have hD : va_D A (wX aX adC adH adF adT vX ++ wC ty adC vC) := hD
        refine lv_iload hx hb dL_areAges_163 (lv_at hl 0 rfl) ?_
        refine lv_if_ge (tgt := 172) hx hb dL_areAges_165 (by decide) (fun c165 => ?_) (fun c165 => ?_)
        · have h := kT h c165
          refine lv_iload hx hb dL_areAges_172 (lv_at hl 0 rfl) ?_
          exact J174 (x1 + x7) (x2 + x8) (((31 : Int32) * x3) + (x2 + x8)) x4 x6 x8 r160 ((x2 + x8) - r138) nx16 hn16 h H locs ls hP hD hS (lv_sub hl [5, 3, 2, 1, 6, 7, 9] rfl)
        · have h := kF h c165
          refine lv_iconst (v := 0) hx hb dL_areAges_168 (by decide) ?_
          refine lv_goto (tgt := 174) hx hb dL_areAges_169 (by decide) ?_
          exact J174 (x1 + x7) (x2 + x8) (((31 : Int32) * x3) + (x2 + x8)) x4 x6 x8 r160 (0 : Int32) nx16 hn16 h H locs ls hP hD hS (lv_sub hl [5, 3, 2, 1, 6, 7, 9] rfl)
  have J114 : ∀ (x1 : Int32) (x2 : Int32) (x3 : Int32) (x4 : Int32) (x6 : Int32) (x7 : Int32) (x8 : Int32) (nx16 : Int32 × Int32 × Int32 × Int32 × Int32 × Int32 → Option (Int32)) (hn16 : ∀ (x1 : Int32) (x2 : Int32) (x3 : Int32) (x4 : Int32) (x5 : Int32) (x6 : Int32), nx16 (x1, x2, x3, x4, x5, x6) = some res → ∀ (H : Heap) (locs : List Loc) (ls : Array Slot), va_P D vwCl (wX aX adC adH adF adT vX ++ wC ty adC vC) H → va_D A (wX aX adC adH adF adT vX ++ wC ty adC vC) → va_S A s.heap H locs → lv_has ls 12 [(0, .ref aX), (1, .int x1), (2, .int x2), (3, .int x3), (4, .int x4), (5, .int x5), (6, .int x6)] → W p l e (headSpec wsL_areAges { frames := 6, cells := 0, slots := 0, locals := 154 }).room s m ([.ref aX] : List Value).toArray below meth c H locs 0 0 Q (F0 m 16 ls [])), fL_areAges_c114 vX vC x1 x2 x3 x4 x6 x7 x8 nx16 = some res → ∀ (H : Heap) (locs : List Loc) (ls : Array Slot), va_P D vwCl (wX aX adC adH adF adT vX ++ wC ty adC vC) H → va_D A (wX aX adC adH adF adT vX ++ wC ty adC vC) → va_S A s.heap H locs → lv_has ls 12 [(0, .ref aX), (1, .int x1), (2, .int x2), (3, .int x3), (4, .int x4), (6, .int x6), (7, .int x7), (8, .int x8)] → W p l e (headSpec wsL_areAges { frames := 6, cells := 0, slots := 0, locals := 154 }).room s m ([.ref aX] : List Value).toArray below meth c H locs 0 0 Q (F0 m 114 ls []) := by
    intro x1 x2 x3 x4 x6 x7 x8 nx16 hn16 h H locs ls hP hD hS hl
    unfold fL_areAges_c114 at h
    refine lv_iconst (v := 0) hx hb dL_areAges_114 (by decide) ?_
    exact J115 x1 x2 x3 x4 x6 x7 x8 (0 : Int32) nx16 hn16 h H locs ls hP hD hS (lv_sub hl [0, 1, 2, 3, 4, 5, 6, 7] rfl)
  have B16 : ∀ (nx16 : Int32 × Int32 × Int32 × Int32 × Int32 × Int32 → Option (Int32)) (hn16 : ∀ (x1 : Int32) (x2 : Int32) (x3 : Int32) (x4 : Int32) (x5 : Int32) (x6 : Int32), nx16 (x1, x2, x3, x4, x5, x6) = some res → ∀ (H : Heap) (locs : List Loc) (ls : Array Slot), va_P D vwCl (wX aX adC adH adF adT vX ++ wC ty adC vC) H → va_D A (wX aX adC adH adF adT vX ++ wC ty adC vC) → va_S A s.heap H locs → lv_has ls 12 [(0, .ref aX), (1, .int x1), (2, .int x2), (3, .int x3), (4, .int x4), (5, .int x5), (6, .int x6)] → W p l e (headSpec wsL_areAges { frames := 6, cells := 0, slots := 0, locals := 154 }).room s m ([.ref aX] : List Value).toArray below meth c H locs 0 0 Q (F0 m 16 ls [])) (x1 : Int32) (x2 : Int32) (x3 : Int32) (x4 : Int32) (x5 : Int32) (x6 : Int32), fL_areAges_c16 vX vC x1 x2 x3 x4 x5 x6 nx16 = some res → ∀ (H : Heap) (locs : List Loc) (ls : Array Slot), va_P D vwCl (wX aX adC adH adF adT vX ++ wC ty adC vC) H → va_D A (wX aX adC adH adF adT vX ++ wC ty adC vC) → va_S A s.heap H locs → lv_has ls 12 [(0, .ref aX), (1, .int x1), (2, .int x2), (3, .int x3), (4, .int x4), (5, .int x5), (6, .int x6)] → W p l e (headSpec wsL_areAges { frames := 6, cells := 0, slots := 0, locals := 154 }).room s m ([.ref aX] : List Value).toArray below meth c H locs 0 0 Q (F0 m 16 ls []) := by
    intro  nx16 hn16 x1 x2 x3 x4 x5 x6 h H locs ls hP hD hS hl
    unfold fL_areAges_c16 at h
    refine lv_iload hx hb dL_areAges_16 (lv_at hl 6 rfl) ?_
    refine lv_aload_n hx hb dL_areAges_18 rfl (lv_at hl 0 rfl) ?_
    obtain ⟨r19, e19, h⟩ := kBd h
    refine kCallWI (As := []) (rest := [.int x6]) (sg := [wX aX adC adH adF adT vX, wC ty adC vC]) (sc := [wX aX adC adH adF adT vX, wC ty adC vC]) (s1 := [wX aX adC adH adF adT vX, wC ty adC vC]) (sn := [wX aX adC adH adF adT vX, wC ty adC vC]) ⟨hx, hb, hml, hown, hts⟩ (cX4_layers_ok l D ty aX adC adF adH adT H.size vX vC  r19 e19) (cwV 0 hts gL_areAges_X4_layers rfl rfl rfl (by decide +kernel) ⟨Nat.le_of_ble_eq_true rfl, Nat.le_of_ble_eq_true rfl⟩) hP hK hD hS hA [0, 1] (by decide) rfl 4 0 rfl rfl rfl rfl hl.1 rfl (Nat.le_of_ble_eq_true rfl) dL_areAges_19 ⟨Nat.le_of_ble_eq_true rfl, Nat.le_of_ble_eq_true rfl⟩ rfl rfl (fun H locs hP hD hS => ?_)
    have hP : va_P D vwCl (wX aX adC adH adF adT vX ++ wC ty adC vC) H := hP
    have hD : va_D A (wX aX adC adH adF adT vX ++ wC ty adC vC) := hD
    refine lv_icmp_ge (tgt := 272) hx hb dL_areAges_22 (by decide) (fun c22 => ?_) (fun c22 => ?_)
    · have h := kT h c22
      refine lv_iload hx hb dL_areAges_272 (lv_at hl 5 rfl) ?_
      refine lv_if_eq (tgt := 311) hx hb dL_areAges_274 (by decide) (fun c274 => ?_) (fun c274 => ?_)
      · have h := kT h c274
        exact J311 x1 x3 x4 h H locs ls hP hD hS (lv_sub hl [0, 1, 3, 4] rfl)
      · have h := kF h c274
        refine lv_aload_n hx hb dL_areAges_277 rfl (lv_at hl 0 rfl) ?_
        obtain ⟨r278, e278, h⟩ := kBd h
        refine kCallWI (As := []) (rest := []) (sg := [wX aX adC adH adF adT vX, wC ty adC vC]) (sc := [wX aX adC adH adF adT vX, wC ty adC vC]) (s1 := [wX aX adC adH adF adT vX, wC ty adC vC]) (sn := [wX aX adC adH adF adT vX, wC ty adC vC]) ⟨hx, hb, hml, hown, hts⟩ (cX4_depth_ok l D ty aX adC adF adH adT H.size vX vC  r278 e278) (cwV 0 hts gL_areAges_X4_depth rfl rfl rfl (by decide +kernel) ⟨Nat.le_of_ble_eq_true rfl, Nat.le_of_ble_eq_true rfl⟩) hP hK hD hS hA [0, 1] (by decide) rfl 4 0 rfl rfl rfl rfl hl.1 rfl (Nat.le_of_ble_eq_true rfl) dL_areAges_278 ⟨Nat.le_of_ble_eq_true rfl, Nat.le_of_ble_eq_true rfl⟩ rfl rfl (fun H locs hP hD hS => ?_)
        have hP : va_P D vwCl (wX aX adC adH adF adT vX ++ wC ty adC vC) H := hP
        have hD : va_D A (wX aX adC adH adF adT vX ++ wC ty adC vC) := hD
        refine lv_iload_n hx hb dL_areAges_281 rfl (lv_at hl 1 rfl) ?_
        refine lv_icmp_ne (tgt := 311) hx hb dL_areAges_282 (by decide) (fun c282 => ?_) (fun c282 => ?_)
        · have h := kT h c282
          exact J311 x1 x3 x4 h H locs ls hP hD hS (lv_sub hl [0, 1, 3, 4] rfl)
        · have h := kF h (fun z => z c282)
          refine lv_aload_n hx hb dL_areAges_285 rfl (lv_at hl 0 rfl) ?_
          obtain ⟨r286, e286, h⟩ := kBd h
          refine kCallWI (As := []) (rest := []) (sg := [wX aX adC adH adF adT vX, wC ty adC vC]) (sc := [wX aX adC adH adF adT vX, wC ty adC vC]) (s1 := [wX aX adC adH adF adT vX, wC ty adC vC]) (sn := [wX aX adC adH adF adT vX, wC ty adC vC]) ⟨hx, hb, hml, hown, hts⟩ (cX4_fitting_ok l D ty aX adC adF adH adT H.size vX vC  r286 e286) (cwV 0 hts gL_areAges_X4_fitting rfl rfl rfl (by decide +kernel) ⟨Nat.le_of_ble_eq_true rfl, Nat.le_of_ble_eq_true rfl⟩) hP hK hD hS hA [0, 1] (by decide) rfl 4 0 rfl rfl rfl rfl hl.1 rfl (Nat.le_of_ble_eq_true rfl) dL_areAges_286 ⟨Nat.le_of_ble_eq_true rfl, Nat.le_of_ble_eq_true rfl⟩ rfl rfl (fun H locs hP hD hS => ?_)
          have hP : va_P D vwCl (wX aX adC adH adF adT vX ++ wC ty adC vC) H := hP
          have hD : va_D A (wX aX adC adH adF adT vX ++ wC ty adC vC) := hD
          refine lv_iload hx hb dL_areAges_289 (lv_at hl 4 rfl) ?_
          refine lv_icmp_gt (tgt := 311) hx hb dL_areAges_291 (by decide) (fun c291 => ?_) (fun c291 => ?_)
          · have h := kT h c291
            exact J311 x1 x3 x4 h H locs ls hP hD hS (lv_sub hl [0, 1, 3, 4] rfl)
          · have h := kF h c291
            refine lv_aload_n hx hb dL_areAges_294 rfl (lv_at hl 0 rfl) ?_
            refine lv_aload_n hx hb dL_areAges_295 rfl (lv_at hl 0 rfl) ?_
            obtain ⟨r296, e296, h⟩ := kBd h
            refine kCallWI (As := []) (rest := [.ref aX]) (sg := [wX aX adC adH adF adT vX, wC ty adC vC]) (sc := [wX aX adC adH adF adT vX, wC ty adC vC]) (s1 := [wX aX adC adH adF adT vX, wC ty adC vC]) (sn := [wX aX adC adH adF adT vX, wC ty adC vC]) ⟨hx, hb, hml, hown, hts⟩ (cX4_layers_ok l D ty aX adC adF adH adT H.size vX vC  r296 e296) (cwV 0 hts gL_areAges_X4_layers rfl rfl rfl (by decide +kernel) ⟨Nat.le_of_ble_eq_true rfl, Nat.le_of_ble_eq_true rfl⟩) hP hK hD hS hA [0, 1] (by decide) rfl 4 0 rfl rfl rfl rfl hl.1 rfl (Nat.le_of_ble_eq_true rfl) dL_areAges_296 ⟨Nat.le_of_ble_eq_true rfl, Nat.le_of_ble_eq_true rfl⟩ rfl rfl (fun H locs hP hD hS => ?_)
            have hP : va_P D vwCl (wX aX adC adH adF adT vX ++ wC ty adC vC) H := hP
            have hD : va_D A (wX aX adC adH adF adT vX ++ wC ty adC vC) := hD
            obtain ⟨r299, e299, h⟩ := kBd h
            refine kCallWI (As := [.int r296]) (rest := []) (sg := [wX aX adC adH adF adT vX, wC ty adC vC]) (sc := [wX aX adC adH adF adT vX, wC ty adC vC]) (s1 := [wX aX adC adH adF adT vX, wC ty adC vC]) (sn := [wX aX adC adH adF adT vX, wC ty adC vC]) ⟨hx, hb, hml, hown, hts⟩ (cX4_thickness_ok l D ty aX adC adF adH adT H.size vX vC r296  r299 e299) (cwV 1 hts gL_areAges_X4_thickness rfl rfl rfl (by decide +kernel) ⟨Nat.le_of_ble_eq_true rfl, Nat.le_of_ble_eq_true rfl⟩) hP hK hD hS hA [0, 1] (by decide) rfl 4 0 rfl rfl rfl rfl hl.1 rfl (Nat.le_of_ble_eq_true rfl) dL_areAges_299 ⟨Nat.le_of_ble_eq_true rfl, Nat.le_of_ble_eq_true rfl⟩ rfl rfl (fun H locs hP hD hS => ?_)
            have hP : va_P D vwCl (wX aX adC adH adF adT vX ++ wC ty adC vC) H := hP
            have hD : va_D A (wX aX adC adH adF adT vX ++ wC ty adC vC) := hD
            refine lv_ldc hx hb hown wf3 dL_areAges_302 ?_
            refine lv_icmp_ne (tgt := 311) hx hb dL_areAges_304 (by decide) (fun c304 => ?_) (fun c304 => ?_)
            · have h := kT h c304
              exact J311 x1 x3 x4 h H locs ls hP hD hS (lv_sub hl [0, 1, 3, 4] rfl)
            · have h := kF h (fun z => z c304)
              refine lv_iconst (v := 1) hx hb dL_areAges_307 (by decide) ?_
              refine lv_goto (tgt := 312) hx hb dL_areAges_308 (by decide) ?_
              exact J312 x1 x3 x4 (1 : Int32) h H locs ls hP hD hS (lv_sub hl [0, 1, 3, 4] rfl)
    · have h := kF h c22
      refine lv_aload_n hx hb dL_areAges_25 rfl (lv_at hl 0 rfl) ?_
      refine lv_iload hx hb dL_areAges_26 (lv_at hl 6 rfl) ?_
      obtain ⟨r28, e28, h⟩ := kBd h
      refine kCallWI (As := [.int x6]) (rest := []) (sg := [wX aX adC adH adF adT vX, wC ty adC vC]) (sc := [wX aX adC adH adF adT vX, wC ty adC vC]) (s1 := [wX aX adC adH adF adT vX, wC ty adC vC]) (sn := [wX aX adC adH adF adT vX, wC ty adC vC]) ⟨hx, hb, hml, hown, hts⟩ (cX4_thickness_ok l D ty aX adC adF adH adT H.size vX vC x6  r28 e28) (cwV 1 hts gL_areAges_X4_thickness rfl rfl rfl (by decide +kernel) ⟨Nat.le_of_ble_eq_true rfl, Nat.le_of_ble_eq_true rfl⟩) hP hK hD hS hA [0, 1] (by decide) rfl 4 0 rfl rfl rfl rfl hl.1 rfl (Nat.le_of_ble_eq_true rfl) dL_areAges_28 ⟨Nat.le_of_ble_eq_true rfl, Nat.le_of_ble_eq_true rfl⟩ rfl rfl (fun H locs hP hD hS => ?_)
      have hP : va_P D vwCl (wX aX adC adH adF adT vX ++ wC ty adC vC) H := hP
      have hD : va_D A (wX aX adC adH adF adT vX ++ wC ty adC vC) := hD
      refine lv_istore (lv' := [(7, .int r28), (0, .ref aX), (1, .int x1), (2, .int x2), (3, .int x3), (4, .int x4), (5, .int x5), (6, .int x6)]) hx hb dL_areAges_31 hl (by decide) rfl (fun ls hl => ?_)
      refine lv_aload_n hx hb dL_areAges_33 rfl (lv_at hl 1 rfl) ?_
      refine lv_iload hx hb dL_areAges_34 (lv_at hl 7 rfl) ?_
      obtain ⟨r36, e36, h⟩ := kBd h
      refine kCallWI (As := [.int x6]) (rest := []) (sg := [wX aX adC adH adF adT vX, wC ty adC vC]) (sc := [wX aX adC adH adF adT vX, wC ty adC vC]) (s1 := [wX aX adC adH adF adT vX, wC ty adC vC]) (sn := [wX aX adC adH adF adT vX, wC ty adC vC]) ⟨hx, hb, hml, hown, hts⟩ (cX4_years_ok l D ty aX adC adF adH adT H.size vX vC x6  r36 e36) (cwV 1 hts gL_areAges_X4_years rfl rfl rfl (by decide +kernel) ⟨Nat.le_of_ble_eq_true rfl, Nat.le_of_ble_eq_true rfl⟩) hP hK hD hS hA [0, 1] (by decide) rfl 4 0 rfl rfl rfl rfl hl.1 rfl (Nat.le_of_ble_eq_true rfl) dL_areAges_36 ⟨Nat.le_of_ble_eq_true rfl, Nat.le_of_ble_eq_true rfl⟩ rfl rfl (fun H locs hP hD hS => ?_)
      have hP : va_P D vwCl (wX aX adC adH adF adT vX ++ wC ty adC vC) H := hP
      have hD : va_D A (wX aX adC adH adF adT vX ++ wC ty adC vC) := hD
      refine lv_istore (lv' := [(8, .int r36), (7, .int r28), (0, .ref aX), (1, .int x1), (2, .int x2), (3, .int x3), (4, .int x4), (5, .int x5), (6, .int x6)]) hx hb dL_areAges_39 hl (by decide) rfl (fun ls hl => ?_)
      refine lv_aload_n hx hb dL_areAges_41 rfl (lv_at hl 2 rfl) ?_
      refine lv_iload_n hx hb dL_areAges_42 rfl (lv_at hl 3 rfl) ?_
      refine lv_iload hx hb dL_areAges_43 (lv_at hl 1 rfl) ?_
      refine lv_iconst (v := 2) hx hb dL_areAges_45 (by decide) ?_
      refine lv_idiv hx hb dL_areAges_46 (by decide) ?_
      refine lv_iadd hx hb dL_areAges_47 ?_
      obtain ⟨r48, e48, h⟩ := kBd h
      refine kCallWI (As := [.int (x1 + (r28 / (2 : Int32)))]) (rest := []) (sg := [wX aX adC adH adF adT vX, wC ty adC vC]) (sc := [wX aX adC adH adF adT vX, wC ty adC vC]) (s1 := [wX aX adC adH adF adT vX, wC ty adC vC]) (sn := [wX aX adC adH adF adT vX, wC ty adC vC]) ⟨hx, hb, hml, hown, hts⟩ (cX4_age_ok l D ty aX adC adF adH adT H.size vX vC (x1 + (r28 / (2 : Int32)))  r48 e48) (cwV 1 hts gL_areAges_X4_age rfl rfl rfl (by decide +kernel) ⟨Nat.le_of_ble_eq_true rfl, Nat.le_of_ble_eq_true rfl⟩) hP hK hD hS hA [0, 1] (by decide) rfl 4 0 rfl rfl rfl rfl hl.1 rfl (Nat.le_of_ble_eq_true rfl) dL_areAges_48 ⟨Nat.le_of_ble_eq_true rfl, Nat.le_of_ble_eq_true rfl⟩ rfl rfl (fun H locs hP hD hS => ?_)
      have hP : va_P D vwCl (wX aX adC adH adF adT vX ++ wC ty adC vC) H := hP
      have hD : va_D A (wX aX adC adH adF adT vX ++ wC ty adC vC) := hD
      refine lv_istore (lv' := [(9, .int r48), (8, .int r36), (7, .int r28), (0, .ref aX), (1, .int x1), (2, .int x2), (3, .int x3), (4, .int x4), (5, .int x5), (6, .int x6)]) hx hb dL_areAges_51 hl (by decide) rfl (fun ls hl => ?_)
      refine lv_iload hx hb dL_areAges_53 (lv_at hl 8 rfl) ?_
      refine lv_if_eq (tgt := 114) hx hb dL_areAges_55 (by decide) (fun c55 => ?_) (fun c55 => ?_)
      · have h := kT h c55
        exact J114 x1 x2 x3 x4 x6 r28 r36 nx16 hn16 h H locs ls hP hD hS (lv_sub hl [3, 4, 5, 6, 7, 9, 2, 1] rfl)
      · have h := kF h c55
        refine lv_iload hx hb dL_areAges_58 (lv_at hl 2 rfl) ?_
        refine lv_if_le (tgt := 114) hx hb dL_areAges_60 (by decide) (fun c60 => ?_) (fun c60 => ?_)
        · have h := kT h c60
          exact J114 x1 x2 x3 x4 x6 r28 r36 nx16 hn16 h H locs ls hP hD hS (lv_sub hl [3, 4, 5, 6, 7, 9, 2, 1] rfl)
        · have h := kF h c60
          refine lv_aload_n hx hb dL_areAges_63 rfl (lv_at hl 3 rfl) ?_
          refine lv_iload hx hb dL_areAges_64 (lv_at hl 9 rfl) ?_
          obtain ⟨r66, e66, h⟩ := kBd h
          refine kCallWI (As := [.int x6]) (rest := []) (sg := [wX aX adC adH adF adT vX, wC ty adC vC]) (sc := [wX aX adC adH adF adT vX, wC ty adC vC]) (s1 := [wX aX adC adH adF adT vX, wC ty adC vC]) (sn := [wX aX adC adH adF adT vX, wC ty adC vC]) ⟨hx, hb, hml, hown, hts⟩ (cX4_thinning_ok l D ty aX adC adF adH adT H.size vX vC x6  r66 e66) (cwV 1 hts gL_areAges_X4_thinning rfl rfl rfl (by decide +kernel) ⟨Nat.le_of_ble_eq_true rfl, Nat.le_of_ble_eq_true rfl⟩) hP hK hD hS hA [0, 1] (by decide) rfl 4 0 rfl rfl rfl rfl hl.1 rfl (Nat.le_of_ble_eq_true rfl) dL_areAges_66 ⟨Nat.le_of_ble_eq_true rfl, Nat.le_of_ble_eq_true rfl⟩ rfl rfl (fun H locs hP hD hS => ?_)
          have hP : va_P D vwCl (wX aX adC adH adF adT vX ++ wC ty adC vC) H := hP
          have hD : va_D A (wX aX adC adH adF adT vX ++ wC ty adC vC) := hD
          refine lv_bipush (v := 10) hx hb dL_areAges_69 (by decide) ?_
          refine lv_icmp_lt (tgt := 114) hx hb dL_areAges_71 (by decide) (fun c71 => ?_) (fun c71 => ?_)
          · have h := kT h c71
            exact J114 x1 x2 x3 x4 x6 r28 r36 nx16 hn16 h H locs ls hP hD hS (lv_sub hl [3, 4, 5, 6, 7, 9, 2, 1] rfl)
          · have h := kF h c71
            refine lv_aload_n hx hb dL_areAges_74 rfl (lv_at hl 3 rfl) ?_
            refine lv_iload hx hb dL_areAges_75 (lv_at hl 9 rfl) ?_
            obtain ⟨r77, e77, h⟩ := kBd h
            refine kCallWI (As := [.int x6]) (rest := []) (sg := [wX aX adC adH adF adT vX, wC ty adC vC]) (sc := [wX aX adC adH adF adT vX, wC ty adC vC]) (s1 := [wX aX adC adH adF adT vX, wC ty adC vC]) (sn := [wX aX adC adH adF adT vX, wC ty adC vC]) ⟨hx, hb, hml, hown, hts⟩ (cX4_thinning_ok l D ty aX adC adF adH adT H.size vX vC x6  r77 e77) (cwV 1 hts gL_areAges_X4_thinning rfl rfl rfl (by decide +kernel) ⟨Nat.le_of_ble_eq_true rfl, Nat.le_of_ble_eq_true rfl⟩) hP hK hD hS hA [0, 1] (by decide) rfl 4 0 rfl rfl rfl rfl hl.1 rfl (Nat.le_of_ble_eq_true rfl) dL_areAges_77 ⟨Nat.le_of_ble_eq_true rfl, Nat.le_of_ble_eq_true rfl⟩ rfl rfl (fun H locs hP hD hS => ?_)
            have hP : va_P D vwCl (wX aX adC adH adF adT vX ++ wC ty adC vC) H := hP
            have hD : va_D A (wX aX adC adH adF adT vX ++ wC ty adC vC) := hD
            refine lv_sipush (v := 1000) hx hb dL_areAges_80 (by decide) ?_
            refine lv_icmp_gt (tgt := 114) hx hb dL_areAges_83 (by decide) (fun c83 => ?_) (fun c83 => ?_)
            · have h := kT h c83
              exact J114 x1 x2 x3 x4 x6 r28 r36 nx16 hn16 h H locs ls hP hD hS (lv_sub hl [3, 4, 5, 6, 7, 9, 2, 1] rfl)
            · have h := kF h c83
              refine lv_aload_n hx hb dL_areAges_86 rfl (lv_at hl 3 rfl) ?_
              refine lv_iload_n hx hb dL_areAges_87 rfl (lv_at hl 4 rfl) ?_
              obtain ⟨r88, e88, h⟩ := kBd h
              refine kCallWI (As := [.int x1]) (rest := []) (sg := [wX aX adC adH adF adT vX, wC ty adC vC]) (sc := [wX aX adC adH adF adT vX, wC ty adC vC]) (s1 := [wX aX adC adH adF adT vX, wC ty adC vC]) (sn := [wX aX adC adH adF adT vX, wC ty adC vC]) ⟨hx, hb, hml, hown, hts⟩ (cX4_age_ok l D ty aX adC adF adH adT H.size vX vC x1  r88 e88) (cwV 1 hts gL_areAges_X4_age rfl rfl rfl (by decide +kernel) ⟨Nat.le_of_ble_eq_true rfl, Nat.le_of_ble_eq_true rfl⟩) hP hK hD hS hA [0, 1] (by decide) rfl 4 0 rfl rfl rfl rfl hl.1 rfl (Nat.le_of_ble_eq_true rfl) dL_areAges_88 ⟨Nat.le_of_ble_eq_true rfl, Nat.le_of_ble_eq_true rfl⟩ rfl rfl (fun H locs hP hD hS => ?_)
              have hP : va_P D vwCl (wX aX adC adH adF adT vX ++ wC ty adC vC) H := hP
              have hD : va_D A (wX aX adC adH adF adT vX ++ wC ty adC vC) := hD
              refine lv_iload_n hx hb dL_areAges_91 rfl (lv_at hl 5 rfl) ?_
              refine lv_icmp_ne (tgt := 114) hx hb dL_areAges_92 (by decide) (fun c92 => ?_) (fun c92 => ?_)
              · have h := kT h c92
                exact J114 x1 x2 x3 x4 x6 r28 r36 nx16 hn16 h H locs ls hP hD hS (lv_sub hl [3, 4, 5, 6, 7, 9, 2, 1] rfl)
              · have h := kF h (fun z => z c92)
                refine lv_iload hx hb dL_areAges_95 (lv_at hl 0 rfl) ?_
                refine lv_iload_n hx hb dL_areAges_97 rfl (lv_at hl 5 rfl) ?_
                refine lv_icmp_lt (tgt := 114) hx hb dL_areAges_98 (by decide) (fun c98 => ?_) (fun c98 => ?_)
                · have h := kT h c98
                  exact J114 x1 x2 x3 x4 x6 r28 r36 nx16 hn16 h H locs ls hP hD hS (lv_sub hl [3, 4, 5, 6, 7, 9, 2, 1] rfl)
                · have h := kF h c98
                  refine lv_iload hx hb dL_areAges_101 (lv_at hl 0 rfl) ?_
                  refine lv_iload_n hx hb dL_areAges_103 rfl (lv_at hl 5 rfl) ?_
                  refine lv_iload hx hb dL_areAges_104 (lv_at hl 1 rfl) ?_
                  refine lv_iadd hx hb dL_areAges_106 ?_
                  refine lv_icmp_gt (tgt := 114) hx hb dL_areAges_107 (by decide) (fun c107 => ?_) (fun c107 => ?_)
                  · have h := kT h c107
                    exact J114 x1 x2 x3 x4 x6 r28 r36 nx16 hn16 h H locs ls hP hD hS (lv_sub hl [3, 4, 5, 6, 7, 9, 2, 1] rfl)
                  · have h := kF h c107
                    refine lv_iconst (v := 1) hx hb dL_areAges_110 (by decide) ?_
                    refine lv_goto (tgt := 115) hx hb dL_areAges_111 (by decide) ?_
                    exact J115 x1 x2 x3 x4 x6 r28 r36 (1 : Int32) nx16 hn16 h H locs ls hP hD hS (lv_sub hl [3, 4, 5, 6, 7, 9, 2, 1] rfl)
  have L16 : ∀  (n : Nat) (x1 : Int32) (x2 : Int32) (x3 : Int32) (x4 : Int32) (x5 : Int32) (x6 : Int32), kLoopC n (fun q nx16 => fL_areAges_c16 vX vC q.1 q.2.1 q.2.2.1 q.2.2.2.1 q.2.2.2.2.1 q.2.2.2.2.2 nx16) (x1, x2, x3, x4, x5, x6) = some res → ∀ (H : Heap) (locs : List Loc) (ls : Array Slot), va_P D vwCl (wX aX adC adH adF adT vX ++ wC ty adC vC) H → va_D A (wX aX adC adH adF adT vX ++ wC ty adC vC) → va_S A s.heap H locs → lv_has ls 12 [(0, .ref aX), (1, .int x1), (2, .int x2), (3, .int x3), (4, .int x4), (5, .int x5), (6, .int x6)] → W p l e (headSpec wsL_areAges { frames := 6, cells := 0, slots := 0, locals := 154 }).room s m ([.ref aX] : List Value).toArray below meth c H locs 0 0 Q (F0 m 16 ls []) := by
    intro  n
    induction n with
    | zero => intro x1 x2 x3 x4 x5 x6 h; exact absurd h (by simp [kLoopC])
    | succ n ih => intro x1 x2 x3 x4 x5 x6 h; exact B16  (kLoopC n (fun q nx16 => fL_areAges_c16 vX vC q.1 q.2.1 q.2.2.1 q.2.2.2.1 q.2.2.2.2.1 q.2.2.2.2.2 nx16)) ih x1 x2 x3 x4 x5 x6 h
  have hl := lv_entry ([.ref aX]) (n := 12) (Nat.le_of_ble_eq_true rfl)
  rw [lg_entry_eq]
  generalize (lg_sl ([.ref aX]) ++ List.replicate (12 - (lg_sl ([.ref aX])).length) Slot.unset).toArray = ls at hl ⊢
  have hl : lv_has ls 12 [(0, .ref aX)] := hl
  unfold fL_areAges at h
  have E0 : ∀ (H : Heap) (locs : List Loc) (ls : Array Slot), va_P D vwCl (wX aX adC adH adF adT vX ++ wC ty adC vC) H → va_D A (wX aX adC adH adF adT vX ++ wC ty adC vC) → va_S A s.heap H locs → lv_has ls 12 [(0, .ref aX)] → W p l e (headSpec wsL_areAges { frames := 6, cells := 0, slots := 0, locals := 154 }).room s m ([.ref aX] : List Value).toArray below meth c H locs 0 0 Q (F0 m 0 ls []) := by
    intro H locs ls hP hD hS hl
    refine lv_iconst (v := 0) hx hb dL_areAges_0 (by decide) ?_
    refine lv_istore_n (lv' := [(1, .int (0 : Int32)), (0, .ref aX)]) hx hb dL_areAges_1 rfl hl (by decide) rfl (fun ls hl => ?_)
    refine lv_iconst (v := 0) hx hb dL_areAges_2 (by decide) ?_
    refine lv_istore_n (lv' := [(2, .int (0 : Int32)), (1, .int (0 : Int32)), (0, .ref aX)]) hx hb dL_areAges_3 rfl hl (by decide) rfl (fun ls hl => ?_)
    refine lv_bipush (v := 7) hx hb dL_areAges_4 (by decide) ?_
    refine lv_istore_n (lv' := [(3, .int (7 : Int32)), (2, .int (0 : Int32)), (1, .int (0 : Int32)), (0, .ref aX)]) hx hb dL_areAges_6 rfl hl (by decide) rfl (fun ls hl => ?_)
    refine lv_iconst (v := 0) hx hb dL_areAges_7 (by decide) ?_
    refine lv_istore (lv' := [(4, .int (0 : Int32)), (3, .int (7 : Int32)), (2, .int (0 : Int32)), (1, .int (0 : Int32)), (0, .ref aX)]) hx hb dL_areAges_8 hl (by decide) rfl (fun ls hl => ?_)
    refine lv_iconst (v := 1) hx hb dL_areAges_10 (by decide) ?_
    refine lv_istore (lv' := [(5, .int (1 : Int32)), (4, .int (0 : Int32)), (3, .int (7 : Int32)), (2, .int (0 : Int32)), (1, .int (0 : Int32)), (0, .ref aX)]) hx hb dL_areAges_11 hl (by decide) rfl (fun ls hl => ?_)
    refine lv_iconst (v := 0) hx hb dL_areAges_13 (by decide) ?_
    refine lv_istore (lv' := [(6, .int (0 : Int32)), (5, .int (1 : Int32)), (4, .int (0 : Int32)), (3, .int (7 : Int32)), (2, .int (0 : Int32)), (1, .int (0 : Int32)), (0, .ref aX)]) hx hb dL_areAges_14 hl (by decide) rfl (fun ls hl => ?_)
    exact L16   kFu (0 : Int32) (0 : Int32) (7 : Int32) (0 : Int32) (1 : Int32) (0 : Int32) h H locs ls hP hD hS (lv_sub hl [6, 5, 4, 3, 2, 1, 0] rfl)
  exact E0 s.heap [] ls hP hD hS hl
