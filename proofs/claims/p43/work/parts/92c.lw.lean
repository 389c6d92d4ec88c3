def fL_isDepth_c165 (vX : KX) (vC : KC) (x1 : Int32) (x3 : Int32) (x4 : Int32) (x5 : Int32) : Option (Int32) := if x5 = (0 : Int32) then (some (0 : Int32)) else (if (0 : Int32) ≤ x3 then (some (1 : Int32)) else (if ¬ x3 = (-1000000005 : Int32) then (some (0 : Int32)) else (if x4 < (0 : Int32) then (some (1 : Int32)) else ((fX4_depth vX vC).bind fun r187 => (fX4_gasAge vX vC r187).bind fun r190 => if x1 ≤ r190 then (some (0 : Int32)) else (some (1 : Int32))))))
def fL_isDepth_c123 (vX : KX) (vC : KC) (x1 : Int32) (x3 : Int32) (x4 : Int32) (x5 : Int32) (x6 : Int32) (nx123 : Int32 × Int32 → Option (Int32)) : Option (Int32) := if x6 < (0 : Int32) then (fL_isDepth_c165 vX vC x1 x3 x4 x5) else (if x6 ≤ (x3 - (6 : Int32)) then (fL_isDepth_c165 vX vC x1 x3 x4 x5) else (if x5 = (0 : Int32) then (nx123 ((0 : Int32), (x6 + (-1)))) else ((fX4_gasAge vX vC x6).bind fun r145 => if x1 ≤ r145 then (nx123 ((0 : Int32), (x6 + (-1)))) else (nx123 ((1 : Int32), (x6 + (-1)))))))
def fL_isDepth_c86 (vX : KX) (vC : KC) (x1 : Int32) (x2 : Int32) (x3 : Int32) (x4 : Int32) (s0 : Int32) : Option (Int32) := if x3 < (0 : Int32) then (fL_isDepth_c165 vX vC x1 x3 x4 s0) else (if s0 = (0 : Int32) then (kLoopC kFu (fun q nx123 => fL_isDepth_c123 vX vC x1 x3 x4 q.1 q.2 nx123) ((0 : Int32), (x3 - (1 : Int32)))) else ((fX4_gasAge vX vC x3).bind fun r99 => if r99 < x1 then (kLoopC kFu (fun q nx123 => fL_isDepth_c123 vX vC x1 x3 x4 q.1 q.2 nx123) ((0 : Int32), (x3 - (1 : Int32)))) else (if x3 < x2 then (kLoopC kFu (fun q nx123 => fL_isDepth_c123 vX vC x1 x3 x4 q.1 q.2 nx123) ((0 : Int32), (x3 - (1 : Int32)))) else (kLoopC kFu (fun q nx123 => fL_isDepth_c123 vX vC x1 x3 x4 q.1 q.2 nx123) ((1 : Int32), (x3 - (1 : Int32)))))))
def fL_isDepth_c85 (vX : KX) (vC : KC) (x1 : Int32) (x2 : Int32) (x3 : Int32) (x4 : Int32) : Option (Int32) := fL_isDepth_c86 vX vC x1 x2 x3 x4 (0 : Int32)
def fL_isDepth_c65 (vX : KX) (vC : KC) (x1 : Int32) (x2 : Int32) (x3 : Int32) (x4 : Int32) : Option (Int32) := fL_isDepth_c86 vX vC x1 x2 x3 x4 (0 : Int32)
def fL_isDepth_c61 (vX : KX) (vC : KC) (x1 : Int32) (x2 : Int32) (x3 : Int32) (x4 : Int32) : Option (Int32) := fL_isDepth_c86 vX vC x1 x2 x3 x4 (1 : Int32)
def fL_isDepth_c31 (vX : KX) (vC : KC) (x1 : Int32) (x2 : Int32) (x3 : Int32) (s0 : Int32) : Option (Int32) := if x2 < (0 : Int32) then (if ¬ x2 = (-1000000005 : Int32) then (fL_isDepth_c85 vX vC x1 x2 x3 s0) else (if x1 ≤ s0 then (fL_isDepth_c85 vX vC x1 x2 x3 s0) else (fL_isDepth_c86 vX vC x1 x2 x3 s0 (1 : Int32)))) else ((fX4_age vX vC x2).bind fun r39 => if r39 < x1 then (fL_isDepth_c65 vX vC x1 x2 x3 s0) else (if x2 = (0 : Int32) then (fL_isDepth_c61 vX vC x1 x2 x3 s0) else ((fX4_age vX vC (x2 - (1 : Int32))).bind fun r54 => if x1 ≤ r54 then (fL_isDepth_c65 vX vC x1 x2 x3 s0) else (fL_isDepth_c61 vX vC x1 x2 x3 s0))))
def fL_isDepth (vX : KX) (vC : KC) (p1 : Int32) : Option (Int32) := (fX4_depthOf vX vC p1).bind fun r2 => (fX4_gasDepthOf vX vC p1).bind fun r8 => (fX4_layers vX vC).bind fun r13 => if ¬ r13 = (0 : Int32) then ((fX4_depth vX vC).bind fun r25 => (fX4_age vX vC r25).bind fun r28 => fL_isDepth_c31 vX vC p1 r2 r8 r28) else (fL_isDepth_c31 vX vC p1 r2 r8 (-1 : Int32))
set_option maxHeartbeats 4000000 in
set_option maxRecDepth 100000 in
theorem cL_isDepth_ok (l : Launch) (D : va_G) (ty : kTy) (aX : Nat) (adC adF adH adT : Nat → Nat) (sz : Nat) (vX : KX) (vC : KC) (p1 : Int32)  (res : Int32) (h : fL_isDepth vX vC p1 = some res) : kMI l yL_isDepth wsL_isDepth { frames := 6, cells := 0, slots := 0, locals := 153 } [.ref aX, .int p1] D ty (wX aX adC adH adF adT vX ++ wC ty adC vC) sz res (wX aX adC adH adF adT vX ++ wC ty adC vC) := by
  refine Met.ofW (cc := cL_isDepth) (maxL := 7) (ret := (some .boolean)) (by decide) rfl ?_
  intro p e s m args below meth c s₁ B hml hv
  obtain ⟨rfl, hsz, hP, hK, hD0⟩ := hv
  have hx := B.exec
  have hb := B.bytes
  have hr := B.returns
  have hts := atoms_spec (ws := wsL_isDepth) B.pre
  have hown : s.vm.findClass RL = some m.cls := findClass_of_methodNamed B.named
  have hlocks := B.notSynchronized
  subst hsz
  have hD := hD0.self (sz := s.heap.size)
  generalize hAe : va_A (wX aX adC adH adF adT vX ++ wC ty adC vC) s.heap.size = A at hD ⊢
  have hA : ∀ q : Nat, s.heap.size ≤ q → A q := fun q h => by rw [← hAe]; exact Or.inr h
  have hS : va_S A s.heap s.heap [] := va_S.rf
  refine kGenW (fun Q hQ => ?_)
  have wf0 := hts (.constant RL 95 (-1000000005)) (by decide +kernel)
  have J165 : ∀ (x1 : Int32) (x3 : Int32) (x4 : Int32) (x5 : Int32), fL_isDepth_c165 vX vC x1 x3 x4 x5 = some res → ∀ (H : Heap) (locs : List Loc) (ls : Array Slot), va_P D vwCl (wX aX adC adH adF adT vX ++ wC ty adC vC) H → va_D A (wX aX adC adH adF adT vX ++ wC ty adC vC) → va_S A s.heap H locs → lv_has ls 7 [(0, .ref aX), (1, .int x1), (3, .int x3), (4, .int x4), (5, .int x5)] → W p l e (headSpec wsL_isDepth { frames := 6, cells := 0, slots := 0, locals := 153 }).room s m ([.ref aX, .int p1] : List Value).toArray below meth c H locs 0 0 Q (F0 m 165 ls []) := by
    intro x1 x3 x4 x5 h H locs ls hP hD hS hl
    unfold fL_isDepth_c165 at h
    refine lv_iload hx hb dL_isDepth_165 (lv_at hl 4 rfl) ?_
    refine lv_if_eq (tgt := 201) hx hb dL_isDepth_167 (by decide) (fun c167 => ?_) (fun c167 => ?_)
    · have h := kT h c167
      refine lv_iconst (v := 0) hx hb dL_isDepth_201 (by decide) ?_
      obtain rfl := Option.some.inj h
      subst hQ
      exact W.zret (ty := .boolean) (v := (0 : Int32)) hx hb hr rfl (fun t ht hW => ⟨⟨(0 : Int32), (), rfl, rfl, kEnd ht hP⟩, hS.F ht⟩) hS.2.2 dL_isDepth_202
    · have h := kF h c167
      refine lv_iload_n hx hb dL_isDepth_170 rfl (lv_at hl 2 rfl) ?_
      refine lv_if_ge (tgt := 197) hx hb dL_isDepth_171 (by decide) (fun c171 => ?_) (fun c171 => ?_)
      · have h := kT h c171
        refine lv_iconst (v := 1) hx hb dL_isDepth_197 (by decide) ?_
        refine lv_goto (tgt := 202) hx hb dL_isDepth_198 (by decide) ?_
        obtain rfl := Option.some.inj h
        subst hQ
        exact W.zret (ty := .boolean) (v := (1 : Int32)) hx hb hr rfl (fun t ht hW => ⟨⟨(1 : Int32), (), rfl, rfl, kEnd ht hP⟩, hS.F ht⟩) hS.2.2 dL_isDepth_202
      · have h := kF h c171
        refine lv_iload_n hx hb dL_isDepth_174 rfl (lv_at hl 2 rfl) ?_
        refine lv_ldc hx hb hown wf0 dL_isDepth_175 ?_
        refine lv_icmp_ne (tgt := 201) hx hb dL_isDepth_177 (by decide) (fun c177 => ?_) (fun c177 => ?_)
        · have h := kT h c177
          refine lv_iconst (v := 0) hx hb dL_isDepth_201 (by decide) ?_
          obtain rfl := Option.some.inj h
          subst hQ
          exact W.zret (ty := .boolean) (v := (0 : Int32)) hx hb hr rfl (fun t ht hW => ⟨⟨(0 : Int32), (), rfl, rfl, kEnd ht hP⟩, hS.F ht⟩) hS.2.2 dL_isDepth_202
        · have h := kF h (fun z => z c177)
          refine lv_iload hx hb dL_isDepth_180 (lv_at hl 3 rfl) ?_
          refine lv_if_lt (tgt := 197) hx hb dL_isDepth_182 (by decide) (fun c182 => ?_) (fun c182 => ?_)
          · have h := kT h c182
            refine lv_iconst (v := 1) hx hb dL_isDepth_197 (by decide) ?_
            refine lv_goto (tgt := 202) hx hb dL_isDepth_198 (by decide) ?_
            obtain rfl := Option.some.inj h
            subst hQ
            exact W.zret (ty := .boolean) (v := (1 : Int32)) hx hb hr rfl (fun t ht hW => ⟨⟨(1 : Int32), (), rfl, rfl, kEnd ht hP⟩, hS.F ht⟩) hS.2.2 dL_isDepth_202
          · have h := kF h c182
            refine lv_aload_n hx hb dL_isDepth_185 rfl (lv_at hl 0 rfl) ?_
            refine lv_aload_n hx hb dL_isDepth_186 rfl (lv_at hl 0 rfl) ?_
            obtain ⟨r187, e187, h⟩ := kBd h
            refine kCallWI (As := []) (rest := [.ref aX]) (sg := [wX aX adC adH adF adT vX, wC ty adC vC]) (sc := [wX aX adC adH adF adT vX, wC ty adC vC]) (s1 := [wX aX adC adH adF adT vX, wC ty adC vC]) (sn := [wX aX adC adH adF adT vX, wC ty adC vC]) ⟨hx, hb, hml, hown, hts⟩ (cX4_depth_ok l D ty aX adC adF adH adT H.size vX vC  r187 e187) (cwV 0 hts gL_isDepth_X4_depth rfl rfl rfl (by decide +kernel) ⟨Nat.le_of_ble_eq_true rfl, Nat.le_of_ble_eq_true rfl⟩) hP hK hD hS hA [0, 1] (by decide) rfl 4 0 rfl rfl rfl rfl hl.1 rfl (Nat.le_of_ble_eq_true rfl) dL_isDepth_187 ⟨Nat.le_of_ble_eq_true rfl, Nat.le_of_ble_eq_true rfl⟩ rfl rfl (fun H locs hP hD hS => ?_)
            have hP : va_P D vwCl (wX aX adC adH adF adT vX ++ wC ty adC vC) H := hP
            have hD : va_D A (wX aX adC adH adF adT vX ++ wC ty adC vC) := hD
            obtain ⟨r190, e190, h⟩ := kBd h
            refine kCallWI (As := [.int r187]) (rest := []) (sg := [wX aX adC adH adF adT vX, wC ty adC vC]) (sc := [wX aX adC adH adF adT vX, wC ty adC vC]) (s1 := [wX aX adC adH adF adT vX, wC ty adC vC]) (sn := [wX aX adC adH adF adT vX, wC ty adC vC]) ⟨hx, hb, hml, hown, hts⟩ (cX4_gasAge_ok l D ty aX adC adF adH adT H.size vX vC r187  r190 e190) (cwV 1 hts gL_isDepth_X4_gasAge rfl rfl rfl (by decide +kernel) ⟨Nat.le_of_ble_eq_true rfl, Nat.le_of_ble_eq_true rfl⟩) hP hK hD hS hA [0, 1] (by decide) rfl 4 0 rfl rfl rfl rfl hl.1 rfl (Nat.le_of_ble_eq_true rfl) dL_isDepth_190 ⟨Nat.le_of_ble_eq_true rfl, Nat.le_of_ble_eq_true rfl⟩ rfl rfl (fun H locs hP hD hS => ?_)
            have hP : va_P D vwCl (wX aX adC adH adF adT vX ++ wC ty adC vC) H := hP
            have hD : va_D A (wX aX adC adH adF adT vX ++ wC ty adC vC) := hD
            refine lv_iload_n hx hb dL_isDepth_193 rfl (lv_at hl 1 rfl) ?_
            refine lv_icmp_ge (tgt := 201) hx hb dL_isDepth_194 (by decide) (fun c194 => ?_) (fun c194 => ?_)
            · have h := kT h c194
              refine lv_iconst (v := 0) hx hb dL_isDepth_201 (by decide) ?_
              obtain rfl := Option.some.inj h
              subst hQ
              exact W.zret (ty := .boolean) (v := (0 : Int32)) hx hb hr rfl (fun t ht hW => ⟨⟨(0 : Int32), (), rfl, rfl, kEnd ht hP⟩, hS.F ht⟩) hS.2.2 dL_isDepth_202
            · have h := kF h c194
              refine lv_iconst (v := 1) hx hb dL_isDepth_197 (by decide) ?_
              refine lv_goto (tgt := 202) hx hb dL_isDepth_198 (by decide) ?_
              obtain rfl := Option.some.inj h
              subst hQ
              exact W.zret (ty := .boolean) (v := (1 : Int32)) hx hb hr rfl (fun t ht hW => ⟨⟨(1 : Int32), (), rfl, rfl, kEnd ht hP⟩, hS.F ht⟩) hS.2.2 dL_isDepth_202
  have B123 : ∀ (x1 : Int32) (x3 : Int32) (x4 : Int32) (nx123 : Int32 × Int32 → Option (Int32)) (hn123 : ∀ (x5 : Int32) (x6 : Int32), nx123 (x5, x6) = some res → ∀ (H : Heap) (locs : List Loc) (ls : Array Slot), va_P D vwCl (wX aX adC adH adF adT vX ++ wC ty adC vC) H → va_D A (wX aX adC adH adF adT vX ++ wC ty adC vC) → va_S A s.heap H locs → lv_has ls 7 [(0, .ref aX), (1, .int x1), (3, .int x3), (4, .int x4), (5, .int x5), (6, .int x6)] → W p l e (headSpec wsL_isDepth { frames := 6, cells := 0, slots := 0, locals := 153 }).room s m ([.ref aX, .int p1] : List Value).toArray below meth c H locs 0 0 Q (F0 m 123 ls [])) (x5 : Int32) (x6 : Int32), fL_isDepth_c123 vX vC x1 x3 x4 x5 x6 nx123 = some res → ∀ (H : Heap) (locs : List Loc) (ls : Array Slot), va_P D vwCl (wX aX adC adH adF adT vX ++ wC ty adC vC) H → va_D A (wX aX adC adH adF adT vX ++ wC ty adC vC) → va_S A s.heap H locs → lv_has ls 7 [(0, .ref aX), (1, .int x1), (3, .int x3), (4, .int x4), (5, .int x5), (6, .int x6)] → W p l e (headSpec wsL_isDepth { frames := 6, cells := 0, slots := 0, locals := 153 }).room s m ([.ref aX, .int p1] : List Value).toArray below meth c H locs 0 0 Q (F0 m 123 ls []) := by
    intro x1 x3 x4 nx123 hn123 x5 x6 h H locs ls hP hD hS hl
    unfold fL_isDepth_c123 at h
    refine lv_iload hx hb dL_isDepth_123 (lv_at hl 5 rfl) ?_
    refine lv_if_lt (tgt := 165) hx hb dL_isDepth_125 (by decide) (fun c125 => ?_) (fun c125 => ?_)
    · have h := kT h c125
      exact J165 x1 x3 x4 x5 h H locs ls hP hD hS (lv_sub hl [0, 1, 2, 3, 4] rfl)
    · have h := kF h c125
      refine lv_iload hx hb dL_isDepth_128 (lv_at hl 5 rfl) ?_
      refine lv_iload_n hx hb dL_isDepth_130 rfl (lv_at hl 2 rfl) ?_
      refine lv_bipush (v := 6) hx hb dL_isDepth_131 (by decide) ?_
      refine lv_isub hx hb dL_isDepth_133 ?_
      refine lv_icmp_le (tgt := 165) hx hb dL_isDepth_134 (by decide) (fun c134 => ?_) (fun c134 => ?_)
      · have h := kT h c134
        exact J165 x1 x3 x4 x5 h H locs ls hP hD hS (lv_sub hl [0, 1, 2, 3, 4] rfl)
      · have h := kF h c134
        refine lv_iload hx hb dL_isDepth_137 (lv_at hl 4 rfl) ?_
        refine lv_if_eq (tgt := 156) hx hb dL_isDepth_139 (by decide) (fun c139 => ?_) (fun c139 => ?_)
        · have h := kT h c139
          refine lv_iconst (v := 0) hx hb dL_isDepth_156 (by decide) ?_
          refine lv_istore (lv' := [(5, .int (0 : Int32)), (0, .ref aX), (1, .int x1), (3, .int x3), (4, .int x4), (6, .int x6)]) hx hb dL_isDepth_157 hl (by decide) rfl (fun ls hl => ?_)
          refine lv_iinc (v := (x6 + (-1))) (lv' := [(6, .int (x6 + (-1))), (5, .int (0 : Int32)), (0, .ref aX), (1, .int x1), (3, .int x3), (4, .int x4)]) hx hb dL_isDepth_159 hl (k := 5) rfl rfl (by decide) rfl (fun ls hl => ?_)
          refine lv_goto (tgt := 123) hx hb dL_isDepth_162 (by decide) ?_
          exact hn123 (0 : Int32) (x6 + (-1)) h H locs ls hP hD hS (lv_sub hl [2, 3, 4, 5, 1, 0] rfl)
        · have h := kF h c139
          refine lv_aload_n hx hb dL_isDepth_142 rfl (lv_at hl 0 rfl) ?_
          refine lv_iload hx hb dL_isDepth_143 (lv_at hl 5 rfl) ?_
          obtain ⟨r145, e145, h⟩ := kBd h
          refine kCallWI (As := [.int x6]) (rest := []) (sg := [wX aX adC adH adF adT vX, wC ty adC vC]) (sc := [wX aX adC adH adF adT vX, wC ty adC vC]) (s1 := [wX aX adC adH adF adT vX, wC ty adC vC]) (sn := [wX aX adC adH adF adT vX, wC ty adC vC]) ⟨hx, hb, hml, hown, hts⟩ (cX4_gasAge_ok l D ty aX adC adF adH adT H.size vX vC x6  r145 e145) (cwV 1 hts gL_isDepth_X4_gasAge rfl rfl rfl (by decide +kernel) ⟨Nat.le_of_ble_eq_true rfl, Nat.le_of_ble_eq_true rfl⟩) hP hK hD hS hA [0, 1] (by decide) rfl 4 0 rfl rfl rfl rfl hl.1 rfl (Nat.le_of_ble_eq_true rfl) dL_isDepth_145 ⟨Nat.le_of_ble_eq_true rfl, Nat.le_of_ble_eq_true rfl⟩ rfl rfl (fun H locs hP hD hS => ?_)
          have hP : va_P D vwCl (wX aX adC adH adF adT vX ++ wC ty adC vC) H := hP
          have hD : va_D A (wX aX adC adH adF adT vX ++ wC ty adC vC) := hD
          refine lv_iload_n hx hb dL_isDepth_148 rfl (lv_at hl 1 rfl) ?_
          refine lv_icmp_ge (tgt := 156) hx hb dL_isDepth_149 (by decide) (fun c149 => ?_) (fun c149 => ?_)
          · have h := kT h c149
            refine lv_iconst (v := 0) hx hb dL_isDepth_156 (by decide) ?_
            refine lv_istore (lv' := [(5, .int (0 : Int32)), (0, .ref aX), (1, .int x1), (3, .int x3), (4, .int x4), (6, .int x6)]) hx hb dL_isDepth_157 hl (by decide) rfl (fun ls hl => ?_)
            refine lv_iinc (v := (x6 + (-1))) (lv' := [(6, .int (x6 + (-1))), (5, .int (0 : Int32)), (0, .ref aX), (1, .int x1), (3, .int x3), (4, .int x4)]) hx hb dL_isDepth_159 hl (k := 5) rfl rfl (by decide) rfl (fun ls hl => ?_)
            refine lv_goto (tgt := 123) hx hb dL_isDepth_162 (by decide) ?_
            exact hn123 (0 : Int32) (x6 + (-1)) h H locs ls hP hD hS (lv_sub hl [2, 3, 4, 5, 1, 0] rfl)
          · have h := kF h c149
            refine lv_iconst (v := 1) hx hb dL_isDepth_152 (by decide) ?_
            refine lv_goto (tgt := 157) hx hb dL_isDepth_153 (by decide) ?_
            refine lv_istore (lv' := [(5, .int (1 : Int32)), (0, .ref aX), (1, .int x1), (3, .int x3), (4, .int x4), (6, .int x6)]) hx hb dL_isDepth_157 hl (by decide) rfl (fun ls hl => ?_)
            refine lv_iinc (v := (x6 + (-1))) (lv' := [(6, .int (x6 + (-1))), (5, .int (1 : Int32)), (0, .ref aX), (1, .int x1), (3, .int x3), (4, .int x4)]) hx hb dL_isDepth_159 hl (k := 5) rfl rfl (by decide) rfl (fun ls hl => ?_)
            refine lv_goto (tgt := 123) hx hb dL_isDepth_162 (by decide) ?_
            exact hn123 (1 : Int32) (x6 + (-1)) h H locs ls hP hD hS (lv_sub hl [2, 3, 4, 5, 1, 0] rfl)
  have L123 : ∀ (x1 : Int32) (x3 : Int32) (x4 : Int32) (n : Nat) (x5 : Int32) (x6 : Int32), kLoopC n (fun q nx123 => fL_isDepth_c123 vX vC x1 x3 x4 q.1 q.2 nx123) (x5, x6) = some res → ∀ (H : Heap) (locs : List Loc) (ls : Array Slot), va_P D vwCl (wX aX adC adH adF adT vX ++ wC ty adC vC) H → va_D A (wX aX adC adH adF adT vX ++ wC ty adC vC) → va_S A s.heap H locs → lv_has ls 7 [(0, .ref aX), (1, .int x1), (3, .int x3), (4, .int x4), (5, .int x5), (6, .int x6)] → W p l e (headSpec wsL_isDepth { frames := 6, cells := 0, slots := 0, locals := 153 }).room s m ([.ref aX, .int p1] : List Value).toArray below meth c H locs 0 0 Q (F0 m 123 ls []) := by
    intro x1 x3 x4 n
    induction n with
    | zero => intro x5 x6 h; exact absurd h (by simp [kLoopC])
    | succ n ih => intro x5 x6 h; exact B123 x1 x3 x4 (kLoopC n (fun q nx123 => fL_isDepth_c123 vX vC x1 x3 x4 q.1 q.2 nx123)) ih x5 x6 h
  have J86 : ∀ (x1 : Int32) (x2 : Int32) (x3 : Int32) (x4 : Int32) (s0 : Int32), fL_isDepth_c86 vX vC x1 x2 x3 x4 s0 = some res → ∀ (H : Heap) (locs : List Loc) (ls : Array Slot), va_P D vwCl (wX aX adC adH adF adT vX ++ wC ty adC vC) H → va_D A (wX aX adC adH adF adT vX ++ wC ty adC vC) → va_S A s.heap H locs → lv_has ls 7 [(0, .ref aX), (1, .int x1), (2, .int x2), (3, .int x3), (4, .int x4)] → W p l e (headSpec wsL_isDepth { frames := 6, cells := 0, slots := 0, locals := 153 }).room s m ([.ref aX, .int p1] : List Value).toArray below meth c H locs 0 0 Q (F0 m 86 ls [.int s0]) := by
    intro x1 x2 x3 x4 s0 h H locs ls hP hD hS hl
    unfold fL_isDepth_c86 at h
    refine lv_istore (lv' := [(5, .int s0), (0, .ref aX), (1, .int x1), (2, .int x2), (3, .int x3), (4, .int x4)]) hx hb dL_isDepth_86 hl (by decide) rfl (fun ls hl => ?_)
    refine lv_iload_n hx hb dL_isDepth_88 rfl (lv_at hl 4 rfl) ?_
    refine lv_if_lt (tgt := 165) hx hb dL_isDepth_89 (by decide) (fun c89 => ?_) (fun c89 => ?_)
    · have h := kT h c89
      exact J165 x1 x3 x4 s0 h H locs ls hP hD hS (lv_sub hl [1, 2, 4, 5, 0] rfl)
    · have h := kF h c89
      refine lv_iload hx hb dL_isDepth_92 (lv_at hl 0 rfl) ?_
      refine lv_if_eq (tgt := 115) hx hb dL_isDepth_94 (by decide) (fun c94 => ?_) (fun c94 => ?_)
      · have h := kT h c94
        refine lv_iconst (v := 0) hx hb dL_isDepth_115 (by decide) ?_
        refine lv_istore (lv' := [(5, .int (0 : Int32)), (0, .ref aX), (1, .int x1), (2, .int x2), (3, .int x3), (4, .int x4)]) hx hb dL_isDepth_116 hl (by decide) rfl (fun ls hl => ?_)
        refine lv_iload_n hx hb dL_isDepth_118 rfl (lv_at hl 4 rfl) ?_
        refine lv_iconst (v := 1) hx hb dL_isDepth_119 (by decide) ?_
        refine lv_isub hx hb dL_isDepth_120 ?_
        refine lv_istore (lv' := [(6, .int (x3 - (1 : Int32))), (5, .int (0 : Int32)), (0, .ref aX), (1, .int x1), (2, .int x2), (3, .int x3), (4, .int x4)]) hx hb dL_isDepth_121 hl (by decide) rfl (fun ls hl => ?_)
        exact L123 x1 x3 x4  kFu (0 : Int32) (x3 - (1 : Int32)) h H locs ls hP hD hS (lv_sub hl [2, 3, 5, 6, 1, 0] rfl)
      · have h := kF h c94
        refine lv_aload_n hx hb dL_isDepth_97 rfl (lv_at hl 1 rfl) ?_
        refine lv_iload_n hx hb dL_isDepth_98 rfl (lv_at hl 4 rfl) ?_
        obtain ⟨r99, e99, h⟩ := kBd h
        refine kCallWI (As := [.int x3]) (rest := []) (sg := [wX aX adC adH adF adT vX, wC ty adC vC]) (sc := [wX aX adC adH adF adT vX, wC ty adC vC]) (s1 := [wX aX adC adH adF adT vX, wC ty adC vC]) (sn := [wX aX adC adH adF adT vX, wC ty adC vC]) ⟨hx, hb, hml, hown, hts⟩ (cX4_gasAge_ok l D ty aX adC adF adH adT H.size vX vC x3  r99 e99) (cwV 1 hts gL_isDepth_X4_gasAge rfl rfl rfl (by decide +kernel) ⟨Nat.le_of_ble_eq_true rfl, Nat.le_of_ble_eq_true rfl⟩) hP hK hD hS hA [0, 1] (by decide) rfl 4 0 rfl rfl rfl rfl hl.1 rfl (Nat.le_of_ble_eq_true rfl) dL_isDepth_99 ⟨Nat.le_of_ble_eq_true rfl, Nat.le_of_ble_eq_true rfl⟩ rfl rfl (fun H locs hP hD hS => ?_)
        have hP : va_P D vwCl (wX aX adC adH adF adT vX ++ wC ty adC vC) H := hP
        have hD : va_D A (wX aX adC adH adF adT vX ++ wC ty adC vC) := hD
        refine lv_iload_n hx hb dL_isDepth_102 rfl (lv_at hl 2 rfl) ?_
        refine lv_icmp_lt (tgt := 115) hx hb dL_isDepth_103 (by decide) (fun c103 => ?_) (fun c103 => ?_)
        · have h := kT h c103
          refine lv_iconst (v := 0) hx hb dL_isDepth_115 (by decide) ?_
          refine lv_istore (lv' := [(5, .int (0 : Int32)), (0, .ref aX), (1, .int x1), (2, .int x2), (3, .int x3), (4, .int x4)]) hx hb dL_isDepth_116 hl (by decide) rfl (fun ls hl => ?_)
          refine lv_iload_n hx hb dL_isDepth_118 rfl (lv_at hl 4 rfl) ?_
          refine lv_iconst (v := 1) hx hb dL_isDepth_119 (by decide) ?_
          refine lv_isub hx hb dL_isDepth_120 ?_
          refine lv_istore (lv' := [(6, .int (x3 - (1 : Int32))), (5, .int (0 : Int32)), (0, .ref aX), (1, .int x1), (2, .int x2), (3, .int x3), (4, .int x4)]) hx hb dL_isDepth_121 hl (by decide) rfl (fun ls hl => ?_)
          exact L123 x1 x3 x4  kFu (0 : Int32) (x3 - (1 : Int32)) h H locs ls hP hD hS (lv_sub hl [2, 3, 5, 6, 1, 0] rfl)
        · have h := kF h c103
          refine lv_iload_n hx hb dL_isDepth_106 rfl (lv_at hl 4 rfl) ?_
          refine lv_iload_n hx hb dL_isDepth_107 rfl (lv_at hl 3 rfl) ?_
          refine lv_icmp_lt (tgt := 115) hx hb dL_isDepth_108 (by decide) (fun c108 => ?_) (fun c108 => ?_)
          · have h := kT h c108
            refine lv_iconst (v := 0) hx hb dL_isDepth_115 (by decide) ?_
            refine lv_istore (lv' := [(5, .int (0 : Int32)), (0, .ref aX), (1, .int x1), (2, .int x2), (3, .int x3), (4, .int x4)]) hx hb dL_isDepth_116 hl (by decide) rfl (fun ls hl => ?_)
            refine lv_iload_n hx hb dL_isDepth_118 rfl (lv_at hl 4 rfl) ?_
            refine lv_iconst (v := 1) hx hb dL_isDepth_119 (by decide) ?_
            refine lv_isub hx hb dL_isDepth_120 ?_
            refine lv_istore (lv' := [(6, .int (x3 - (1 : Int32))), (5, .int (0 : Int32)), (0, .ref aX), (1, .int x1), (2, .int x2), (3, .int x3), (4, .int x4)]) hx hb dL_isDepth_121 hl (by decide) rfl (fun ls hl => ?_)
            exact L123 x1 x3 x4  kFu (0 : Int32) (x3 - (1 : Int32)) h H locs ls hP hD hS (lv_sub hl [2, 3, 5, 6, 1, 0] rfl)
          · have h := kF h c108
            refine lv_iconst (v := 1) hx hb dL_isDepth_111 (by decide) ?_
            refine lv_goto (tgt := 116) hx hb dL_isDepth_112 (by decide) ?_
            refine lv_istore (lv' := [(5, .int (1 : Int32)), (0, .ref aX), (1, .int x1), (2, .int x2), (3, .int x3), (4, .int x4)]) hx hb dL_isDepth_116 hl (by decide) rfl (fun ls hl => ?_)
            refine lv_iload_n hx hb dL_isDepth_118 rfl (lv_at hl 4 rfl) ?_
            refine lv_iconst (v := 1) hx hb dL_isDepth_119 (by decide) ?_
            refine lv_isub hx hb dL_isDepth_120 ?_
            refine lv_istore (lv' := [(6, .int (x3 - (1 : Int32))), (5, .int (1 : Int32)), (0, .ref aX), (1, .int x1), (2, .int x2), (3, .int x3), (4, .int x4)]) hx hb dL_isDepth_121 hl (by decide) rfl (fun ls hl => ?_)
            exact L123 x1 x3 x4  kFu (1 : Int32) (x3 - (1 : Int32)) h H locs ls hP hD hS (lv_sub hl [2, 3, 5, 6, 1, 0] rfl)
  have J85 : ∀ (x1 : Int32) (x2 : Int32) (x3 : Int32) (x4 : Int32), fL_isDepth_c85 vX vC x1 x2 x3 x4 = some res → ∀ (H : Heap) (locs : List Loc) (ls : Array Slot), va_P D vwCl (wX aX adC adH adF adT vX ++ wC ty adC vC) H → va_D A (wX aX adC adH adF adT vX ++ wC ty adC vC) → va_S A s.heap H locs → lv_has ls 7 [(0, .ref aX), (1, .int x1), (2, .int x2), (3, .int x3), (4, .int x4)] → W p l e (headSpec wsL_isDepth { frames := 6, cells := 0, slots := 0, locals := 153 }).room s m ([.ref aX, .int p1] : List Value).toArray below meth c H locs 0 0 Q (F0 m 85 ls []) := by
    intro x1 x2 x3 x4 h H locs ls hP hD hS hl
    unfold fL_isDepth_c85 at h
    refine lv_iconst (v := 0) hx hb dL_isDepth_85 (by decide) ?_
    exact J86 x1 x2 x3 x4 (0 : Int32) h H locs ls hP hD hS (lv_sub hl [0, 1, 2, 3, 4] rfl)
  have J65 : ∀ (x1 : Int32) (x2 : Int32) (x3 : Int32) (x4 : Int32), fL_isDepth_c65 vX vC x1 x2 x3 x4 = some res → ∀ (H : Heap) (locs : List Loc) (ls : Array Slot), va_P D vwCl (wX aX adC adH adF adT vX ++ wC ty adC vC) H → va_D A (wX aX adC adH adF adT vX ++ wC ty adC vC) → va_S A s.heap H locs → lv_has ls 7 [(0, .ref aX), (1, .int x1), (2, .int x2), (3, .int x3), (4, .int x4)] → W p l e (headSpec wsL_isDepth { frames := 6, cells := 0, slots := 0, locals := 153 }).room s m ([.ref aX, .int p1] : List Value).toArray below meth c H locs 0 0 Q (F0 m 65 ls []) := by
    intro x1 x2 x3 x4 h H locs ls hP hD hS hl
    unfold fL_isDepth_c65 at h
    refine lv_iconst (v := 0) hx hb dL_isDepth_65 (by decide) ?_
    refine lv_goto (tgt := 86) hx hb dL_isDepth_66 (by decide) ?_
    exact J86 x1 x2 x3 x4 (0 : Int32) h H locs ls hP hD hS (lv_sub hl [0, 1, 2, 3, 4] rfl)
  have J61 : ∀ (x1 : Int32) (x2 : Int32) (x3 : Int32) (x4 : Int32), fL_isDepth_c61 vX vC x1 x2 x3 x4 = some res → ∀ (H : Heap) (locs : List Loc) (ls : Array Slot), va_P D vwCl (wX aX adC adH adF adT vX ++ wC ty adC vC) H → va_D A (wX aX adC adH adF adT vX ++ wC ty adC vC) → va_S A s.heap H locs → lv_has ls 7 [(0, .ref aX), (1, .int x1), (2, .int x2), (3, .int x3), (4, .int x4)] → W p l e (headSpec wsL_isDepth { frames := 6, cells := 0, slots := 0, locals := 153 }).room s m ([.ref aX, .int p1] : List Value).toArray below meth c H locs 0 0 Q (F0 m 61 ls []) := by
    intro x1 x2 x3 x4 h H locs ls hP hD hS hl
    unfold fL_isDepth_c61 at h
    refine lv_iconst (v := 1) hx hb dL_isDepth_61 (by decide) ?_
    refine lv_goto (tgt := 86) hx hb dL_isDepth_62 (by decide) ?_
    exact J86 x1 x2 x3 x4 (1 : Int32) h H locs ls hP hD hS (lv_sub hl [0, 1, 2, 3, 4] rfl)
  have J31 : ∀ (x1 : Int32) (x2 : Int32) (x3 : Int32) (s0 : Int32), fL_isDepth_c31 vX vC x1 x2 x3 s0 = some res → ∀ (H : Heap) (locs : List Loc) (ls : Array Slot), va_P D vwCl (wX aX adC adH adF adT vX ++ wC ty adC vC) H → va_D A (wX aX adC adH adF adT vX ++ wC ty adC vC) → va_S A s.heap H locs → lv_has ls 7 [(0, .ref aX), (1, .int x1), (2, .int x2), (3, .int x3)] → W p l e (headSpec wsL_isDepth { frames := 6, cells := 0, slots := 0, locals := 153 }).room s m ([.ref aX, .int p1] : List Value).toArray below meth c H locs 0 0 Q (F0 m 31 ls [.int s0]) := by
    intro x1 x2 x3 s0 h H locs ls hP hD hS hl
    unfold fL_isDepth_c31 at h
    refine lv_istore (lv' := [(4, .int s0), (0, .ref aX), (1, .int x1), (2, .int x2), (3, .int x3)]) hx hb dL_isDepth_31 hl (by decide) rfl (fun ls hl => ?_)
    refine lv_iload_n hx hb dL_isDepth_33 rfl (lv_at hl 3 rfl) ?_
    refine lv_if_lt (tgt := 69) hx hb dL_isDepth_34 (by decide) (fun c34 => ?_) (fun c34 => ?_)
    · have h := kT h c34
      refine lv_iload_n hx hb dL_isDepth_69 rfl (lv_at hl 3 rfl) ?_
      refine lv_ldc hx hb hown wf0 dL_isDepth_70 ?_
      refine lv_icmp_ne (tgt := 85) hx hb dL_isDepth_72 (by decide) (fun c72 => ?_) (fun c72 => ?_)
      · have h := kT h c72
        exact J85 x1 x2 x3 s0 h H locs ls hP hD hS (lv_sub hl [1, 2, 3, 4, 0] rfl)
      · have h := kF h (fun z => z c72)
        refine lv_iload hx hb dL_isDepth_75 (lv_at hl 0 rfl) ?_
        refine lv_iload_n hx hb dL_isDepth_77 rfl (lv_at hl 2 rfl) ?_
        refine lv_icmp_ge (tgt := 85) hx hb dL_isDepth_78 (by decide) (fun c78 => ?_) (fun c78 => ?_)
        · have h := kT h c78
          exact J85 x1 x2 x3 s0 h H locs ls hP hD hS (lv_sub hl [1, 2, 3, 4, 0] rfl)
        · have h := kF h c78
          refine lv_iconst (v := 1) hx hb dL_isDepth_81 (by decide) ?_
          refine lv_goto (tgt := 86) hx hb dL_isDepth_82 (by decide) ?_
          exact J86 x1 x2 x3 s0 (1 : Int32) h H locs ls hP hD hS (lv_sub hl [1, 2, 3, 4, 0] rfl)
    · have h := kF h c34
      refine lv_aload_n hx hb dL_isDepth_37 rfl (lv_at hl 1 rfl) ?_
      refine lv_iload_n hx hb dL_isDepth_38 rfl (lv_at hl 3 rfl) ?_
      obtain ⟨r39, e39, h⟩ := kBd h
      refine kCallWI (As := [.int x2]) (rest := []) (sg := [wX aX adC adH adF adT vX, wC ty adC vC]) (sc := [wX aX adC adH adF adT vX, wC ty adC vC]) (s1 := [wX aX adC adH adF adT vX, wC ty adC vC]) (sn := [wX aX adC adH adF adT vX, wC ty adC vC]) ⟨hx, hb, hml, hown, hts⟩ (cX4_age_ok l D ty aX adC adF adH adT H.size vX vC x2  r39 e39) (cwV 1 hts gL_isDepth_X4_age rfl rfl rfl (by decide +kernel) ⟨Nat.le_of_ble_eq_true rfl, Nat.le_of_ble_eq_true rfl⟩) hP hK hD hS hA [0, 1] (by decide) rfl 4 0 rfl rfl rfl rfl hl.1 rfl (Nat.le_of_ble_eq_true rfl) dL_isDepth_39 ⟨Nat.le_of_ble_eq_true rfl, Nat.le_of_ble_eq_true rfl⟩ rfl rfl (fun H locs hP hD hS => ?_)
      have hP : va_P D vwCl (wX aX adC adH adF adT vX ++ wC ty adC vC) H := hP
      have hD : va_D A (wX aX adC adH adF adT vX ++ wC ty adC vC) := hD
      refine lv_iload_n hx hb dL_isDepth_42 rfl (lv_at hl 2 rfl) ?_
      refine lv_icmp_lt (tgt := 65) hx hb dL_isDepth_43 (by decide) (fun c43 => ?_) (fun c43 => ?_)
      · have h := kT h c43
        exact J65 x1 x2 x3 s0 h H locs ls hP hD hS (lv_sub hl [1, 2, 3, 4, 0] rfl)
      · have h := kF h c43
        refine lv_iload_n hx hb dL_isDepth_46 rfl (lv_at hl 3 rfl) ?_
        refine lv_if_eq (tgt := 61) hx hb dL_isDepth_47 (by decide) (fun c47 => ?_) (fun c47 => ?_)
        · have h := kT h c47
          exact J61 x1 x2 x3 s0 h H locs ls hP hD hS (lv_sub hl [1, 2, 3, 4, 0] rfl)
        · have h := kF h c47
          refine lv_aload_n hx hb dL_isDepth_50 rfl (lv_at hl 1 rfl) ?_
          refine lv_iload_n hx hb dL_isDepth_51 rfl (lv_at hl 3 rfl) ?_
          refine lv_iconst (v := 1) hx hb dL_isDepth_52 (by decide) ?_
          refine lv_isub hx hb dL_isDepth_53 ?_
          obtain ⟨r54, e54, h⟩ := kBd h
          refine kCallWI (As := [.int (x2 - (1 : Int32))]) (rest := []) (sg := [wX aX adC adH adF adT vX, wC ty adC vC]) (sc := [wX aX adC adH adF adT vX, wC ty adC vC]) (s1 := [wX aX adC adH adF adT vX, wC ty adC vC]) (sn := [wX aX adC adH adF adT vX, wC ty adC vC]) ⟨hx, hb, hml, hown, hts⟩ (cX4_age_ok l D ty aX adC adF adH adT H.size vX vC (x2 - (1 : Int32))  r54 e54) (cwV 1 hts gL_isDepth_X4_age rfl rfl rfl (by decide +kernel) ⟨Nat.le_of_ble_eq_true rfl, Nat.le_of_ble_eq_true rfl⟩) hP hK hD hS hA [0, 1] (by decide) rfl 4 0 rfl rfl rfl rfl hl.1 rfl (Nat.le_of_ble_eq_true rfl) dL_isDepth_54 ⟨Nat.le_of_ble_eq_true rfl, Nat.le_of_ble_eq_true rfl⟩ rfl rfl (fun H locs hP hD hS => ?_)
          have hP : va_P D vwCl (wX aX adC adH adF adT vX ++ wC ty adC vC) H := hP
          have hD : va_D A (wX aX adC adH adF adT vX ++ wC ty adC vC) := hD
          refine lv_iload_n hx hb dL_isDepth_57 rfl (lv_at hl 2 rfl) ?_
          refine lv_icmp_ge (tgt := 65) hx hb dL_isDepth_58 (by decide) (fun c58 => ?_) (fun c58 => ?_)
          · have h := kT h c58
            exact J65 x1 x2 x3 s0 h H locs ls hP hD hS (lv_sub hl [1, 2, 3, 4, 0] rfl)
          · have h := kF h c58
            exact J61 x1 x2 x3 s0 h H locs ls hP hD hS (lv_sub hl [1, 2, 3, 4, 0] rfl)
  have hl := lv_entry ([.ref aX, .int p1]) (n := 7) (Nat.le_of_ble_eq_true rfl)
  rw [lg_entry_eq]
  generalize (lg_sl ([.ref aX, .int p1]) ++ List.replicate (7 - (lg_sl ([.ref aX, .int p1])).length) Slot.unset).toArray = ls at hl ⊢
  have hl : lv_has ls 7 [(0, .ref aX), (1, .int p1)] := hl
  unfold fL_isDepth at h
  have E0 : ∀ (H : Heap) (locs : List Loc) (ls : Array Slot), va_P D vwCl (wX aX adC adH adF adT vX ++ wC ty adC vC) H → va_D A (wX aX adC adH adF adT vX ++ wC ty adC vC) → va_S A s.heap H locs → lv_has ls 7 [(0, .ref aX), (1, .int p1)] → W p l e (headSpec wsL_isDepth { frames := 6, cells := 0, slots := 0, locals := 153 }).room s m ([.ref aX, .int p1] : List Value).toArray below meth c H locs 0 0 Q (F0 m 0 ls []) := by
    intro H locs ls hP hD hS hl
    refine lv_aload_n hx hb dL_isDepth_0 rfl (lv_at hl 0 rfl) ?_
    refine lv_iload_n hx hb dL_isDepth_1 rfl (lv_at hl 1 rfl) ?_
    obtain ⟨r2, e2, h⟩ := kBd h
    refine kCallWI (As := [.int p1]) (rest := []) (sg := [wX aX adC adH adF adT vX, wC ty adC vC]) (sc := [wX aX adC adH adF adT vX, wC ty adC vC]) (s1 := [wX aX adC adH adF adT vX, wC ty adC vC]) (sn := [wX aX adC adH adF adT vX, wC ty adC vC]) ⟨hx, hb, hml, hown, hts⟩ (cX4_depthOf_ok l D ty aX adC adF adH adT H.size vX vC p1  r2 e2) (cwV 1 hts gL_isDepth_X4_depthOf rfl rfl rfl (by decide +kernel) ⟨Nat.le_of_ble_eq_true rfl, Nat.le_of_ble_eq_true rfl⟩) hP hK hD hS hA [0, 1] (by decide) rfl 4 0 rfl rfl rfl rfl hl.1 rfl (Nat.le_of_ble_eq_true rfl) dL_isDepth_2 ⟨Nat.le_of_ble_eq_true rfl, Nat.le_of_ble_eq_true rfl⟩ rfl rfl (fun H locs hP hD hS => ?_)
    have hP : va_P D vwCl (wX aX adC adH adF adT vX ++ wC ty adC vC) H := hP
    have hD : va_D A (wX aX adC adH adF adT vX ++ wC ty adC vC) := hD
    refine lv_istore_n (lv' := [(2, .int r2), (0, .ref aX), (1, .int p1)]) hx hb dL_isDepth_5 rfl hl (by decide) rfl (fun ls hl => ?_)
    refine lv_aload_n hx hb dL_isDepth_6 rfl (lv_at hl 1 rfl) ?_
    refine lv_iload_n hx hb dL_isDepth_7 rfl (lv_at hl 2 rfl) ?_
    obtain ⟨r8, e8, h⟩ := kBd h
    refine kCallWI (As := [.int p1]) (rest := []) (sg := [wX aX adC adH adF adT vX, wC ty adC vC]) (sc := [wX aX adC adH adF adT vX, wC ty adC vC]) (s1 := [wX aX adC adH adF adT vX, wC ty adC vC]) (sn := [wX aX adC adH adF adT vX, wC ty adC vC]) ⟨hx, hb, hml, hown, hts⟩ (cX4_gasDepthOf_ok l D ty aX adC adF adH adT H.size vX vC p1  r8 e8) (cwV 1 hts gL_isDepth_X4_gasDepthOf rfl rfl rfl (by decide +kernel) ⟨Nat.le_of_ble_eq_true rfl, Nat.le_of_ble_eq_true rfl⟩) hP hK hD hS hA [0, 1] (by decide) rfl 4 0 rfl rfl rfl rfl hl.1 rfl (Nat.le_of_ble_eq_true rfl) dL_isDepth_8 ⟨Nat.le_of_ble_eq_true rfl, Nat.le_of_ble_eq_true rfl⟩ rfl rfl (fun H locs hP hD hS => ?_)
    have hP : va_P D vwCl (wX aX adC adH adF adT vX ++ wC ty adC vC) H := hP
    have hD : va_D A (wX aX adC adH adF adT vX ++ wC ty adC vC) := hD
    refine lv_istore_n (lv' := [(3, .int r8), (2, .int r2), (0, .ref aX), (1, .int p1)]) hx hb dL_isDepth_11 rfl hl (by decide) rfl (fun ls hl => ?_)
    refine lv_aload_n hx hb dL_isDepth_12 rfl (lv_at hl 2 rfl) ?_
    obtain ⟨r13, e13, h⟩ := kBd h
    refine kCallWI (As := []) (rest := []) (sg := [wX aX adC adH adF adT vX, wC ty adC vC]) (sc := [wX aX adC adH adF adT vX, wC ty adC vC]) (s1 := [wX aX adC adH adF adT vX, wC ty adC vC]) (sn := [wX aX adC adH adF adT vX, wC ty adC vC]) ⟨hx, hb, hml, hown, hts⟩ (cX4_layers_ok l D ty aX adC adF adH adT H.size vX vC  r13 e13) (cwV 0 hts gL_isDepth_X4_layers rfl rfl rfl (by decide +kernel) ⟨Nat.le_of_ble_eq_true rfl, Nat.le_of_ble_eq_true rfl⟩) hP hK hD hS hA [0, 1] (by decide) rfl 4 0 rfl rfl rfl rfl hl.1 rfl (Nat.le_of_ble_eq_true rfl) dL_isDepth_13 ⟨Nat.le_of_ble_eq_true rfl, Nat.le_of_ble_eq_true rfl⟩ rfl rfl (fun H locs hP hD hS => ?_)
    have hP : va_P D vwCl (wX aX adC adH adF adT vX ++ wC ty adC vC) H := hP
    have hD : va_D A (wX aX adC adH adF adT vX ++ wC ty adC vC) := hD
    refine lv_if_ne (tgt := 23) hx hb dL_isDepth_16 (by decide) (fun c16 => ?_) (fun c16 => ?_)
    · have h := kT h c16
      refine lv_aload_n hx hb dL_isDepth_23 rfl (lv_at hl 2 rfl) ?_
      refine lv_aload_n hx hb dL_isDepth_24 rfl (lv_at hl 2 rfl) ?_
      obtain ⟨r25, e25, h⟩ := kBd h
      refine kCallWI (As := []) (rest := [.ref aX]) (sg := [wX aX adC adH adF adT vX, wC ty adC vC]) (sc := [wX aX adC adH adF adT vX, wC ty adC vC]) (s1 := [wX aX adC adH adF adT vX, wC ty adC vC]) (sn := [wX aX adC adH adF adT vX, wC ty adC vC]) ⟨hx, hb, hml, hown, hts⟩ (cX4_depth_ok l D ty aX adC adF adH adT H.size vX vC  r25 e25) (cwV 0 hts gL_isDepth_X4_depth rfl rfl rfl (by decide +kernel) ⟨Nat.le_of_ble_eq_true rfl, Nat.le_of_ble_eq_true rfl⟩) hP hK hD hS hA [0, 1] (by decide) rfl 4 0 rfl rfl rfl rfl hl.1 rfl (Nat.le_of_ble_eq_true rfl) dL_isDepth_25 ⟨Nat.le_of_ble_eq_true rfl, Nat.le_of_ble_eq_true rfl⟩ rfl rfl (fun H locs hP hD hS => ?_)
      have hP : va_P D vwCl (wX aX adC adH adF adT vX ++ wC ty adC vC) H := hP
      have hD : va_D A (wX aX adC adH adF adT vX ++ wC ty adC vC) := hD
      obtain ⟨r28, e28, h⟩ := kBd h
      refine kCallWI (As := [.int r25]) (rest := []) (sg := [wX aX adC adH adF adT vX, wC ty adC vC]) (sc := [wX aX adC adH adF adT vX, wC ty adC vC]) (s1 := [wX aX adC adH adF adT vX, wC ty adC vC]) (sn := [wX aX adC adH adF adT vX, wC ty adC vC]) ⟨hx, hb, hml, hown, hts⟩ (cX4_age_ok l D ty aX adC adF adH adT H.size vX vC r25  r28 e28) (cwV 1 hts gL_isDepth_X4_age rfl rfl rfl (by decide +kernel) ⟨Nat.le_of_ble_eq_true rfl, Nat.le_of_ble_eq_true rfl⟩) hP hK hD hS hA [0, 1] (by decide) rfl 4 0 rfl rfl rfl rfl hl.1 rfl (Nat.le_of_ble_eq_true rfl) dL_isDepth_28 ⟨Nat.le_of_ble_eq_true rfl, Nat.le_of_ble_eq_true rfl⟩ rfl rfl (fun H locs hP hD hS => ?_)
      have hP : va_P D vwCl (wX aX adC adH adF adT vX ++ wC ty adC vC) H := hP
      have hD : va_D A (wX aX adC adH adF adT vX ++ wC ty adC vC) := hD
      exact J31 p1 r2 r8 r28 h H locs ls hP hD hS (lv_sub hl [2, 3, 1, 0] rfl)
    · have h := kF h (fun z => z c16)
      refine lv_iconst (v := (-1)) hx hb dL_isDepth_19 (by decide) ?_
      refine lv_goto (tgt := 31) hx hb dL_isDepth_20 (by decide) ?_
      exact J31 p1 r2 r8 (-1 : Int32) h H locs ls hP hD hS (lv_sub hl [2, 3, 1, 0] rfl)
  exact E0 s.heap [] ls hP hD hS hl
def fL_off_c4 (vX : KX) (vC : KC) (x1 : Int32) (x2 : Int32) (nx4 : Int32 × Int32 → Option (Int32)) : Option (Int32) := (fX4_layers vX vC).bind fun r6 => if r6 ≤ x2 then some x1 else ((fX4_residual vX vC x2).bind fun r14 => if ¬ r14 = (-1000000005 : Int32) then ((fL_size r14).bind fun r30 => nx4 ((x1 + (r30 / (16 : Int32))), (x2 + 1))) else (nx4 (x1, (x2 + 1))))
def fL_off (vX : KX) (vC : KC) : Option (Int32) := kLoopC kFu (fun q nx4 => fL_off_c4 vX vC q.1 q.2 nx4) ((0 : Int32), (0 : Int32))
set_option maxHeartbeats 4000000 in
set_option maxRecDepth 100000 in
theorem cL_off_ok (l : Launch) (D : va_G) (ty : kTy) (aX : Nat) (adC adF adH adT : Nat → Nat) (sz : Nat) (vX : KX) (vC : KC)  (res : Int32) (h : fL_off vX vC = some res) : kMI l yL_off wsL_off { frames := 5, cells := 0, slots := 0, locals := 126 } [.ref aX] D ty (wX aX adC adH adF adT vX ++ wC ty adC vC) sz res (wX aX adC adH adF adT vX ++ wC ty adC vC) := by
  refine Met.ofW (cc := cL_off) (maxL := 4) (ret := (some .int)) (by decide) rfl ?_
  intro p e s m args below meth c s₁ B hml hv
  obtain ⟨rfl, hsz, hP, hK, hD0⟩ := hv
  have hx := B.exec
  have hb := B.bytes
  have hr := B.returns
  have hts := atoms_spec (ws := wsL_off) B.pre
  have hown : s.vm.findClass RL = some m.cls := findClass_of_methodNamed B.named
  have hlocks := B.notSynchronized
  subst hsz
  have hD := hD0.self (sz := s.heap.size)
  generalize hAe : va_A (wX aX adC adH adF adT vX ++ wC ty adC vC) s.heap.size = A at hD ⊢
  have hA : ∀ q : Nat, s.heap.size ≤ q → A q := fun q h => by rw [← hAe]; exact Or.inr h
  have hS : va_S A s.heap s.heap [] := va_S.rf
  refine kGenW (fun Q hQ => ?_)
  have wf0 := hts (.constant RL 95 (-1000000005)) (by decide +kernel)
  have B4 : ∀ (nx4 : Int32 × Int32 → Option (Int32)) (hn4 : ∀ (x1 : Int32) (x2 : Int32), nx4 (x1, x2) = some res → ∀ (H : Heap) (locs : List Loc) (ls : Array Slot), va_P D vwCl (wX aX adC adH adF adT vX ++ wC ty adC vC) H → va_D A (wX aX adC adH adF adT vX ++ wC ty adC vC) → va_S A s.heap H locs → lv_has ls 4 [(0, .ref aX), (1, .int x1), (2, .int x2)] → W p l e (headSpec wsL_off { frames := 5, cells := 0, slots := 0, locals := 126 }).room s m ([.ref aX] : List Value).toArray below meth c H locs 0 0 Q (F0 m 4 ls [])) (x1 : Int32) (x2 : Int32), fL_off_c4 vX vC x1 x2 nx4 = some res → ∀ (H : Heap) (locs : List Loc) (ls : Array Slot), va_P D vwCl (wX aX adC adH adF adT vX ++ wC ty adC vC) H → va_D A (wX aX adC adH adF adT vX ++ wC ty adC vC) → va_S A s.heap H locs → lv_has ls 4 [(0, .ref aX), (1, .int x1), (2, .int x2)] → W p l e (headSpec wsL_off { frames := 5, cells := 0, slots := 0, locals := 126 }).room s m ([.ref aX] : List Value).toArray below meth c H locs 0 0 Q (F0 m 4 ls []) := by
    intro  nx4 hn4 x1 x2 h H locs ls hP hD hS hl
    unfold fL_off_c4 at h
    refine lv_iload_n hx hb dL_off_4 rfl (lv_at hl 2 rfl) ?_
    refine lv_aload_n hx hb dL_off_5 rfl (lv_at hl 0 rfl) ?_
    obtain ⟨r6, e6, h⟩ := kBd h
    refine kCallWI (As := []) (rest := [.int x2]) (sg := [wX aX adC adH adF adT vX, wC ty adC vC]) (sc := [wX aX adC adH adF adT vX, wC ty adC vC]) (s1 := [wX aX adC adH adF adT vX, wC ty adC vC]) (sn := [wX aX adC adH adF adT vX, wC ty adC vC]) ⟨hx, hb, hml, hown, hts⟩ (cX4_layers_ok l D ty aX adC adF adH adT H.size vX vC  r6 e6) (cwV 0 hts gL_off_X4_layers rfl rfl rfl (by decide +kernel) ⟨Nat.le_of_ble_eq_true rfl, Nat.le_of_ble_eq_true rfl⟩) hP hK hD hS hA [0, 1] (by decide) rfl 4 0 rfl rfl rfl rfl hl.1 rfl (Nat.le_of_ble_eq_true rfl) dL_off_6 ⟨Nat.le_of_ble_eq_true rfl, Nat.le_of_ble_eq_true rfl⟩ rfl rfl (fun H locs hP hD hS => ?_)
    have hP : va_P D vwCl (wX aX adC adH adF adT vX ++ wC ty adC vC) H := hP
    have hD : va_D A (wX aX adC adH adF adT vX ++ wC ty adC vC) := hD
    refine lv_icmp_ge (tgt := 44) hx hb dL_off_9 (by decide) (fun c9 => ?_) (fun c9 => ?_)
    · have h := kT h c9
      refine lv_iload_n hx hb dL_off_44 rfl (lv_at hl 1 rfl) ?_
      obtain rfl := Option.some.inj h
      subst hQ
      exact W.iret (v := x1) hx hb hr (fun t ht hW => ⟨⟨x1, (), rfl, rfl, kEnd ht hP⟩, hS.F ht⟩) hS.2.2 dL_off_45
    · have h := kF h c9
      refine lv_aload_n hx hb dL_off_12 rfl (lv_at hl 0 rfl) ?_
      refine lv_iload_n hx hb dL_off_13 rfl (lv_at hl 2 rfl) ?_
      obtain ⟨r14, e14, h⟩ := kBd h
      refine kCallWI (As := [.int x2]) (rest := []) (sg := [wX aX adC adH adF adT vX, wC ty adC vC]) (sc := [wX aX adC adH adF adT vX, wC ty adC vC]) (s1 := [wX aX adC adH adF adT vX, wC ty adC vC]) (sn := [wX aX adC adH adF adT vX, wC ty adC vC]) ⟨hx, hb, hml, hown, hts⟩ (cX4_residual_ok l D ty aX adC adF adH adT H.size vX vC x2  r14 e14) (cwV 1 hts gL_off_X4_residual rfl rfl rfl (by decide +kernel) ⟨Nat.le_of_ble_eq_true rfl, Nat.le_of_ble_eq_true rfl⟩) hP hK hD hS hA [0, 1] (by decide) rfl 4 0 rfl rfl rfl rfl hl.1 rfl (Nat.le_of_ble_eq_true rfl) dL_off_14 ⟨Nat.le_of_ble_eq_true rfl, Nat.le_of_ble_eq_true rfl⟩ rfl rfl (fun H locs hP hD hS => ?_)
      have hP : va_P D vwCl (wX aX adC adH adF adT vX ++ wC ty adC vC) H := hP
      have hD : va_D A (wX aX adC adH adF adT vX ++ wC ty adC vC) := hD
      refine lv_istore_n (lv' := [(3, .int r14), (0, .ref aX), (1, .int x1), (2, .int x2)]) hx hb dL_off_17 rfl hl (by decide) rfl (fun ls hl => ?_)
      refine lv_iload_n hx hb dL_off_18 rfl (lv_at hl 0 rfl) ?_
      refine lv_ldc hx hb hown wf0 dL_off_19 ?_
      refine lv_icmp_ne (tgt := 28) hx hb dL_off_21 (by decide) (fun c21 => ?_) (fun c21 => ?_)
      · have h := kT h c21
        refine lv_iload_n hx hb dL_off_28 rfl (lv_at hl 2 rfl) ?_
        refine lv_iload_n hx hb dL_off_29 rfl (lv_at hl 0 rfl) ?_
        obtain ⟨r30, e30, h⟩ := kBd h
        refine kCallSI (As := [.int r14]) (rest := [.int x1]) ⟨hx, hb, hml, hown, hts⟩ (cL_size_ok l D ty  H.size r14  r30 e30) (va_cwS 1 hts gL_off_L_size rfl rfl rfl (by decide +kernel) ⟨Nat.le_of_ble_eq_true rfl, Nat.le_of_ble_eq_true rfl⟩) hP hK hD hS hA rfl hl.1 rfl (Nat.le_of_ble_eq_true rfl) dL_off_30 ⟨Nat.le_of_ble_eq_true rfl, Nat.le_of_ble_eq_true rfl⟩ (fun H locs hP hS => ?_)
        refine lv_bipush (v := 16) hx hb dL_off_33 (by decide) ?_
        refine lv_idiv hx hb dL_off_35 (by decide) ?_
        refine lv_iadd hx hb dL_off_36 ?_
        refine lv_istore_n (lv' := [(1, .int (x1 + (r30 / (16 : Int32)))), (3, .int r14), (0, .ref aX), (2, .int x2)]) hx hb dL_off_37 rfl hl (by decide) rfl (fun ls hl => ?_)
        refine lv_iinc (v := (x2 + 1)) (lv' := [(2, .int (x2 + 1)), (1, .int (x1 + (r30 / (16 : Int32)))), (3, .int r14), (0, .ref aX)]) hx hb dL_off_38 hl (k := 3) rfl rfl (by decide) rfl (fun ls hl => ?_)
        refine lv_goto (tgt := 4) hx hb dL_off_41 (by decide) ?_
        exact hn4 (x1 + (r30 / (16 : Int32))) (x2 + 1) h H locs ls hP hD hS (lv_sub hl [3, 1, 0] rfl)
      · have h := kF h (fun z => z c21)
        refine lv_iload_n hx hb dL_off_24 rfl (lv_at hl 2 rfl) ?_
        refine lv_goto (tgt := 37) hx hb dL_off_25 (by decide) ?_
        refine lv_istore_n (lv' := [(1, .int x1), (3, .int r14), (0, .ref aX), (2, .int x2)]) hx hb dL_off_37 rfl hl (by decide) rfl (fun ls hl => ?_)
        refine lv_iinc (v := (x2 + 1)) (lv' := [(2, .int (x2 + 1)), (1, .int x1), (3, .int r14), (0, .ref aX)]) hx hb dL_off_38 hl (k := 3) rfl rfl (by decide) rfl (fun ls hl => ?_)
        refine lv_goto (tgt := 4) hx hb dL_off_41 (by decide) ?_
        exact hn4 x1 (x2 + 1) h H locs ls hP hD hS (lv_sub hl [3, 1, 0] rfl)
  have L4 : ∀  (n : Nat) (x1 : Int32) (x2 : Int32), kLoopC n (fun q nx4 => fL_off_c4 vX vC q.1 q.2 nx4) (x1, x2) = some res → ∀ (H : Heap) (locs : List Loc) (ls : Array Slot), va_P D vwCl (wX aX adC adH adF adT vX ++ wC ty adC vC) H → va_D A (wX aX adC adH adF adT vX ++ wC ty adC vC) → va_S A s.heap H locs → lv_has ls 4 [(0, .ref aX), (1, .int x1), (2, .int x2)] → W p l e (headSpec wsL_off { frames := 5, cells := 0, slots := 0, locals := 126 }).room s m ([.ref aX] : List Value).toArray below meth c H locs 0 0 Q (F0 m 4 ls []) := by
    intro  n
    induction n with
    | zero => intro x1 x2 h; exact absurd h (by simp [kLoopC])
    | succ n ih => intro x1 x2 h; exact B4  (kLoopC n (fun q nx4 => fL_off_c4 vX vC q.1 q.2 nx4)) ih x1 x2 h
  have hl := lv_entry ([.ref aX]) (n := 4) (Nat.le_of_ble_eq_true rfl)
  rw [lg_entry_eq]
  generalize (lg_sl ([.ref aX]) ++ List.replicate (4 - (lg_sl ([.ref aX])).length) Slot.unset).toArray = ls at hl ⊢
  have hl : lv_has ls 4 [(0, .ref aX)] := hl
  unfold fL_off at h
  have E0 : ∀ (H : Heap) (locs : List Loc) (ls : Array Slot), va_P D vwCl (wX aX adC adH adF adT vX ++ wC ty adC vC) H → va_D A (wX aX adC adH adF adT vX ++ wC ty adC vC) → va_S A s.heap H locs → lv_has ls 4 [(0, .ref aX)] → W p l e (headSpec wsL_off { frames := 5, cells := 0, slots := 0, locals := 126 }).room s m ([.ref aX] : List Value).toArray below meth c H locs 0 0 Q (F0 m 0 ls []) := by
    intro H locs ls hP hD hS hl
    refine lv_iconst (v := 0) hx hb dL_off_0 (by decide) ?_
    refine lv_istore_n (lv' := [(1, .int (0 : Int32)), (0, .ref aX)]) hx hb dL_off_1 rfl hl (by decide) rfl (fun ls hl => ?_)
    refine lv_iconst (v := 0) hx hb dL_off_2 (by decide) ?_
    refine lv_istore_n (lv' := [(2, .int (0 : Int32)), (1, .int (0 : Int32)), (0, .ref aX)]) hx hb dL_off_3 rfl hl (by decide) rfl (fun ls hl => ?_)
    exact L4   kFu (0 : Int32) (0 : Int32) h H locs ls hP hD hS (lv_sub hl [2, 1, 0] rfl)
  exact E0 s.heap [] ls hP hD hS hl
def fL_isBest_c88 (uX : KX) (uC : KC) (uH : KH) (uS : KS) (x4 : Int32) (x5 : Int32) : Option (Int32 × KX × KC × KH × KS) := if x5 = (0 : Int32) then (some ((0 : Int32), uX, uC, uH, uS)) else (if x4 < (0 : Int32) then (some ((0 : Int32), uX, uC, uH, uS)) else (some ((1 : Int32), uX, uC, uH, uS)))
def fL_isBest_c36 (uX : KX) (uC : KC) (uH : KH) (uS : KS) (x1 : Int32) (x3 : Int32) (x4 : Int32) (x5 : Int32) (x6 : Int32) (nx36 : KX × KC × KH × KS × Int32 × Int32 × Int32 → Option (Int32 × KX × KC × KH × KS)) : Option (Int32 × KX × KC × KH × KS) := if (3 : Int32) ≤ x6 then (fL_isBest_c88 uX uC uH uS x4 x5) else (if x1 < (0 : Int32) then (fL_isBest_c88 uX uC uH uS x4 x5) else ((fX4_setFunction uX uC uH uS x6).bind fun r49 => if x5 = (0 : Int32) then ((fX4_undo r49.2.1 r49.2.2.1 r49.2.2.2.1 r49.2.2.2.2).bind fun r77 => nx36 (r49.2.1, r77.2.1, r77.2.2, r49.2.2.2.2, r77.1, (0 : Int32), (x6 + 1))) else ((fL_off r49.2.1 r49.2.2.1).bind fun r59 => if (r59 + (16 : Int32)) < x3 then ((fX4_undo r49.2.1 r49.2.2.1 r49.2.2.2.1 r49.2.2.2.2).bind fun r77 => nx36 (r49.2.1, r77.2.1, r77.2.2, r49.2.2.2.2, r77.1, (0 : Int32), (x6 + 1))) else ((fX4_undo r49.2.1 r49.2.2.1 r49.2.2.2.1 r49.2.2.2.2).bind fun r77 => nx36 (r49.2.1, r77.2.1, r77.2.2, r49.2.2.2.2, r77.1, (1 : Int32), (x6 + 1))))))
def fL_isBest_c15 (uX : KX) (uC : KC) (uH : KH) (uS : KS) (x1 : Int32) (s1 : Int32) : Option (Int32 × KX × KC × KH × KS) := (fX4_setFunction uX uC uH uS s1).bind fun r15 => (fL_off r15.2.1 r15.2.2.1).bind fun r20 => (fX4_undo r15.2.1 r15.2.2.1 r15.2.2.2.1 r15.2.2.2.2).bind fun r25 => kLoopC kFu (fun q nx36 => fL_isBest_c36 q.1 q.2.1 q.2.2.1 q.2.2.2.1 x1 r20 q.2.2.2.2.1 q.2.2.2.2.2.1 q.2.2.2.2.2.2 nx36) (r15.2.1, r25.2.1, r25.2.2, r15.2.2.2.2, r25.1, (1 : Int32), (0 : Int32))
def fL_isBest (vX : KX) (vC : KC) (vH : KH) (vS : KS) : Option (Int32 × KX × KC × KH × KS) := (fX4_bestFunction vX vC).bind fun r1 => if (0 : Int32) ≤ r1 then (fL_isBest_c15 vX vC vH vS r1 r1) else (fL_isBest_c15 vX vC vH vS r1 (0 : Int32))
set_option maxHeartbeats 4000000 in
set_option maxRecDepth 100000 in
theorem cL_isBest_ok (l : Launch) (D : va_G) (ty : kTy) (aX : Nat) (adC adF adH adT : Nat → Nat) (adS : Nat → Nat → Nat) (sz : Nat) (vX : KX) (vC : KC) (vH : KH) (vS : KS)  (res : Int32 × KX × KC × KH × KS) (h : fL_isBest vX vC vH vS = some res) : kMI l yL_isBest wsL_isBest { frames := 6, cells := 0, slots := 0, locals := 149 } [.ref aX] D ty (wX aX adC adH adF adT vX ++ (wC ty adC vC ++ (wH ty adH adS vH ++ wS ty adS vS))) sz res.1 (wX aX adC adH adF adT res.2.1 ++ (wC ty adC res.2.2.1 ++ (wH ty adH adS res.2.2.2.1 ++ wS ty adS res.2.2.2.2))) := by
  refine Met.ofW (cc := cL_isBest) (maxL := 7) (ret := (some .boolean)) (by decide) rfl ?_
  intro p e s m args below meth c s₁ B hml hv
  obtain ⟨rfl, hsz, hP, hK, hD0⟩ := hv
  have hx := B.exec
  have hb := B.bytes
  have hr := B.returns
  have hts := atoms_spec (ws := wsL_isBest) B.pre
  have hown : s.vm.findClass RL = some m.cls := findClass_of_methodNamed B.named
  have hlocks := B.notSynchronized
  subst hsz
  have hD := hD0.self (sz := s.heap.size)
  generalize hAe : va_A (wX aX adC adH adF adT vX ++ (wC ty adC vC ++ (wH ty adH adS vH ++ wS ty adS vS))) s.heap.size = A at hD ⊢
  have hA : ∀ q : Nat, s.heap.size ≤ q → A q := fun q h => by rw [← hAe]; exact Or.inr h
  have hS : va_S A s.heap s.heap [] := va_S.rf
  refine kGenW (fun Q hQ => ?_)
  have J88 : ∀ (uX : KX) (uC : KC) (uH : KH) (uS : KS) (x4 : Int32) (x5 : Int32), fL_isBest_c88 uX uC uH uS x4 x5 = some res → ∀ (H : Heap) (locs : List Loc) (ls : Array Slot), va_P D vwCl (wX aX adC adH adF adT uX ++ (wC ty adC uC ++ (wH ty adH adS uH ++ wS ty adS uS))) H → va_D A (wX aX adC adH adF adT uX ++ (wC ty adC uC ++ (wH ty adH adS uH ++ wS ty adS uS))) → va_S A s.heap H locs → lv_has ls 7 [(4, .int x4), (5, .int x5)] → W p l e (headSpec wsL_isBest { frames := 6, cells := 0, slots := 0, locals := 149 }).room s m ([.ref aX] : List Value).toArray below meth c H locs 0 0 Q (F0 m 88 ls []) := by
    intro uX uC uH uS x4 x5 h H locs ls hP hD hS hl
    unfold fL_isBest_c88 at h
    refine lv_iload hx hb dL_isBest_88 (lv_at hl 1 rfl) ?_
    refine lv_if_eq (tgt := 102) hx hb dL_isBest_90 (by decide) (fun c90 => ?_) (fun c90 => ?_)
    · have h := kT h c90
      refine lv_iconst (v := 0) hx hb dL_isBest_102 (by decide) ?_
      obtain rfl := Option.some.inj h
      subst hQ
      exact W.zret (ty := .boolean) (v := (0 : Int32)) hx hb hr rfl (fun t ht hW => ⟨⟨(0 : Int32), (), rfl, rfl, kEnd ht hP⟩, hS.F ht⟩) hS.2.2 dL_isBest_103
    · have h := kF h c90
      refine lv_iload hx hb dL_isBest_93 (lv_at hl 0 rfl) ?_
      refine lv_if_lt (tgt := 102) hx hb dL_isBest_95 (by decide) (fun c95 => ?_) (fun c95 => ?_)
      · have h := kT h c95
        refine lv_iconst (v := 0) hx hb dL_isBest_102 (by decide) ?_
        obtain rfl := Option.some.inj h
        subst hQ
        exact W.zret (ty := .boolean) (v := (0 : Int32)) hx hb hr rfl (fun t ht hW => ⟨⟨(0 : Int32), (), rfl, rfl, kEnd ht hP⟩, hS.F ht⟩) hS.2.2 dL_isBest_103
      · have h := kF h c95
        refine lv_iconst (v := 1) hx hb dL_isBest_98 (by decide) ?_
        refine lv_goto (tgt := 103) hx hb dL_isBest_99 (by decide) ?_
        obtain rfl := Option.some.inj h
        subst hQ
        exact W.zret (ty := .boolean) (v := (1 : Int32)) hx hb hr rfl (fun t ht hW => ⟨⟨(1 : Int32), (), rfl, rfl, kEnd ht hP⟩, hS.F ht⟩) hS.2.2 dL_isBest_103
  have B36 : ∀ (x1 : Int32) (x3 : Int32) (nx36 : KX × KC × KH × KS × Int32 × Int32 × Int32 → Option (Int32 × KX × KC × KH × KS)) (hn36 : ∀ (uX : KX) (uC : KC) (uH : KH) (uS : KS) (x4 : Int32) (x5 : Int32) (x6 : Int32), nx36 (uX, uC, uH, uS, x4, x5, x6) = some res → ∀ (H : Heap) (locs : List Loc) (ls : Array Slot), va_P D vwCl (wX aX adC adH adF adT uX ++ (wC ty adC uC ++ (wH ty adH adS uH ++ wS ty adS uS))) H → va_D A (wX aX adC adH adF adT uX ++ (wC ty adC uC ++ (wH ty adH adS uH ++ wS ty adS uS))) → va_S A s.heap H locs → lv_has ls 7 [(0, .ref aX), (1, .int x1), (3, .int x3), (4, .int x4), (5, .int x5), (6, .int x6)] → W p l e (headSpec wsL_isBest { frames := 6, cells := 0, slots := 0, locals := 149 }).room s m ([.ref aX] : List Value).toArray below meth c H locs 0 0 Q (F0 m 36 ls [])) (uX : KX) (uC : KC) (uH : KH) (uS : KS) (x4 : Int32) (x5 : Int32) (x6 : Int32), fL_isBest_c36 uX uC uH uS x1 x3 x4 x5 x6 nx36 = some res → ∀ (H : Heap) (locs : List Loc) (ls : Array Slot), va_P D vwCl (wX aX adC adH adF adT uX ++ (wC ty adC uC ++ (wH ty adH adS uH ++ wS ty adS uS))) H → va_D A (wX aX adC adH adF adT uX ++ (wC ty adC uC ++ (wH ty adH adS uH ++ wS ty adS uS))) → va_S A s.heap H locs → lv_has ls 7 [(0, .ref aX), (1, .int x1), (3, .int x3), (4, .int x4), (5, .int x5), (6, .int x6)] → W p l e (headSpec wsL_isBest { frames := 6, cells := 0, slots := 0, locals := 149 }).room s m ([.ref aX] : List Value).toArray below meth c H locs 0 0 Q (F0 m 36 ls []) := by
    intro x1 x3 nx36 hn36 uX uC uH uS x4 x5 x6 h H locs ls hP hD hS hl
    unfold fL_isBest_c36 at h
    refine lv_iload hx hb dL_isBest_36 (lv_at hl 5 rfl) ?_
    refine lv_iconst (v := 3) hx hb dL_isBest_38 (by decide) ?_
    refine lv_icmp_ge (tgt := 88) hx hb dL_isBest_39 (by decide) (fun c39 => ?_) (fun c39 => ?_)
    · have h := kT h c39
      exact J88 uX uC uH uS x4 x5 h H locs ls hP hD hS (lv_sub hl [3, 4] rfl)
    · have h := kF h c39
      refine lv_iload_n hx hb dL_isBest_42 rfl (lv_at hl 1 rfl) ?_
      refine lv_if_lt (tgt := 88) hx hb dL_isBest_43 (by decide) (fun c43 => ?_) (fun c43 => ?_)
      · have h := kT h c43
        exact J88 uX uC uH uS x4 x5 h H locs ls hP hD hS (lv_sub hl [3, 4] rfl)
      · have h := kF h c43
        refine lv_aload_n hx hb dL_isBest_46 rfl (lv_at hl 0 rfl) ?_
        refine lv_iload hx hb dL_isBest_47 (lv_at hl 5 rfl) ?_
        obtain ⟨r49, e49, h⟩ := kBd h
        refine kCallWI (As := [.int x6]) (rest := []) (sg := [wX aX adC adH adF adT uX, wC ty adC uC, wH ty adH adS uH, wS ty adS uS]) (sc := [wX aX adC adH adF adT uX, wC ty adC uC, wH ty adH adS uH, wS ty adS uS]) (s1 := [wX aX adC adH adF adT r49.2.1, wC ty adC r49.2.2.1, wH ty adH adS r49.2.2.2.1, wS ty adS r49.2.2.2.2]) (sn := [wX aX adC adH adF adT r49.2.1, wC ty adC r49.2.2.1, wH ty adH adS r49.2.2.2.1, wS ty adS r49.2.2.2.2]) ⟨hx, hb, hml, hown, hts⟩ (cX4_setFunction_ok l D ty aX adC adF adH adT adS H.size uX uC uH uS x6  r49 e49) (cwV 1 hts gL_isBest_X4_setFunction rfl rfl rfl (by decide +kernel) ⟨Nat.le_of_ble_eq_true rfl, Nat.le_of_ble_eq_true rfl⟩) hP hK hD hS hA [0, 1, 2, 3] (by decide) rfl 4 0 rfl rfl rfl rfl hl.1 rfl (Nat.le_of_ble_eq_true rfl) dL_isBest_49 ⟨Nat.le_of_ble_eq_true rfl, Nat.le_of_ble_eq_true rfl⟩ rfl rfl (fun H locs hP hD hS => ?_)
        have hP : va_P D vwCl (wX aX adC adH adF adT r49.2.1 ++ (wC ty adC r49.2.2.1 ++ (wH ty adH adS r49.2.2.2.1 ++ wS ty adS r49.2.2.2.2))) H := hP
        have hD : va_D A (wX aX adC adH adF adT r49.2.1 ++ (wC ty adC r49.2.2.1 ++ (wH ty adH adS r49.2.2.2.1 ++ wS ty adS r49.2.2.2.2))) := hD
        refine lv_istore_n (lv' := [(2, .int r49.1), (0, .ref aX), (1, .int x1), (3, .int x3), (4, .int x4), (5, .int x5), (6, .int x6)]) hx hb dL_isBest_52 rfl hl (by decide) rfl (fun ls hl => ?_)
        refine lv_iload hx hb dL_isBest_53 (lv_at hl 5 rfl) ?_
        refine lv_if_eq (tgt := 73) hx hb dL_isBest_55 (by decide) (fun c55 => ?_) (fun c55 => ?_)
        · have h := kT h c55
          refine lv_iconst (v := 0) hx hb dL_isBest_73 (by decide) ?_
          refine lv_istore (lv' := [(5, .int (0 : Int32)), (2, .int r49.1), (0, .ref aX), (1, .int x1), (3, .int x3), (4, .int x4), (6, .int x6)]) hx hb dL_isBest_74 hl (by decide) rfl (fun ls hl => ?_)
          refine lv_aload_n hx hb dL_isBest_76 rfl (lv_at hl 2 rfl) ?_
          obtain ⟨r77, e77, h⟩ := kBd h
          refine kCallWI (As := []) (rest := []) (sg := [wX aX adC adH adF adT r49.2.1, wC ty adC r49.2.2.1, wH ty adH adS r49.2.2.2.1, wS ty adS r49.2.2.2.2]) (sc := [wX aX adC adH adF adT r49.2.1, wC ty adC r49.2.2.1, wH ty adH adS r49.2.2.2.1, wS ty adS r49.2.2.2.2]) (s1 := [wX aX adC adH adF adT r49.2.1, wC ty adC r77.2.1, wH ty adH adS r77.2.2, wS ty adS r49.2.2.2.2]) (sn := [wX aX adC adH adF adT r49.2.1, wC ty adC r77.2.1, wH ty adH adS r77.2.2, wS ty adS r49.2.2.2.2]) ⟨hx, hb, hml, hown, hts⟩ (cX4_undo_ok l D ty aX adC adF adH adT adS H.size r49.2.1 r49.2.2.1 r49.2.2.2.1 r49.2.2.2.2  r77 e77) (cwV 0 hts gL_isBest_X4_undo rfl rfl rfl (by decide +kernel) ⟨Nat.le_of_ble_eq_true rfl, Nat.le_of_ble_eq_true rfl⟩) hP hK hD hS hA [0, 1, 2, 3] (by decide) rfl 4 0 rfl rfl rfl rfl hl.1 rfl (Nat.le_of_ble_eq_true rfl) dL_isBest_77 ⟨Nat.le_of_ble_eq_true rfl, Nat.le_of_ble_eq_true rfl⟩ rfl rfl (fun H locs hP hD hS => ?_)
          have hP : va_P D vwCl (wX aX adC adH adF adT r49.2.1 ++ (wC ty adC r77.2.1 ++ (wH ty adH adS r77.2.2 ++ wS ty adS r49.2.2.2.2))) H := hP
          have hD : va_D A (wX aX adC adH adF adT r49.2.1 ++ (wC ty adC r77.2.1 ++ (wH ty adH adS r77.2.2 ++ wS ty adS r49.2.2.2.2))) := hD
          refine lv_istore (lv' := [(4, .int r77.1), (5, .int (0 : Int32)), (2, .int r49.1), (0, .ref aX), (1, .int x1), (3, .int x3), (6, .int x6)]) hx hb dL_isBest_80 hl (by decide) rfl (fun ls hl => ?_)
          refine lv_iinc (v := (x6 + 1)) (lv' := [(6, .int (x6 + 1)), (4, .int r77.1), (5, .int (0 : Int32)), (2, .int r49.1), (0, .ref aX), (1, .int x1), (3, .int x3)]) hx hb dL_isBest_82 hl (k := 6) rfl rfl (by decide) rfl (fun ls hl => ?_)
          refine lv_goto (tgt := 36) hx hb dL_isBest_85 (by decide) ?_
          exact hn36 r49.2.1 r77.2.1 r77.2.2 r49.2.2.2.2 r77.1 (0 : Int32) (x6 + 1) h H locs ls hP hD hS (lv_sub hl [4, 5, 6, 1, 2, 0] rfl)
        · have h := kF h c55
          refine lv_aload_n hx hb dL_isBest_58 rfl (lv_at hl 1 rfl) ?_
          obtain ⟨r59, e59, h⟩ := kBd h
          refine kCallTI (As := [.ref aX]) (rest := []) (sg := [wX aX adC adH adF adT r49.2.1, wC ty adC r49.2.2.1, wH ty adH adS r49.2.2.2.1, wS ty adS r49.2.2.2.2]) (sc := [wX aX adC adH adF adT r49.2.1, wC ty adC r49.2.2.1]) (s1 := [wX aX adC adH adF adT r49.2.1, wC ty adC r49.2.2.1]) (sn := [wX aX adC adH adF adT r49.2.1, wC ty adC r49.2.2.1, wH ty adH adS r49.2.2.2.1, wS ty adS r49.2.2.2.2]) ⟨hx, hb, hml, hown, hts⟩ (cL_off_ok l D ty aX adC adF adH adT H.size r49.2.1 r49.2.2.1  r59 e59) (va_cwS 1 hts gL_isBest_L_off rfl rfl rfl (by decide +kernel) ⟨Nat.le_of_ble_eq_true rfl, Nat.le_of_ble_eq_true rfl⟩) hP hK hD hS hA [0, 1] (by decide) rfl rfl hl.1 rfl (Nat.le_of_ble_eq_true rfl) dL_isBest_59 ⟨Nat.le_of_ble_eq_true rfl, Nat.le_of_ble_eq_true rfl⟩ rfl rfl (fun H locs hP hD hS => ?_)
          have hP : va_P D vwCl (wX aX adC adH adF adT r49.2.1 ++ (wC ty adC r49.2.2.1 ++ (wH ty adH adS r49.2.2.2.1 ++ wS ty adS r49.2.2.2.2))) H := hP
          have hD : va_D A (wX aX adC adH adF adT r49.2.1 ++ (wC ty adC r49.2.2.1 ++ (wH ty adH adS r49.2.2.2.1 ++ wS ty adS r49.2.2.2.2))) := hD
          refine lv_bipush (v := 16) hx hb dL_isBest_62 (by decide) ?_
          refine lv_iadd hx hb dL_isBest_64 ?_
          refine lv_iload_n hx hb dL_isBest_65 rfl (lv_at hl 3 rfl) ?_
          refine lv_icmp_lt (tgt := 73) hx hb dL_isBest_66 (by decide) (fun c66 => ?_) (fun c66 => ?_)
          · have h := kT h c66
            refine lv_iconst (v := 0) hx hb dL_isBest_73 (by decide) ?_
            refine lv_istore (lv' := [(5, .int (0 : Int32)), (2, .int r49.1), (0, .ref aX), (1, .int x1), (3, .int x3), (4, .int x4), (6, .int x6)]) hx hb dL_isBest_74 hl (by decide) rfl (fun ls hl => ?_)
            refine lv_aload_n hx hb dL_isBest_76 rfl (lv_at hl 2 rfl) ?_
            obtain ⟨r77, e77, h⟩ := kBd h
            refine kCallWI (As := []) (rest := []) (sg := [wX aX adC adH adF adT r49.2.1, wC ty adC r49.2.2.1, wH ty adH adS r49.2.2.2.1, wS ty adS r49.2.2.2.2]) (sc := [wX aX adC adH adF adT r49.2.1, wC ty adC r49.2.2.1, wH ty adH adS r49.2.2.2.1, wS ty adS r49.2.2.2.2]) (s1 := [wX aX adC adH adF adT r49.2.1, wC ty adC r77.2.1, wH ty adH adS r77.2.2, wS ty adS r49.2.2.2.2]) (sn := [wX aX adC adH adF adT r49.2.1, wC ty adC r77.2.1, wH ty adH adS r77.2.2, wS ty adS r49.2.2.2.2]) ⟨hx, hb, hml, hown, hts⟩ (cX4_undo_ok l D ty aX adC adF adH adT adS H.size r49.2.1 r49.2.2.1 r49.2.2.2.1 r49.2.2.2.2  r77 e77) (cwV 0 hts gL_isBest_X4_undo rfl rfl rfl (by decide +kernel) ⟨Nat.le_of_ble_eq_true rfl, Nat.le_of_ble_eq_true rfl⟩) hP hK hD hS hA [0, 1, 2, 3] (by decide) rfl 4 0 rfl rfl rfl rfl hl.1 rfl (Nat.le_of_ble_eq_true rfl) dL_isBest_77 ⟨Nat.le_of_ble_eq_true rfl, Nat.le_of_ble_eq_true rfl⟩ rfl rfl (fun H locs hP hD hS => ?_)
            have hP : va_P D vwCl (wX aX adC adH adF adT r49.2.1 ++ (wC ty adC r77.2.1 ++ (wH ty adH adS r77.2.2 ++ wS ty adS r49.2.2.2.2))) H := hP
            have hD : va_D A (wX aX adC adH adF adT r49.2.1 ++ (wC ty adC r77.2.1 ++ (wH ty adH adS r77.2.2 ++ wS ty adS r49.2.2.2.2))) := hD
            refine lv_istore (lv' := [(4, .int r77.1), (5, .int (0 : Int32)), (2, .int r49.1), (0, .ref aX), (1, .int x1), (3, .int x3), (6, .int x6)]) hx hb dL_isBest_80 hl (by decide) rfl (fun ls hl => ?_)
            refine lv_iinc (v := (x6 + 1)) (lv' := [(6, .int (x6 + 1)), (4, .int r77.1), (5, .int (0 : Int32)), (2, .int r49.1), (0, .ref aX), (1, .int x1), (3, .int x3)]) hx hb dL_isBest_82 hl (k := 6) rfl rfl (by decide) rfl (fun ls hl => ?_)
            refine lv_goto (tgt := 36) hx hb dL_isBest_85 (by decide) ?_
            exact hn36 r49.2.1 r77.2.1 r77.2.2 r49.2.2.2.2 r77.1 (0 : Int32) (x6 + 1) h H locs ls hP hD hS (lv_sub hl [4, 5, 6, 1, 2, 0] rfl)
          · have h := kF h c66
            refine lv_iconst (v := 1) hx hb dL_isBest_69 (by decide) ?_
            refine lv_goto (tgt := 74) hx hb dL_isBest_70 (by decide) ?_
            refine lv_istore (lv' := [(5, .int (1 : Int32)), (2, .int r49.1), (0, .ref aX), (1, .int x1), (3, .int x3), (4, .int x4), (6, .int x6)]) hx hb dL_isBest_74 hl (by decide) rfl (fun ls hl => ?_)
            refine lv_aload_n hx hb dL_isBest_76 rfl (lv_at hl 2 rfl) ?_
            obtain ⟨r77, e77, h⟩ := kBd h
            refine kCallWI (As := []) (rest := []) (sg := [wX aX adC adH adF adT r49.2.1, wC ty adC r49.2.2.1, wH ty adH adS r49.2.2.2.1, wS ty adS r49.2.2.2.2]) (sc := [wX aX adC adH adF adT r49.2.1, wC ty adC r49.2.2.1, wH ty adH adS r49.2.2.2.1, wS ty adS r49.2.2.2.2]) (s1 := [wX aX adC adH adF adT r49.2.1, wC ty adC r77.2.1, wH ty adH adS r77.2.2, wS ty adS r49.2.2.2.2]) (sn := [wX aX adC adH adF adT r49.2.1, wC ty adC r77.2.1, wH ty adH adS r77.2.2, wS ty adS r49.2.2.2.2]) ⟨hx, hb, hml, hown, hts⟩ (cX4_undo_ok l D ty aX adC adF adH adT adS H.size r49.2.1 r49.2.2.1 r49.2.2.2.1 r49.2.2.2.2  r77 e77) (cwV 0 hts gL_isBest_X4_undo rfl rfl rfl (by decide +kernel) ⟨Nat.le_of_ble_eq_true rfl, Nat.le_of_ble_eq_true rfl⟩) hP hK hD hS hA [0, 1, 2, 3] (by decide) rfl 4 0 rfl rfl rfl rfl hl.1 rfl (Nat.le_of_ble_eq_true rfl) dL_isBest_77 ⟨Nat.le_of_ble_eq_true rfl, Nat.le_of_ble_eq_true rfl⟩ rfl rfl (fun H locs hP hD hS => ?_)
            have hP : va_P D vwCl (wX aX adC adH adF adT r49.2.1 ++ (wC ty adC r77.2.1 ++ (wH ty adH adS r77.2.2 ++ wS ty adS r49.2.2.2.2))) H := hP
            have hD : va_D A (wX aX adC adH adF adT r49.2.1 ++ (wC ty adC r77.2.1 ++ (wH ty adH adS r77.2.2 ++ wS ty adS r49.2.2.2.2))) := hD
            refine lv_istore (lv' := [(4, .int r77.1), (5, .int (1 : Int32)), (2, .int r49.1), (0, .ref aX), (1, .int x1), (3, .int x3), (6, .int x6)]) hx hb dL_isBest_80 hl (by decide) rfl (fun ls hl => ?_)
            refine lv_iinc (v := (x6 + 1)) (lv' := [(6, .int (x6 + 1)), (4, .int r77.1), (5, .int (1 : Int32)), (2, .int r49.1), (0, .ref aX), (1, .int x1), (3, .int x3)]) hx hb dL_isBest_82 hl (k := 6) rfl rfl (by decide) rfl (fun ls hl => ?_)
            refine lv_goto (tgt := 36) hx hb dL_isBest_85 (by decide) ?_
            exact hn36 r49.2.1 r77.2.1 r77.2.2 r49.2.2.2.2 r77.1 (1 : Int32) (x6 + 1) h H locs ls hP hD hS (lv_sub hl [4, 5, 6, 1, 2, 0] rfl)
  have L36 : ∀ (x1 : Int32) (x3 : Int32) (n : Nat) (uX : KX) (uC : KC) (uH : KH) (uS : KS) (x4 : Int32) (x5 : Int32) (x6 : Int32), kLoopC n (fun q nx36 => fL_isBest_c36 q.1 q.2.1 q.2.2.1 q.2.2.2.1 x1 x3 q.2.2.2.2.1 q.2.2.2.2.2.1 q.2.2.2.2.2.2 nx36) (uX, uC, uH, uS, x4, x5, x6) = some res → ∀ (H : Heap) (locs : List Loc) (ls : Array Slot), va_P D vwCl (wX aX adC adH adF adT uX ++ (wC ty adC uC ++ (wH ty adH adS uH ++ wS ty adS uS))) H → va_D A (wX aX adC adH adF adT uX ++ (wC ty adC uC ++ (wH ty adH adS uH ++ wS ty adS uS))) → va_S A s.heap H locs → lv_has ls 7 [(0, .ref aX), (1, .int x1), (3, .int x3), (4, .int x4), (5, .int x5), (6, .int x6)] → W p l e (headSpec wsL_isBest { frames := 6, cells := 0, slots := 0, locals := 149 }).room s m ([.ref aX] : List Value).toArray below meth c H locs 0 0 Q (F0 m 36 ls []) := by
    intro x1 x3 n
    induction n with
    | zero => intro uX uC uH uS x4 x5 x6 h; exact absurd h (by simp [kLoopC])
    | succ n ih => intro uX uC uH uS x4 x5 x6 h; exact B36 x1 x3 (kLoopC n (fun q nx36 => fL_isBest_c36 q.1 q.2.1 q.2.2.1 q.2.2.2.1 x1 x3 q.2.2.2.2.1 q.2.2.2.2.2.1 q.2.2.2.2.2.2 nx36)) ih uX uC uH uS x4 x5 x6 h
  have J15 : ∀ (uX : KX) (uC : KC) (uH : KH) (uS : KS) (x1 : Int32) (s1 : Int32), fL_isBest_c15 uX uC uH uS x1 s1 = some res → ∀ (H : Heap) (locs : List Loc) (ls : Array Slot), va_P D vwCl (wX aX adC adH adF adT uX ++ (wC ty adC uC ++ (wH ty adH adS uH ++ wS ty adS uS))) H → va_D A (wX aX adC adH adF adT uX ++ (wC ty adC uC ++ (wH ty adH adS uH ++ wS ty adS uS))) → va_S A s.heap H locs → lv_has ls 7 [(0, .ref aX), (1, .int x1)] → W p l e (headSpec wsL_isBest { frames := 6, cells := 0, slots := 0, locals := 149 }).room s m ([.ref aX] : List Value).toArray below meth c H locs 0 0 Q (F0 m 15 ls [.int s1, .ref aX]) := by
    intro uX uC uH uS x1 s1 h H locs ls hP hD hS hl
    unfold fL_isBest_c15 at h
    obtain ⟨r15, e15, h⟩ := kBd h
    refine kCallWI (As := [.int s1]) (rest := []) (sg := [wX aX adC adH adF adT uX, wC ty adC uC, wH ty adH adS uH, wS ty adS uS]) (sc := [wX aX adC adH adF adT uX, wC ty adC uC, wH ty adH adS uH, wS ty adS uS]) (s1 := [wX aX adC adH adF adT r15.2.1, wC ty adC r15.2.2.1, wH ty adH adS r15.2.2.2.1, wS ty adS r15.2.2.2.2]) (sn := [wX aX adC adH adF adT r15.2.1, wC ty adC r15.2.2.1, wH ty adH adS r15.2.2.2.1, wS ty adS r15.2.2.2.2]) ⟨hx, hb, hml, hown, hts⟩ (cX4_setFunction_ok l D ty aX adC adF adH adT adS H.size uX uC uH uS s1  r15 e15) (cwV 1 hts gL_isBest_X4_setFunction rfl rfl rfl (by decide +kernel) ⟨Nat.le_of_ble_eq_true rfl, Nat.le_of_ble_eq_true rfl⟩) hP hK hD hS hA [0, 1, 2, 3] (by decide) rfl 4 0 rfl rfl rfl rfl hl.1 rfl (Nat.le_of_ble_eq_true rfl) dL_isBest_15 ⟨Nat.le_of_ble_eq_true rfl, Nat.le_of_ble_eq_true rfl⟩ rfl rfl (fun H locs hP hD hS => ?_)
    have hP : va_P D vwCl (wX aX adC adH adF adT r15.2.1 ++ (wC ty adC r15.2.2.1 ++ (wH ty adH adS r15.2.2.2.1 ++ wS ty adS r15.2.2.2.2))) H := hP
    have hD : va_D A (wX aX adC adH adF adT r15.2.1 ++ (wC ty adC r15.2.2.1 ++ (wH ty adH adS r15.2.2.2.1 ++ wS ty adS r15.2.2.2.2))) := hD
    refine lv_istore_n (lv' := [(2, .int r15.1), (0, .ref aX), (1, .int x1)]) hx hb dL_isBest_18 rfl hl (by decide) rfl (fun ls hl => ?_)
    refine lv_aload_n hx hb dL_isBest_19 rfl (lv_at hl 1 rfl) ?_
    obtain ⟨r20, e20, h⟩ := kBd h
    refine kCallTI (As := [.ref aX]) (rest := []) (sg := [wX aX adC adH adF adT r15.2.1, wC ty adC r15.2.2.1, wH ty adH adS r15.2.2.2.1, wS ty adS r15.2.2.2.2]) (sc := [wX aX adC adH adF adT r15.2.1, wC ty adC r15.2.2.1]) (s1 := [wX aX adC adH adF adT r15.2.1, wC ty adC r15.2.2.1]) (sn := [wX aX adC adH adF adT r15.2.1, wC ty adC r15.2.2.1, wH ty adH adS r15.2.2.2.1, wS ty adS r15.2.2.2.2]) ⟨hx, hb, hml, hown, hts⟩ (cL_off_ok l D ty aX adC adF adH adT H.size r15.2.1 r15.2.2.1  r20 e20) (va_cwS 1 hts gL_isBest_L_off rfl rfl rfl (by decide +kernel) ⟨Nat.le_of_ble_eq_true rfl, Nat.le_of_ble_eq_true rfl⟩) hP hK hD hS hA [0, 1] (by decide) rfl rfl hl.1 rfl (Nat.le_of_ble_eq_true rfl) dL_isBest_20 ⟨Nat.le_of_ble_eq_true rfl, Nat.le_of_ble_eq_true rfl⟩ rfl rfl (fun H locs hP hD hS => ?_)
    have hP : va_P D vwCl (wX aX adC adH adF adT r15.2.1 ++ (wC ty adC r15.2.2.1 ++ (wH ty adH adS r15.2.2.2.1 ++ wS ty adS r15.2.2.2.2))) H := hP
    have hD : va_D A (wX aX adC adH adF adT r15.2.1 ++ (wC ty adC r15.2.2.1 ++ (wH ty adH adS r15.2.2.2.1 ++ wS ty adS r15.2.2.2.2))) := hD
    refine lv_istore_n (lv' := [(3, .int r20), (2, .int r15.1), (0, .ref aX), (1, .int x1)]) hx hb dL_isBest_23 rfl hl (by decide) rfl (fun ls hl => ?_)
    refine lv_aload_n hx hb dL_isBest_24 rfl (lv_at hl 2 rfl) ?_
    obtain ⟨r25, e25, h⟩ := kBd h
    refine kCallWI (As := []) (rest := []) (sg := [wX aX adC adH adF adT r15.2.1, wC ty adC r15.2.2.1, wH ty adH adS r15.2.2.2.1, wS ty adS r15.2.2.2.2]) (sc := [wX aX adC adH adF adT r15.2.1, wC ty adC r15.2.2.1, wH ty adH adS r15.2.2.2.1, wS ty adS r15.2.2.2.2]) (s1 := [wX aX adC adH adF adT r15.2.1, wC ty adC r25.2.1, wH ty adH adS r25.2.2, wS ty adS r15.2.2.2.2]) (sn := [wX aX adC adH adF adT r15.2.1, wC ty adC r25.2.1, wH ty adH adS r25.2.2, wS ty adS r15.2.2.2.2]) ⟨hx, hb, hml, hown, hts⟩ (cX4_undo_ok l D ty aX adC adF adH adT adS H.size r15.2.1 r15.2.2.1 r15.2.2.2.1 r15.2.2.2.2  r25 e25) (cwV 0 hts gL_isBest_X4_undo rfl rfl rfl (by decide +kernel) ⟨Nat.le_of_ble_eq_true rfl, Nat.le_of_ble_eq_true rfl⟩) hP hK hD hS hA [0, 1, 2, 3] (by decide) rfl 4 0 rfl rfl rfl rfl hl.1 rfl (Nat.le_of_ble_eq_true rfl) dL_isBest_25 ⟨Nat.le_of_ble_eq_true rfl, Nat.le_of_ble_eq_true rfl⟩ rfl rfl (fun H locs hP hD hS => ?_)
    have hP : va_P D vwCl (wX aX adC adH adF adT r15.2.1 ++ (wC ty adC r25.2.1 ++ (wH ty adH adS r25.2.2 ++ wS ty adS r15.2.2.2.2))) H := hP
    have hD : va_D A (wX aX adC adH adF adT r15.2.1 ++ (wC ty adC r25.2.1 ++ (wH ty adH adS r25.2.2 ++ wS ty adS r15.2.2.2.2))) := hD
    refine lv_istore (lv' := [(4, .int r25.1), (3, .int r20), (2, .int r15.1), (0, .ref aX), (1, .int x1)]) hx hb dL_isBest_28 hl (by decide) rfl (fun ls hl => ?_)
    refine lv_iconst (v := 1) hx hb dL_isBest_30 (by decide) ?_
    refine lv_istore (lv' := [(5, .int (1 : Int32)), (4, .int r25.1), (3, .int r20), (2, .int r15.1), (0, .ref aX), (1, .int x1)]) hx hb dL_isBest_31 hl (by decide) rfl (fun ls hl => ?_)
    refine lv_iconst (v := 0) hx hb dL_isBest_33 (by decide) ?_
    refine lv_istore (lv' := [(6, .int (0 : Int32)), (5, .int (1 : Int32)), (4, .int r25.1), (3, .int r20), (2, .int r15.1), (0, .ref aX), (1, .int x1)]) hx hb dL_isBest_34 hl (by decide) rfl (fun ls hl => ?_)
    exact L36 x1 r20  kFu r15.2.1 r25.2.1 r25.2.2 r15.2.2.2.2 r25.1 (1 : Int32) (0 : Int32) h H locs ls hP hD hS (lv_sub hl [5, 6, 3, 2, 1, 0] rfl)
  have hl := lv_entry ([.ref aX]) (n := 7) (Nat.le_of_ble_eq_true rfl)
  rw [lg_entry_eq]
  generalize (lg_sl ([.ref aX]) ++ List.replicate (7 - (lg_sl ([.ref aX])).length) Slot.unset).toArray = ls at hl ⊢
  have hl : lv_has ls 7 [(0, .ref aX)] := hl
  unfold fL_isBest at h
  have E0 : ∀ (H : Heap) (locs : List Loc) (ls : Array Slot), va_P D vwCl (wX aX adC adH adF adT vX ++ (wC ty adC vC ++ (wH ty adH adS vH ++ wS ty adS vS))) H → va_D A (wX aX adC adH adF adT vX ++ (wC ty adC vC ++ (wH ty adH adS vH ++ wS ty adS vS))) → va_S A s.heap H locs → lv_has ls 7 [(0, .ref aX)] → W p l e (headSpec wsL_isBest { frames := 6, cells := 0, slots := 0, locals := 149 }).room s m ([.ref aX] : List Value).toArray below meth c H locs 0 0 Q (F0 m 0 ls []) := by
    intro H locs ls hP hD hS hl
    refine lv_aload_n hx hb dL_isBest_0 rfl (lv_at hl 0 rfl) ?_
    obtain ⟨r1, e1, h⟩ := kBd h
    refine kCallWI (As := []) (rest := []) (sg := [wX aX adC adH adF adT vX, wC ty adC vC, wH ty adH adS vH, wS ty adS vS]) (sc := [wX aX adC adH adF adT vX, wC ty adC vC]) (s1 := [wX aX adC adH adF adT vX, wC ty adC vC]) (sn := [wX aX adC adH adF adT vX, wC ty adC vC, wH ty adH adS vH, wS ty adS vS]) ⟨hx, hb, hml, hown, hts⟩ (cX4_bestFunction_ok l D ty aX adC adF adH adT H.size vX vC  r1 e1) (cwV 0 hts gL_isBest_X4_bestFunction rfl rfl rfl (by decide +kernel) ⟨Nat.le_of_ble_eq_true rfl, Nat.le_of_ble_eq_true rfl⟩) hP hK hD hS hA [0, 1] (by decide) rfl 4 0 rfl rfl rfl rfl hl.1 rfl (Nat.le_of_ble_eq_true rfl) dL_isBest_1 ⟨Nat.le_of_ble_eq_true rfl, Nat.le_of_ble_eq_true rfl⟩ rfl rfl (fun H locs hP hD hS => ?_)
    have hP : va_P D vwCl (wX aX adC adH adF adT vX ++ (wC ty adC vC ++ (wH ty adH adS vH ++ wS ty adS vS))) H := hP
    have hD : va_D A (wX aX adC adH adF adT vX ++ (wC ty adC vC ++ (wH ty adH adS vH ++ wS ty adS vS))) := hD
    refine lv_istore_n (lv' := [(1, .int r1), (0, .ref aX)]) hx hb dL_isBest_4 rfl hl (by decide) rfl (fun ls hl => ?_)
    refine lv_aload_n hx hb dL_isBest_5 rfl (lv_at hl 1 rfl) ?_
    refine lv_iload_n hx hb dL_isBest_6 rfl (lv_at hl 0 rfl) ?_
    refine lv_if_ge (tgt := 14) hx hb dL_isBest_7 (by decide) (fun c7 => ?_) (fun c7 => ?_)
    · have h := kT h c7
      refine lv_iload_n hx hb dL_isBest_14 rfl (lv_at hl 0 rfl) ?_
      exact J15 vX vC vH vS r1 r1 h H locs ls hP hD hS (lv_sub hl [1, 0] rfl)
    · have h := kF h c7
      refine lv_iconst (v := 0) hx hb dL_isBest_10 (by decide) ?_
      refine lv_goto (tgt := 15) hx hb dL_isBest_11 (by decide) ?_
      exact J15 vX vC vH vS r1 (0 : Int32) h H locs ls hP hD hS (lv_sub hl [1, 0] rfl)
  exact E0 s.heap [] ls hP hD hS hl
