def fX3_isWord_c32 (vT : KT) (q2 : Nat) (x1 : Int32) (x3 : Int32) (nx32 : Int32 → Option (Int32)) : Option (Int32) := if (nI (kLen.getD q2 0)) ≤ x3 then (some (1 : Int32)) else (if kIn x1 4 = true then ((fX3_at vT ((vT.2.2.2.1 x1.toNatClampNeg) + x3)).bind fun r49 => if kIn x3 (kLen.getD q2 0) = true then (if r49 = (kChr q2 x3.toNatClampNeg) then (nx32 (x3 + 1)) else (some (0 : Int32))) else none) else none)
def fX3_isWord (vT : KT) (p1 : Int32) (q2 : Nat) : Option (Int32) := (fX3_hasWord vT p1).bind fun r2 => if r2 = (0 : Int32) then (some (0 : Int32)) else (if kIn p1 4 = true then (if kIn p1 4 = true then (if ((vT.2.2.2.2 p1.toNatClampNeg) - (vT.2.2.2.1 p1.toNatClampNeg)) = (nI (kLen.getD q2 0)) then (kLoopC kFu (fun q nx32 => fX3_isWord_c32 vT q2 p1 q nx32) (0 : Int32)) else (some (0 : Int32))) else none) else none)
set_option maxHeartbeats 4000000 in
set_option maxRecDepth 100000 in
theorem cX3_isWord_ok (l : Launch) (D : va_G) (ty : kTy) (adK adV : Nat → Nat) (adT : Nat → Nat) (sz : Nat) (vT : KT) (p1 : Int32) (q2 : Nat) (hq2 : q2 < 12) (res : Int32) (h : fX3_isWord vT p1 q2 = some res) : kMIs l yX3_isWord wsX3_isWord { frames := 4, cells := 0, slots := 0, locals := 85 } [.ref (adT 0), .int p1, .ref (adK q2)] D ty adK adV (wT ty adT vT) sz res (wT ty adT vT) := by
  refine Met.ofW (cc := cX3_isWord) (maxL := 4) (ret := (some .boolean)) (by decide) rfl ?_
  intro p e s m args below meth c s₁ B hml hv
  obtain ⟨rfl, ⟨hsz, hP, hK, hD0⟩, hE⟩ := hv
  have hx := B.exec
  have hb := B.bytes
  have hr := B.returns
  have hts := atoms_spec (ws := wsX3_isWord) B.pre
  have hown : s.vm.findClass RX3 = some m.cls := findClass_of_methodNamed B.named
  have hlocks := B.notSynchronized
  subst hsz
  have hD := hD0.self (sz := s.heap.size)
  generalize hAe : va_A (wT ty adT vT) s.heap.size = A at hD hE ⊢
  have hA : ∀ q : Nat, s.heap.size ≤ q → A q := fun q h => by rw [← hAe]; exact Or.inr h
  have hS : va_S A s.heap s.heap [] := va_S.rf
  refine kGenW (fun Q hQ => ?_)
  have wf0 := hts (.fieldLink RX3 22 "IceCoreDater$Text" "starts" "[I") (by decide +kernel)
  have hinX3 : ∀ w ∈ wsX30, w ∈ wsX3_isWord := by decide +kernel
  have wf2 := hts (.fieldLink RX3 26 "IceCoreDater$Text" "ends" "[I") (by decide +kernel)
  have B32 : ∀ (x1 : Int32) (nx32 : Int32 → Option (Int32)) (hn32 : ∀ (x3 : Int32), nx32 x3 = some res → ∀ (H : Heap) (locs : List Loc) (ls : Array Slot), va_P D vwCl (wT ty adT vT) H → va_D A (wT ty adT vT) → va_S A s.heap H locs → lv_has ls 4 [(0, .ref (adT 0)), (1, .int x1), (2, .ref (adK q2)), (3, .int x3)] → W p l e (headSpec wsX3_isWord { frames := 4, cells := 0, slots := 0, locals := 85 }).room s m ([.ref (adT 0), .int p1, .ref (adK q2)] : List Value).toArray below meth c H locs 0 0 Q (F0 m 32 ls [])) (x3 : Int32), fX3_isWord_c32 vT q2 x1 x3 nx32 = some res → ∀ (H : Heap) (locs : List Loc) (ls : Array Slot), va_P D vwCl (wT ty adT vT) H → va_D A (wT ty adT vT) → va_S A s.heap H locs → lv_has ls 4 [(0, .ref (adT 0)), (1, .int x1), (2, .ref (adK q2)), (3, .int x3)] → W p l e (headSpec wsX3_isWord { frames := 4, cells := 0, slots := 0, locals := 85 }).room s m ([.ref (adT 0), .int p1, .ref (adK q2)] : List Value).toArray below meth c H locs 0 0 Q (F0 m 32 ls []) := by
    intro x1 nx32 hn32 x3 h H locs ls hP hD hS hl
    unfold fX3_isWord_c32 at h
    refine lv_iload_n hx hb dX3_isWord_32 rfl (lv_at hl 3 rfl) ?_
    refine lv_aload_n hx hb dX3_isWord_33 rfl (lv_at hl 2 rfl) ?_
    refine kCallKIs (As := []) (rest := [.int x3]) ⟨hx, hb, hml, hown, hts⟩ (cJ0_length_8abf5_ok l D ty adK adV H.size q2 hq2) (cwV 0 hts gX3_isWord_J0_length_8abf5 rfl rfl rfl (by decide +kernel) ⟨Nat.le_of_ble_eq_true rfl, Nat.le_of_ble_eq_true rfl⟩) (vk_recv hE.1 hq2 hS) hP hD hK hS hA hE rfl hl.1 rfl (Nat.le_of_ble_eq_true rfl) dX3_isWord_34 ⟨Nat.le_of_ble_eq_true rfl, Nat.le_of_ble_eq_true rfl⟩ (fun H locs hP hS => ?_)
    refine lv_icmp_ge (tgt := 68) hx hb dX3_isWord_37 (by decide) (fun c37 => ?_) (fun c37 => ?_)
    · have h := kT h c37
      refine lv_iconst (v := 1) hx hb dX3_isWord_68 (by decide) ?_
      obtain rfl := Option.some.inj h
      subst hQ
      exact W.zret (ty := .boolean) (v := (1 : Int32)) hx hb hr rfl (fun t ht hW => ⟨⟨(1 : Int32), (), rfl, rfl, kEnd ht hP⟩, hS.F ht⟩) hS.2.2 dX3_isWord_69
    · have h := kF h c37
      refine lv_aload_n hx hb dX3_isWord_40 rfl (lv_at hl 0 rfl) ?_
      refine lv_aload_n hx hb dX3_isWord_41 rfl (lv_at hl 0 rfl) ?_
      refine va_get (D := D) (ci := 3) (v := .ref (adT 2)) (C := RX3) (T := TX3) (N := 5) hx hb hts hinX3 hown hK.1 hP 0 rfl rfl 3 (by decide) wf0 (fun _ h9 => h9) rfl dX3_isWord_42 ?_
      refine lv_iload_n hx hb dX3_isWord_45 rfl (lv_at hl 1 rfl) ?_
      obtain ⟨b46, h⟩ := kIf h
      refine va_iald (f := vT.2.2.2.1) (n := 4) hx hb hK.1 hP 2 0 rfl rfl (kIn_ok b46) dX3_isWord_46 ?_
      refine lv_iload_n hx hb dX3_isWord_47 rfl (lv_at hl 3 rfl) ?_
      refine lv_iadd hx hb dX3_isWord_48 ?_
      obtain ⟨r49, e49, h⟩ := kBd h
      refine kCallVI (As := [.int ((vT.2.2.2.1 x1.toNatClampNeg) + x3)]) (rest := []) (wc := wT ty adT vT) (w1 := wT ty adT vT) (wn := wT ty adT vT) ⟨hx, hb, hml, hown, hts⟩ (cX3_at_ok l D ty adT H.size vT ((vT.2.2.2.1 x1.toNatClampNeg) + x3)  r49 e49) (cwV 1 hts gX3_isWord_X3_at rfl rfl rfl (by decide +kernel) ⟨Nat.le_of_ble_eq_true rfl, Nat.le_of_ble_eq_true rfl⟩) hP hK hD hS hA [0, 1, 2, 3] (by decide +kernel) rfl 3 0 rfl rfl rfl rfl hl.1 rfl (Nat.le_of_ble_eq_true rfl) dX3_isWord_49 ⟨Nat.le_of_ble_eq_true rfl, Nat.le_of_ble_eq_true rfl⟩ rfl rfl (fun H locs hP hD hS => ?_)
      refine lv_aload_n hx hb dX3_isWord_52 rfl (lv_at hl 2 rfl) ?_
      refine lv_iload_n hx hb dX3_isWord_53 rfl (lv_at hl 3 rfl) ?_
      obtain ⟨b54, h⟩ := kIf h
      refine kCallKIs (As := [.int x3]) (rest := [.int r49]) ⟨hx, hb, hml, hown, hts⟩ (cJ0_charAt_5068e_ok l D ty adK adV H.size q2 hq2 x3 b54) (cwV 1 hts gX3_isWord_J0_charAt_5068e rfl rfl rfl (by decide +kernel) ⟨Nat.le_of_ble_eq_true rfl, Nat.le_of_ble_eq_true rfl⟩) (vk_recv hE.1 hq2 hS) hP hD hK hS hA hE rfl hl.1 rfl (Nat.le_of_ble_eq_true rfl) dX3_isWord_54 ⟨Nat.le_of_ble_eq_true rfl, Nat.le_of_ble_eq_true rfl⟩ (fun H locs hP hS => ?_)
      refine lv_icmp_eq (tgt := 62) hx hb dX3_isWord_57 (by decide) (fun c57 => ?_) (fun c57 => ?_)
      · have h := kT h c57
        refine lv_iinc (v := (x3 + 1)) (lv' := [(3, .int (x3 + 1)), (0, .ref (adT 0)), (1, .int x1), (2, .ref (adK q2))]) hx hb dX3_isWord_62 hl (k := 3) rfl rfl (by decide) rfl (fun ls hl => ?_)
        refine lv_goto (tgt := 32) hx hb dX3_isWord_65 (by decide) ?_
        exact hn32 (x3 + 1) h H locs ls hP hD hS (lv_sub hl [1, 2, 3, 0] rfl)
      · have h := kF h c57
        refine lv_iconst (v := 0) hx hb dX3_isWord_60 (by decide) ?_
        obtain rfl := Option.some.inj h
        subst hQ
        exact W.zret (ty := .boolean) (v := (0 : Int32)) hx hb hr rfl (fun t ht hW => ⟨⟨(0 : Int32), (), rfl, rfl, kEnd ht hP⟩, hS.F ht⟩) hS.2.2 dX3_isWord_61
  have L32 : ∀ (x1 : Int32) (n : Nat) (x3 : Int32), kLoopC n (fun q nx32 => fX3_isWord_c32 vT q2 x1 q nx32) x3 = some res → ∀ (H : Heap) (locs : List Loc) (ls : Array Slot), va_P D vwCl (wT ty adT vT) H → va_D A (wT ty adT vT) → va_S A s.heap H locs → lv_has ls 4 [(0, .ref (adT 0)), (1, .int x1), (2, .ref (adK q2)), (3, .int x3)] → W p l e (headSpec wsX3_isWord { frames := 4, cells := 0, slots := 0, locals := 85 }).room s m ([.ref (adT 0), .int p1, .ref (adK q2)] : List Value).toArray below meth c H locs 0 0 Q (F0 m 32 ls []) := by
    intro x1 n
    induction n with
    | zero => intro x3 h; exact absurd h (by simp [kLoopC])
    | succ n ih => intro x3 h; exact B32 x1 (kLoopC n (fun q nx32 => fX3_isWord_c32 vT q2 x1 q nx32)) ih x3 h
  have hl := lv_entry ([.ref (adT 0), .int p1, .ref (adK q2)]) (n := 4) (Nat.le_of_ble_eq_true rfl)
  rw [lg_entry_eq]
  generalize (lg_sl ([.ref (adT 0), .int p1, .ref (adK q2)]) ++ List.replicate (4 - (lg_sl ([.ref (adT 0), .int p1, .ref (adK q2)])).length) Slot.unset).toArray = ls at hl ⊢
  have hl : lv_has ls 4 [(0, .ref (adT 0)), (1, .int p1), (2, .ref (adK q2))] := hl
  unfold fX3_isWord at h
  have E0 : ∀ (H : Heap) (locs : List Loc) (ls : Array Slot), va_P D vwCl (wT ty adT vT) H → va_D A (wT ty adT vT) → va_S A s.heap H locs → lv_has ls 4 [(0, .ref (adT 0)), (1, .int p1), (2, .ref (adK q2))] → W p l e (headSpec wsX3_isWord { frames := 4, cells := 0, slots := 0, locals := 85 }).room s m ([.ref (adT 0), .int p1, .ref (adK q2)] : List Value).toArray below meth c H locs 0 0 Q (F0 m 0 ls []) := by
    intro H locs ls hP hD hS hl
    refine lv_aload_n hx hb dX3_isWord_0 rfl (lv_at hl 0 rfl) ?_
    refine lv_iload_n hx hb dX3_isWord_1 rfl (lv_at hl 1 rfl) ?_
    obtain ⟨r2, e2, h⟩ := kBd h
    refine kCallVI (As := [.int p1]) (rest := []) (wc := wT ty adT vT) (w1 := wT ty adT vT) (wn := wT ty adT vT) ⟨hx, hb, hml, hown, hts⟩ (cX3_hasWord_ok l D ty adT H.size vT p1  r2 e2) (cwV 1 hts gX3_isWord_X3_hasWord rfl rfl rfl (by decide +kernel) ⟨Nat.le_of_ble_eq_true rfl, Nat.le_of_ble_eq_true rfl⟩) hP hK hD hS hA [0, 1, 2, 3] (by decide +kernel) rfl 3 0 rfl rfl rfl rfl hl.1 rfl (Nat.le_of_ble_eq_true rfl) dX3_isWord_2 ⟨Nat.le_of_ble_eq_true rfl, Nat.le_of_ble_eq_true rfl⟩ rfl rfl (fun H locs hP hD hS => ?_)
    refine lv_if_eq (tgt := 28) hx hb dX3_isWord_5 (by decide) (fun c5 => ?_) (fun c5 => ?_)
    · have h := kT h c5
      refine lv_iconst (v := 0) hx hb dX3_isWord_28 (by decide) ?_
      obtain rfl := Option.some.inj h
      subst hQ
      exact W.zret (ty := .boolean) (v := (0 : Int32)) hx hb hr rfl (fun t ht hW => ⟨⟨(0 : Int32), (), rfl, rfl, kEnd ht hP⟩, hS.F ht⟩) hS.2.2 dX3_isWord_29
    · have h := kF h c5
      refine lv_aload_n hx hb dX3_isWord_8 rfl (lv_at hl 0 rfl) ?_
      refine va_get (D := D) (ci := 3) (v := .ref (adT 3)) (C := RX3) (T := TX3) (N := 5) hx hb hts hinX3 hown hK.1 hP 0 rfl rfl 4 (by decide) wf2 (fun _ h9 => h9) rfl dX3_isWord_9 ?_
      refine lv_iload_n hx hb dX3_isWord_12 rfl (lv_at hl 1 rfl) ?_
      obtain ⟨b13, h⟩ := kIf h
      refine va_iald (f := vT.2.2.2.2) (n := 4) hx hb hK.1 hP 3 0 rfl rfl (kIn_ok b13) dX3_isWord_13 ?_
      refine lv_aload_n hx hb dX3_isWord_14 rfl (lv_at hl 0 rfl) ?_
      refine va_get (D := D) (ci := 3) (v := .ref (adT 2)) (C := RX3) (T := TX3) (N := 5) hx hb hts hinX3 hown hK.1 hP 0 rfl rfl 3 (by decide) wf0 (fun _ h9 => h9) rfl dX3_isWord_15 ?_
      refine lv_iload_n hx hb dX3_isWord_18 rfl (lv_at hl 1 rfl) ?_
      obtain ⟨b19, h⟩ := kIf h
      refine va_iald (f := vT.2.2.2.1) (n := 4) hx hb hK.1 hP 2 0 rfl rfl (kIn_ok b19) dX3_isWord_19 ?_
      refine lv_isub hx hb dX3_isWord_20 ?_
      refine lv_aload_n hx hb dX3_isWord_21 rfl (lv_at hl 2 rfl) ?_
      refine kCallKIs (As := []) (rest := [.int ((vT.2.2.2.2 p1.toNatClampNeg) - (vT.2.2.2.1 p1.toNatClampNeg))]) ⟨hx, hb, hml, hown, hts⟩ (cJ0_length_8abf5_ok l D ty adK adV H.size q2 hq2) (cwV 0 hts gX3_isWord_J0_length_8abf5 rfl rfl rfl (by decide +kernel) ⟨Nat.le_of_ble_eq_true rfl, Nat.le_of_ble_eq_true rfl⟩) (vk_recv hE.1 hq2 hS) hP hD hK hS hA hE rfl hl.1 rfl (Nat.le_of_ble_eq_true rfl) dX3_isWord_22 ⟨Nat.le_of_ble_eq_true rfl, Nat.le_of_ble_eq_true rfl⟩ (fun H locs hP hS => ?_)
      refine lv_icmp_eq (tgt := 30) hx hb dX3_isWord_25 (by decide) (fun c25 => ?_) (fun c25 => ?_)
      · have h := kT h c25
        refine lv_iconst (v := 0) hx hb dX3_isWord_30 (by decide) ?_
        refine lv_istore_n (lv' := [(3, .int (0 : Int32)), (0, .ref (adT 0)), (1, .int p1), (2, .ref (adK q2))]) hx hb dX3_isWord_31 rfl hl (by decide) rfl (fun ls hl => ?_)
        exact L32 p1  kFu (0 : Int32) h H locs ls hP hD hS (lv_sub hl [1, 2, 3, 0] rfl)
      · have h := kF h c25
        refine lv_iconst (v := 0) hx hb dX3_isWord_28 (by decide) ?_
        obtain rfl := Option.some.inj h
        subst hQ
        exact W.zret (ty := .boolean) (v := (0 : Int32)) hx hb hr rfl (fun t ht hW => ⟨⟨(0 : Int32), (), rfl, rfl, kEnd ht hP⟩, hS.F ht⟩) hS.2.2 dX3_isWord_29
  exact E0 s.heap [] ls hP hD hS hl
def fX4_executeUse (vX : KX) (vC : KC) (vT : KT) : Option (Int32 × KC) := if ¬ vT.2.1 = (2 : Int32) then (some ((-1000000006 : Int32), vC)) else ((fX3_isWord vT (0 : Int32) 8).bind fun r18 => if ¬ r18 = (0 : Int32) then ((fX3_isWord vT (1 : Int32) 9).bind fun r34 => if r34 = (0 : Int32) then ((fX3_isWord vT (1 : Int32) 10).bind fun r56 => if r56 = (0 : Int32) then ((fX3_isWord vT (1 : Int32) 11).bind fun r78 => if r78 = (0 : Int32) then (some ((-1000000006 : Int32), vC)) else ((fX0_putFunction vC (2 : Int32)).bind fun r89 => some (r89.1, r89.2))) else ((fX0_putFunction vC (1 : Int32)).bind fun r67 => some (r67.1, r67.2))) else ((fX0_putFunction vC (0 : Int32)).bind fun r45 => some (r45.1, r45.2))) else (some ((-1000000006 : Int32), vC)))
set_option maxHeartbeats 4000000 in
set_option maxRecDepth 100000 in
theorem cX4_executeUse_ok (l : Launch) (D : va_G) (ty : kTy) (adK adV : Nat → Nat) (aX : Nat) (adC adF adH adT : Nat → Nat) (sz : Nat) (vX : KX) (vC : KC) (vT : KT)  (res : Int32 × KC) (h : fX4_executeUse vX vC vT = some res) : kMIs l yX4_executeUse wsX4_executeUse { frames := 5, cells := 0, slots := 0, locals := 108 } [.ref aX] D ty adK adV (wX aX adC adH adF adT vX ++ (wC ty adC vC ++ wT ty adT vT)) sz res.1 (wX aX adC adH adF adT vX ++ (wC ty adC res.2 ++ wT ty adT vT)) := by
  refine Met.ofW (cc := cX4_executeUse) (maxL := 1) (ret := (some .int)) (by decide) rfl ?_
  intro p e s m args below meth c s₁ B hml hv
  obtain ⟨rfl, ⟨hsz, hP, hK, hD0⟩, hE⟩ := hv
  have hx := B.exec
  have hb := B.bytes
  have hr := B.returns
  have hts := atoms_spec (ws := wsX4_executeUse) B.pre
  have hown : s.vm.findClass RX4 = some m.cls := findClass_of_methodNamed B.named
  have hlocks := B.notSynchronized
  subst hsz
  have hD := hD0.self (sz := s.heap.size)
  generalize hAe : va_A (wX aX adC adH adF adT vX ++ (wC ty adC vC ++ wT ty adT vT)) s.heap.size = A at hD hE ⊢
  have hA : ∀ q : Nat, s.heap.size ≤ q → A q := fun q h => by rw [← hAe]; exact Or.inr h
  have hS : va_S A s.heap s.heap [] := va_S.rf
  refine kGenW (fun Q hQ => ?_)
  have wf0 := hts (.fieldLink RX4 33 "IceCoreDater" "text" "LIceCoreDater$Text;") (by decide +kernel)
  have hinX4 : ∀ w ∈ wsX40, w ∈ wsX4_executeUse := by decide +kernel
  have wf2 := hts (.fieldLink RX4 240 "IceCoreDater$Text" "words" "I") (by decide +kernel)
  have hinX3 : ∀ w ∈ wsX30, w ∈ wsX4_executeUse := by decide +kernel
  have wf4 := hts (.constant RX4 214 (-1000000006)) (by decide +kernel)
  have wf5 := hts (.fieldLink RX4 10 "IceCoreDater" "core" "LIceCoreDater$Core;") (by decide +kernel)
  have hl := lv_entry ([.ref aX]) (n := 1) (Nat.le_of_ble_eq_true rfl)
  rw [lg_entry_eq]
  generalize (lg_sl ([.ref aX]) ++ List.replicate (1 - (lg_sl ([.ref aX])).length) Slot.unset).toArray = ls at hl ⊢
  have hl : lv_has ls 1 [(0, .ref aX)] := hl
  unfold fX4_executeUse at h
  have E0 : ∀ (H : Heap) (locs : List Loc) (ls : Array Slot), va_P D vwCl (wX aX adC adH adF adT vX ++ (wC ty adC vC ++ wT ty adT vT)) H → va_D A (wX aX adC adH adF adT vX ++ (wC ty adC vC ++ wT ty adT vT)) → va_S A s.heap H locs → lv_has ls 1 [(0, .ref aX)] → W p l e (headSpec wsX4_executeUse { frames := 5, cells := 0, slots := 0, locals := 108 }).room s m ([.ref aX] : List Value).toArray below meth c H locs 0 0 Q (F0 m 0 ls []) := by
    intro H locs ls hP hD hS hl
    refine lv_aload_n hx hb dX4_executeUse_0 rfl (lv_at hl 0 rfl) ?_
    refine va_get (D := D) (ci := 4) (v := .ref (adT 0)) (C := RX4) (T := TX4) (N := 6) hx hb hts hinX4 hown hK.1 hP 0 rfl rfl 3 (by decide) wf0 (fun _ h9 => h9) rfl dX4_executeUse_1 ?_
    refine va_get (D := D) (ci := 3) (v := .int vT.2.1) (C := RX3) (T := TX3) (N := 5) hx hb hts hinX3 hown hK.1 hP 9 rfl rfl 1 (by decide) wf2 (fun _ h9 => h9) rfl dX4_executeUse_4 ?_
    refine lv_iconst (v := 2) hx hb dX4_executeUse_7 (by decide) ?_
    refine lv_icmp_ne (tgt := 24) hx hb dX4_executeUse_8 (by decide) (fun c8 => ?_) (fun c8 => ?_)
    · have h := kT h c8
      refine lv_ldc hx hb hown wf4 dX4_executeUse_24 ?_
      obtain rfl := Option.some.inj h
      subst hQ
      exact W.iret (v := (-1000000006 : Int32)) hx hb hr (fun t ht hW => ⟨⟨(-1000000006 : Int32), (), rfl, rfl, kEnd ht hP⟩, hS.F ht⟩) hS.2.2 dX4_executeUse_26
    · have h := kF h (fun z => z c8)
      refine lv_aload_n hx hb dX4_executeUse_11 rfl (lv_at hl 0 rfl) ?_
      refine va_get (D := D) (ci := 4) (v := .ref (adT 0)) (C := RX4) (T := TX4) (N := 6) hx hb hts hinX4 hown hK.1 hP 0 rfl rfl 3 (by decide) wf0 (fun _ h9 => h9) rfl dX4_executeUse_12 ?_
      refine lv_iconst (v := 0) hx hb dX4_executeUse_15 (by decide) ?_
      refine va_ldcS hx hb hown hE.2.2.2.2.2.2.2.2.2.2.2.1 dX4_executeUse_16 ?_
      obtain ⟨r18, e18, h⟩ := kBd h
      refine kCallVIs (As := [.int (0 : Int32), .ref (adK 8)]) (rest := []) (wc := wT ty adT vT) (w1 := wT ty adT vT) (wn := wX aX adC adH adF adT vX ++ (wC ty adC vC ++ wT ty adT vT)) ⟨hx, hb, hml, hown, hts⟩ (cX3_isWord_ok l D ty adK adV adT H.size vT (0 : Int32) 8 (by decide) r18 e18) (cwV 2 hts gX4_executeUse_X3_isWord rfl rfl rfl (by decide +kernel) ⟨Nat.le_of_ble_eq_true rfl, Nat.le_of_ble_eq_true rfl⟩) hP hD hK hS hA hE [9, 10, 11, 12] (by decide +kernel) rfl 3 9 rfl rfl rfl rfl hl.1 rfl (Nat.le_of_ble_eq_true rfl) dX4_executeUse_18 ⟨Nat.le_of_ble_eq_true rfl, Nat.le_of_ble_eq_true rfl⟩ rfl rfl (fun H locs hP hD hS => ?_)
      refine lv_if_ne (tgt := 27) hx hb dX4_executeUse_21 (by decide) (fun c21 => ?_) (fun c21 => ?_)
      · have h := kT h c21
        refine lv_aload_n hx hb dX4_executeUse_27 rfl (lv_at hl 0 rfl) ?_
        refine va_get (D := D) (ci := 4) (v := .ref (adT 0)) (C := RX4) (T := TX4) (N := 6) hx hb hts hinX4 hown hK.1 hP 0 rfl rfl 3 (by decide) wf0 (fun _ h9 => h9) rfl dX4_executeUse_28 ?_
        refine lv_iconst (v := 1) hx hb dX4_executeUse_31 (by decide) ?_
        refine va_ldcS hx hb hown hE.2.2.2.2.2.2.2.2.2.2.2.2.1 dX4_executeUse_32 ?_
        obtain ⟨r34, e34, h⟩ := kBd h
        refine kCallVIs (As := [.int (1 : Int32), .ref (adK 9)]) (rest := []) (wc := wT ty adT vT) (w1 := wT ty adT vT) (wn := wX aX adC adH adF adT vX ++ (wC ty adC vC ++ wT ty adT vT)) ⟨hx, hb, hml, hown, hts⟩ (cX3_isWord_ok l D ty adK adV adT H.size vT (1 : Int32) 9 (by decide) r34 e34) (cwV 2 hts gX4_executeUse_X3_isWord rfl rfl rfl (by decide +kernel) ⟨Nat.le_of_ble_eq_true rfl, Nat.le_of_ble_eq_true rfl⟩) hP hD hK hS hA hE [9, 10, 11, 12] (by decide +kernel) rfl 3 9 rfl rfl rfl rfl hl.1 rfl (Nat.le_of_ble_eq_true rfl) dX4_executeUse_34 ⟨Nat.le_of_ble_eq_true rfl, Nat.le_of_ble_eq_true rfl⟩ rfl rfl (fun H locs hP hD hS => ?_)
        refine lv_if_eq (tgt := 49) hx hb dX4_executeUse_37 (by decide) (fun c37 => ?_) (fun c37 => ?_)
        · have h := kT h c37
          refine lv_aload_n hx hb dX4_executeUse_49 rfl (lv_at hl 0 rfl) ?_
          refine va_get (D := D) (ci := 4) (v := .ref (adT 0)) (C := RX4) (T := TX4) (N := 6) hx hb hts hinX4 hown hK.1 hP 0 rfl rfl 3 (by decide) wf0 (fun _ h9 => h9) rfl dX4_executeUse_50 ?_
          refine lv_iconst (v := 1) hx hb dX4_executeUse_53 (by decide) ?_
          refine va_ldcS hx hb hown hE.2.2.2.2.2.2.2.2.2.2.2.2.2.1 dX4_executeUse_54 ?_
          obtain ⟨r56, e56, h⟩ := kBd h
          refine kCallVIs (As := [.int (1 : Int32), .ref (adK 10)]) (rest := []) (wc := wT ty adT vT) (w1 := wT ty adT vT) (wn := wX aX adC adH adF adT vX ++ (wC ty adC vC ++ wT ty adT vT)) ⟨hx, hb, hml, hown, hts⟩ (cX3_isWord_ok l D ty adK adV adT H.size vT (1 : Int32) 10 (by decide) r56 e56) (cwV 2 hts gX4_executeUse_X3_isWord rfl rfl rfl (by decide +kernel) ⟨Nat.le_of_ble_eq_true rfl, Nat.le_of_ble_eq_true rfl⟩) hP hD hK hS hA hE [9, 10, 11, 12] (by decide +kernel) rfl 3 9 rfl rfl rfl rfl hl.1 rfl (Nat.le_of_ble_eq_true rfl) dX4_executeUse_56 ⟨Nat.le_of_ble_eq_true rfl, Nat.le_of_ble_eq_true rfl⟩ rfl rfl (fun H locs hP hD hS => ?_)
          refine lv_if_eq (tgt := 71) hx hb dX4_executeUse_59 (by decide) (fun c59 => ?_) (fun c59 => ?_)
          · have h := kT h c59
            refine lv_aload_n hx hb dX4_executeUse_71 rfl (lv_at hl 0 rfl) ?_
            refine va_get (D := D) (ci := 4) (v := .ref (adT 0)) (C := RX4) (T := TX4) (N := 6) hx hb hts hinX4 hown hK.1 hP 0 rfl rfl 3 (by decide) wf0 (fun _ h9 => h9) rfl dX4_executeUse_72 ?_
            refine lv_iconst (v := 1) hx hb dX4_executeUse_75 (by decide) ?_
            refine va_ldcS hx hb hown hE.2.2.2.2.2.2.2.2.2.2.2.2.2.2 dX4_executeUse_76 ?_
            obtain ⟨r78, e78, h⟩ := kBd h
            refine kCallVIs (As := [.int (1 : Int32), .ref (adK 11)]) (rest := []) (wc := wT ty adT vT) (w1 := wT ty adT vT) (wn := wX aX adC adH adF adT vX ++ (wC ty adC vC ++ wT ty adT vT)) ⟨hx, hb, hml, hown, hts⟩ (cX3_isWord_ok l D ty adK adV adT H.size vT (1 : Int32) 11 (by decide) r78 e78) (cwV 2 hts gX4_executeUse_X3_isWord rfl rfl rfl (by decide +kernel) ⟨Nat.le_of_ble_eq_true rfl, Nat.le_of_ble_eq_true rfl⟩) hP hD hK hS hA hE [9, 10, 11, 12] (by decide +kernel) rfl 3 9 rfl rfl rfl rfl hl.1 rfl (Nat.le_of_ble_eq_true rfl) dX4_executeUse_78 ⟨Nat.le_of_ble_eq_true rfl, Nat.le_of_ble_eq_true rfl⟩ rfl rfl (fun H locs hP hD hS => ?_)
            refine lv_if_eq (tgt := 93) hx hb dX4_executeUse_81 (by decide) (fun c81 => ?_) (fun c81 => ?_)
            · have h := kT h c81
              refine lv_ldc hx hb hown wf4 dX4_executeUse_93 ?_
              obtain rfl := Option.some.inj h
              subst hQ
              exact W.iret (v := (-1000000006 : Int32)) hx hb hr (fun t ht hW => ⟨⟨(-1000000006 : Int32), (), rfl, rfl, kEnd ht hP⟩, hS.F ht⟩) hS.2.2 dX4_executeUse_95
            · have h := kF h c81
              refine lv_aload_n hx hb dX4_executeUse_84 rfl (lv_at hl 0 rfl) ?_
              refine va_get (D := D) (ci := 4) (v := .ref (adC 0)) (C := RX4) (T := TX4) (N := 6) hx hb hts hinX4 hown hK.1 hP 0 rfl rfl 0 (by decide) wf5 (fun _ h9 => h9) rfl dX4_executeUse_85 ?_
              refine lv_iconst (v := 2) hx hb dX4_executeUse_88 (by decide) ?_
              obtain ⟨r89, e89, h⟩ := kBd h
              refine kCallVI (As := [.int (2 : Int32)]) (rest := []) (wc := wC ty adC vC) (w1 := wC ty adC r89.2) (wn := wX aX adC adH adF adT vX ++ (wC ty adC r89.2 ++ wT ty adT vT)) ⟨hx, hb, hml, hown, hts⟩ (cX0_putFunction_ok l D ty adC H.size vC (2 : Int32)  r89 e89) (cwV 1 hts gX4_executeUse_X0_putFunction rfl rfl rfl (by decide +kernel) ⟨Nat.le_of_ble_eq_true rfl, Nat.le_of_ble_eq_true rfl⟩) hP hK hD hS hA [1, 2, 3, 4, 5, 6, 7, 8] (by decide +kernel) rfl 0 1 rfl rfl rfl rfl hl.1 rfl (Nat.le_of_ble_eq_true rfl) dX4_executeUse_89 ⟨Nat.le_of_ble_eq_true rfl, Nat.le_of_ble_eq_true rfl⟩ rfl rfl (fun H locs hP hD hS => ?_)
              obtain rfl := Option.some.inj h
              subst hQ
              exact W.iret (v := r89.1) hx hb hr (fun t ht hW => ⟨⟨r89.1, (), rfl, rfl, kEnd ht hP⟩, hS.F ht⟩) hS.2.2 dX4_executeUse_92
          · have h := kF h c59
            refine lv_aload_n hx hb dX4_executeUse_62 rfl (lv_at hl 0 rfl) ?_
            refine va_get (D := D) (ci := 4) (v := .ref (adC 0)) (C := RX4) (T := TX4) (N := 6) hx hb hts hinX4 hown hK.1 hP 0 rfl rfl 0 (by decide) wf5 (fun _ h9 => h9) rfl dX4_executeUse_63 ?_
            refine lv_iconst (v := 1) hx hb dX4_executeUse_66 (by decide) ?_
            obtain ⟨r67, e67, h⟩ := kBd h
            refine kCallVI (As := [.int (1 : Int32)]) (rest := []) (wc := wC ty adC vC) (w1 := wC ty adC r67.2) (wn := wX aX adC adH adF adT vX ++ (wC ty adC r67.2 ++ wT ty adT vT)) ⟨hx, hb, hml, hown, hts⟩ (cX0_putFunction_ok l D ty adC H.size vC (1 : Int32)  r67 e67) (cwV 1 hts gX4_executeUse_X0_putFunction rfl rfl rfl (by decide +kernel) ⟨Nat.le_of_ble_eq_true rfl, Nat.le_of_ble_eq_true rfl⟩) hP hK hD hS hA [1, 2, 3, 4, 5, 6, 7, 8] (by decide +kernel) rfl 0 1 rfl rfl rfl rfl hl.1 rfl (Nat.le_of_ble_eq_true rfl) dX4_executeUse_67 ⟨Nat.le_of_ble_eq_true rfl, Nat.le_of_ble_eq_true rfl⟩ rfl rfl (fun H locs hP hD hS => ?_)
            obtain rfl := Option.some.inj h
            subst hQ
            exact W.iret (v := r67.1) hx hb hr (fun t ht hW => ⟨⟨r67.1, (), rfl, rfl, kEnd ht hP⟩, hS.F ht⟩) hS.2.2 dX4_executeUse_70
        · have h := kF h c37
          refine lv_aload_n hx hb dX4_executeUse_40 rfl (lv_at hl 0 rfl) ?_
          refine va_get (D := D) (ci := 4) (v := .ref (adC 0)) (C := RX4) (T := TX4) (N := 6) hx hb hts hinX4 hown hK.1 hP 0 rfl rfl 0 (by decide) wf5 (fun _ h9 => h9) rfl dX4_executeUse_41 ?_
          refine lv_iconst (v := 0) hx hb dX4_executeUse_44 (by decide) ?_
          obtain ⟨r45, e45, h⟩ := kBd h
          refine kCallVI (As := [.int (0 : Int32)]) (rest := []) (wc := wC ty adC vC) (w1 := wC ty adC r45.2) (wn := wX aX adC adH adF adT vX ++ (wC ty adC r45.2 ++ wT ty adT vT)) ⟨hx, hb, hml, hown, hts⟩ (cX0_putFunction_ok l D ty adC H.size vC (0 : Int32)  r45 e45) (cwV 1 hts gX4_executeUse_X0_putFunction rfl rfl rfl (by decide +kernel) ⟨Nat.le_of_ble_eq_true rfl, Nat.le_of_ble_eq_true rfl⟩) hP hK hD hS hA [1, 2, 3, 4, 5, 6, 7, 8] (by decide +kernel) rfl 0 1 rfl rfl rfl rfl hl.1 rfl (Nat.le_of_ble_eq_true rfl) dX4_executeUse_45 ⟨Nat.le_of_ble_eq_true rfl, Nat.le_of_ble_eq_true rfl⟩ rfl rfl (fun H locs hP hD hS => ?_)
          obtain rfl := Option.some.inj h
          subst hQ
          exact W.iret (v := r45.1) hx hb hr (fun t ht hW => ⟨⟨r45.1, (), rfl, rfl, kEnd ht hP⟩, hS.F ht⟩) hS.2.2 dX4_executeUse_48
      · have h := kF h (fun z => z c21)
        refine lv_ldc hx hb hown wf4 dX4_executeUse_24 ?_
        obtain rfl := Option.some.inj h
        subst hQ
        exact W.iret (v := (-1000000006 : Int32)) hx hb hr (fun t ht hW => ⟨⟨(-1000000006 : Int32), (), rfl, rfl, kEnd ht hP⟩, hS.F ht⟩) hS.2.2 dX4_executeUse_26
  exact E0 s.heap [] ls hP hD hS hl
def fX3_isCommand_c23 (vT : KT) (q1 : Nat) (x2 : Int32) (x3 : Int32) (nx23 : Int32 → Option (Int32)) : Option (Int32) := if x2 < x3 then (some (1 : Int32)) else ((fX3_isNumber vT x3).bind fun r30 => if ¬ r30 = (0 : Int32) then (nx23 (x3 + 1)) else (some (0 : Int32)))
def fX3_isCommand (vT : KT) (q1 : Nat) (p2 : Int32) : Option (Int32) := if ¬ vT.2.1 = (p2 + (1 : Int32)) then (some (0 : Int32)) else ((fX3_isWord vT (0 : Int32) q1).bind fun r13 => if ¬ r13 = (0 : Int32) then (kLoopC kFu (fun q nx23 => fX3_isCommand_c23 vT q1 p2 q nx23) (1 : Int32)) else (some (0 : Int32)))
set_option maxHeartbeats 4000000 in
set_option maxRecDepth 100000 in
theorem cX3_isCommand_ok (l : Launch) (D : va_G) (ty : kTy) (adK adV : Nat → Nat) (adT : Nat → Nat) (sz : Nat) (vT : KT) (q1 : Nat) (p2 : Int32) (hq1 : q1 < 12) (res : Int32) (h : fX3_isCommand vT q1 p2 = some res) : kMIs l yX3_isCommand wsX3_isCommand { frames := 5, cells := 0, slots := 0, locals := 108 } [.ref (adT 0), .ref (adK q1), .int p2] D ty adK adV (wT ty adT vT) sz res (wT ty adT vT) := by
  refine Met.ofW (cc := cX3_isCommand) (maxL := 4) (ret := (some .boolean)) (by decide) rfl ?_
  intro p e s m args below meth c s₁ B hml hv
  obtain ⟨rfl, ⟨hsz, hP, hK, hD0⟩, hE⟩ := hv
  have hx := B.exec
  have hb := B.bytes
  have hr := B.returns
  have hts := atoms_spec (ws := wsX3_isCommand) B.pre
  have hown : s.vm.findClass RX3 = some m.cls := findClass_of_methodNamed B.named
  have hlocks := B.notSynchronized
  subst hsz
  have hD := hD0.self (sz := s.heap.size)
  generalize hAe : va_A (wT ty adT vT) s.heap.size = A at hD hE ⊢
  have hA : ∀ q : Nat, s.heap.size ≤ q → A q := fun q h => by rw [← hAe]; exact Or.inr h
  have hS : va_S A s.heap s.heap [] := va_S.rf
  refine kGenW (fun Q hQ => ?_)
  have wf0 := hts (.fieldLink RX3 15 "IceCoreDater$Text" "words" "I") (by decide +kernel)
  have hinX3 : ∀ w ∈ wsX30, w ∈ wsX3_isCommand := by decide +kernel
  have B23 : ∀ (x2 : Int32) (nx23 : Int32 → Option (Int32)) (hn23 : ∀ (x3 : Int32), nx23 x3 = some res → ∀ (H : Heap) (locs : List Loc) (ls : Array Slot), va_P D vwCl (wT ty adT vT) H → va_D A (wT ty adT vT) → va_S A s.heap H locs → lv_has ls 4 [(0, .ref (adT 0)), (2, .int x2), (3, .int x3)] → W p l e (headSpec wsX3_isCommand { frames := 5, cells := 0, slots := 0, locals := 108 }).room s m ([.ref (adT 0), .ref (adK q1), .int p2] : List Value).toArray below meth c H locs 0 0 Q (F0 m 23 ls [])) (x3 : Int32), fX3_isCommand_c23 vT q1 x2 x3 nx23 = some res → ∀ (H : Heap) (locs : List Loc) (ls : Array Slot), va_P D vwCl (wT ty adT vT) H → va_D A (wT ty adT vT) → va_S A s.heap H locs → lv_has ls 4 [(0, .ref (adT 0)), (2, .int x2), (3, .int x3)] → W p l e (headSpec wsX3_isCommand { frames := 5, cells := 0, slots := 0, locals := 108 }).room s m ([.ref (adT 0), .ref (adK q1), .int p2] : List Value).toArray below meth c H locs 0 0 Q (F0 m 23 ls []) := by
    intro x2 nx23 hn23 x3 h H locs ls hP hD hS hl
    unfold fX3_isCommand_c23 at h
    refine lv_iload_n hx hb dX3_isCommand_23 rfl (lv_at hl 2 rfl) ?_
    refine lv_iload_n hx hb dX3_isCommand_24 rfl (lv_at hl 1 rfl) ?_
    refine lv_icmp_gt (tgt := 44) hx hb dX3_isCommand_25 (by decide) (fun c25 => ?_) (fun c25 => ?_)
    · have h := kT h c25
      refine lv_iconst (v := 1) hx hb dX3_isCommand_44 (by decide) ?_
      obtain rfl := Option.some.inj h
      subst hQ
      exact W.zret (ty := .boolean) (v := (1 : Int32)) hx hb hr rfl (fun t ht hW => ⟨⟨(1 : Int32), (), rfl, rfl, kEnd ht hP⟩, hS.F ht⟩) hS.2.2 dX3_isCommand_45
    · have h := kF h c25
      refine lv_aload_n hx hb dX3_isCommand_28 rfl (lv_at hl 0 rfl) ?_
      refine lv_iload_n hx hb dX3_isCommand_29 rfl (lv_at hl 2 rfl) ?_
      obtain ⟨r30, e30, h⟩ := kBd h
      refine kCallVI (As := [.int x3]) (rest := []) (wc := wT ty adT vT) (w1 := wT ty adT vT) (wn := wT ty adT vT) ⟨hx, hb, hml, hown, hts⟩ (cX3_isNumber_ok l D ty adT H.size vT x3  r30 e30) (cwV 1 hts gX3_isCommand_X3_isNumber rfl rfl rfl (by decide +kernel) ⟨Nat.le_of_ble_eq_true rfl, Nat.le_of_ble_eq_true rfl⟩) hP hK hD hS hA [0, 1, 2, 3] (by decide +kernel) rfl 3 0 rfl rfl rfl rfl hl.1 rfl (Nat.le_of_ble_eq_true rfl) dX3_isCommand_30 ⟨Nat.le_of_ble_eq_true rfl, Nat.le_of_ble_eq_true rfl⟩ rfl rfl (fun H locs hP hD hS => ?_)
      refine lv_if_ne (tgt := 38) hx hb dX3_isCommand_33 (by decide) (fun c33 => ?_) (fun c33 => ?_)
      · have h := kT h c33
        refine lv_iinc (v := (x3 + 1)) (lv' := [(3, .int (x3 + 1)), (0, .ref (adT 0)), (2, .int x2)]) hx hb dX3_isCommand_38 hl (k := 2) rfl rfl (by decide) rfl (fun ls hl => ?_)
        refine lv_goto (tgt := 23) hx hb dX3_isCommand_41 (by decide) ?_
        exact hn23 (x3 + 1) h H locs ls hP hD hS (lv_sub hl [1, 2, 0] rfl)
      · have h := kF h (fun z => z c33)
        refine lv_iconst (v := 0) hx hb dX3_isCommand_36 (by decide) ?_
        obtain rfl := Option.some.inj h
        subst hQ
        exact W.zret (ty := .boolean) (v := (0 : Int32)) hx hb hr rfl (fun t ht hW => ⟨⟨(0 : Int32), (), rfl, rfl, kEnd ht hP⟩, hS.F ht⟩) hS.2.2 dX3_isCommand_37
  have L23 : ∀ (x2 : Int32) (n : Nat) (x3 : Int32), kLoopC n (fun q nx23 => fX3_isCommand_c23 vT q1 x2 q nx23) x3 = some res → ∀ (H : Heap) (locs : List Loc) (ls : Array Slot), va_P D vwCl (wT ty adT vT) H → va_D A (wT ty adT vT) → va_S A s.heap H locs → lv_has ls 4 [(0, .ref (adT 0)), (2, .int x2), (3, .int x3)] → W p l e (headSpec wsX3_isCommand { frames := 5, cells := 0, slots := 0, locals := 108 }).room s m ([.ref (adT 0), .ref (adK q1), .int p2] : List Value).toArray below meth c H locs 0 0 Q (F0 m 23 ls []) := by
    intro x2 n
    induction n with
    | zero => intro x3 h; exact absurd h (by simp [kLoopC])
    | succ n ih => intro x3 h; exact B23 x2 (kLoopC n (fun q nx23 => fX3_isCommand_c23 vT q1 x2 q nx23)) ih x3 h
  have hl := lv_entry ([.ref (adT 0), .ref (adK q1), .int p2]) (n := 4) (Nat.le_of_ble_eq_true rfl)
  rw [lg_entry_eq]
  generalize (lg_sl ([.ref (adT 0), .ref (adK q1), .int p2]) ++ List.replicate (4 - (lg_sl ([.ref (adT 0), .ref (adK q1), .int p2])).length) Slot.unset).toArray = ls at hl ⊢
  have hl : lv_has ls 4 [(0, .ref (adT 0)), (1, .ref (adK q1)), (2, .int p2)] := hl
  unfold fX3_isCommand at h
  have E0 : ∀ (H : Heap) (locs : List Loc) (ls : Array Slot), va_P D vwCl (wT ty adT vT) H → va_D A (wT ty adT vT) → va_S A s.heap H locs → lv_has ls 4 [(0, .ref (adT 0)), (1, .ref (adK q1)), (2, .int p2)] → W p l e (headSpec wsX3_isCommand { frames := 5, cells := 0, slots := 0, locals := 108 }).room s m ([.ref (adT 0), .ref (adK q1), .int p2] : List Value).toArray below meth c H locs 0 0 Q (F0 m 0 ls []) := by
    intro H locs ls hP hD hS hl
    refine lv_aload_n hx hb dX3_isCommand_0 rfl (lv_at hl 0 rfl) ?_
    refine va_get (D := D) (ci := 3) (v := .int vT.2.1) (C := RX3) (T := TX3) (N := 5) hx hb hts hinX3 hown hK.1 hP 0 rfl rfl 1 (by decide) wf0 (fun _ h9 => h9) rfl dX3_isCommand_1 ?_
    refine lv_iload_n hx hb dX3_isCommand_4 rfl (lv_at hl 2 rfl) ?_
    refine lv_iconst (v := 1) hx hb dX3_isCommand_5 (by decide) ?_
    refine lv_iadd hx hb dX3_isCommand_6 ?_
    refine lv_icmp_ne (tgt := 19) hx hb dX3_isCommand_7 (by decide) (fun c7 => ?_) (fun c7 => ?_)
    · have h := kT h c7
      refine lv_iconst (v := 0) hx hb dX3_isCommand_19 (by decide) ?_
      obtain rfl := Option.some.inj h
      subst hQ
      exact W.zret (ty := .boolean) (v := (0 : Int32)) hx hb hr rfl (fun t ht hW => ⟨⟨(0 : Int32), (), rfl, rfl, kEnd ht hP⟩, hS.F ht⟩) hS.2.2 dX3_isCommand_20
    · have h := kF h (fun z => z c7)
      refine lv_aload_n hx hb dX3_isCommand_10 rfl (lv_at hl 0 rfl) ?_
      refine lv_iconst (v := 0) hx hb dX3_isCommand_11 (by decide) ?_
      refine lv_aload_n hx hb dX3_isCommand_12 rfl (lv_at hl 1 rfl) ?_
      obtain ⟨r13, e13, h⟩ := kBd h
      refine kCallVIs (As := [.int (0 : Int32), .ref (adK q1)]) (rest := []) (wc := wT ty adT vT) (w1 := wT ty adT vT) (wn := wT ty adT vT) ⟨hx, hb, hml, hown, hts⟩ (cX3_isWord_ok l D ty adK adV adT H.size vT (0 : Int32) q1 hq1 r13 e13) (cwV 2 hts gX3_isCommand_X3_isWord rfl rfl rfl (by decide +kernel) ⟨Nat.le_of_ble_eq_true rfl, Nat.le_of_ble_eq_true rfl⟩) hP hD hK hS hA hE [0, 1, 2, 3] (by decide +kernel) rfl 3 0 rfl rfl rfl rfl hl.1 rfl (Nat.le_of_ble_eq_true rfl) dX3_isCommand_13 ⟨Nat.le_of_ble_eq_true rfl, Nat.le_of_ble_eq_true rfl⟩ rfl rfl (fun H locs hP hD hS => ?_)
      refine lv_if_ne (tgt := 21) hx hb dX3_isCommand_16 (by decide) (fun c16 => ?_) (fun c16 => ?_)
      · have h := kT h c16
        refine lv_iconst (v := 1) hx hb dX3_isCommand_21 (by decide) ?_
        refine lv_istore_n (lv' := [(3, .int (1 : Int32)), (0, .ref (adT 0)), (1, .ref (adK q1)), (2, .int p2)]) hx hb dX3_isCommand_22 rfl hl (by decide) rfl (fun ls hl => ?_)
        exact L23 p2  kFu (1 : Int32) h H locs ls hP hD hS (lv_sub hl [1, 3, 0] rfl)
      · have h := kF h (fun z => z c16)
        refine lv_iconst (v := 0) hx hb dX3_isCommand_19 (by decide) ?_
        obtain rfl := Option.some.inj h
        subst hQ
        exact W.zret (ty := .boolean) (v := (0 : Int32)) hx hb hr rfl (fun t ht hW => ⟨⟨(0 : Int32), (), rfl, rfl, kEnd ht hP⟩, hS.F ht⟩) hS.2.2 dX3_isCommand_20
  exact E0 s.heap [] ls hP hD hS hl
def fX4_execute (vX : KX) (vC : KC) (vF : KF) (vT : KT) : Option (Int32 × KC × KF) := (fX3_isCommand vT 0 (2 : Int32)).bind fun r7 => if r7 = (0 : Int32) then ((fX3_isCommand vT 1 (3 : Int32)).bind fun r44 => if r44 = (0 : Int32) then ((fX3_isCommand vT 2 (2 : Int32)).bind fun r89 => if r89 = (0 : Int32) then ((fX3_isCommand vT 3 (2 : Int32)).bind fun r126 => if r126 = (0 : Int32) then ((fX3_isCommand vT 4 (1 : Int32)).bind fun r163 => if r163 = (0 : Int32) then ((fX3_isCommand vT 5 (1 : Int32)).bind fun r192 => if r192 = (0 : Int32) then ((fX3_isCommand vT 6 (1 : Int32)).bind fun r221 => if r221 = (0 : Int32) then ((fX3_isCommand vT 7 (0 : Int32)).bind fun r250 => if r250 = (0 : Int32) then ((fX4_executeUse vX vC vT).bind fun r269 => some (r269.1, r269.2, vF)) else ((fX0_fitCorrections vC vF).bind fun r264 => some (r264.1, r264.2.1, r264.2.2))) else ((fX3_number vT (1 : Int32)).bind fun r236 => (fX0_putCloseOff vC r236).bind fun r239 => some (r239.1, r239.2, vF))) else ((fX3_number vT (1 : Int32)).bind fun r207 => (fX0_putKink vC r207).bind fun r210 => some (r210.1, r210.2, vF))) else ((fX3_number vT (1 : Int32)).bind fun r178 => (fX0_putBed vC r178).bind fun r181 => some (r181.1, r181.2, vF))) else ((fX3_number vT (1 : Int32)).bind fun r141 => (fX3_number vT (2 : Int32)).bind fun r149 => (fX0_putCorrection vC r141 r149).bind fun r152 => some (r152.1, r152.2, vF))) else ((fX3_number vT (1 : Int32)).bind fun r104 => (fX3_number vT (2 : Int32)).bind fun r112 => (fX0_putCount vC r104 r112).bind fun r115 => some (r115.1, r115.2, vF))) else ((fX3_number vT (1 : Int32)).bind fun r59 => (fX3_number vT (2 : Int32)).bind fun r67 => (fX3_number vT (3 : Int32)).bind fun r75 => (fX0_putAsh vC r59 r67 r75).bind fun r78 => some (r78.1, r78.2, vF))) else ((fX3_number vT (1 : Int32)).bind fun r22 => (fX3_number vT (2 : Int32)).bind fun r30 => (fX0_append vC r22 r30).bind fun r33 => some (r33.1, r33.2, vF))
set_option maxHeartbeats 4000000 in
set_option maxRecDepth 100000 in
theorem cX4_execute_ok (l : Launch) (D : va_G) (ty : kTy) (adK adV : Nat → Nat) (aX : Nat) (adC adF adH adT : Nat → Nat) (sz : Nat) (vX : KX) (vC : KC) (vF : KF) (vT : KT)  (res : Int32 × KC × KF) (h : fX4_execute vX vC vF vT = some res) : kMIs l yX4_execute wsX4_execute { frames := 6, cells := 0, slots := 0, locals := 131 } [.ref aX] D ty adK adV (wX aX adC adH adF adT vX ++ (wC ty adC vC ++ (wF ty adF vF ++ wT ty adT vT))) sz res.1 (wX aX adC adH adF adT vX ++ (wC ty adC res.2.1 ++ (wF ty adF res.2.2 ++ wT ty adT vT))) := by
  refine Met.ofW (cc := cX4_execute) (maxL := 1) (ret := (some .int)) (by decide) rfl ?_
  intro p e s m args below meth c s₁ B hml hv
  obtain ⟨rfl, ⟨hsz, hP, hK, hD0⟩, hE⟩ := hv
  have hx := B.exec
  have hb := B.bytes
  have hr := B.returns
  have hts := atoms_spec (ws := wsX4_execute) B.pre
  have hown : s.vm.findClass RX4 = some m.cls := findClass_of_methodNamed B.named
  have hlocks := B.notSynchronized
  subst hsz
  have hD := hD0.self (sz := s.heap.size)
  generalize hAe : va_A (wX aX adC adH adF adT vX ++ (wC ty adC vC ++ (wF ty adF vF ++ wT ty adT vT))) s.heap.size = A at hD hE ⊢
  have hA : ∀ q : Nat, s.heap.size ≤ q → A q := fun q h => by rw [← hAe]; exact Or.inr h
  have hS : va_S A s.heap s.heap [] := va_S.rf
  refine kGenW (fun Q hQ => ?_)
  have wf0 := hts (.fieldLink RX4 33 "IceCoreDater" "text" "LIceCoreDater$Text;") (by decide +kernel)
  have hinX4 : ∀ w ∈ wsX40, w ∈ wsX4_execute := by decide +kernel
  have wf2 := hts (.fieldLink RX4 10 "IceCoreDater" "core" "LIceCoreDater$Core;") (by decide +kernel)
  have wf3 := hts (.fieldLink RX4 26 "IceCoreDater" "falling" "LIceCoreDater$Falling;") (by decide +kernel)
  have hl := lv_entry ([.ref aX]) (n := 1) (Nat.le_of_ble_eq_true rfl)
  rw [lg_entry_eq]
  generalize (lg_sl ([.ref aX]) ++ List.replicate (1 - (lg_sl ([.ref aX])).length) Slot.unset).toArray = ls at hl ⊢
  have hl : lv_has ls 1 [(0, .ref aX)] := hl
  unfold fX4_execute at h
  have E0 : ∀ (H : Heap) (locs : List Loc) (ls : Array Slot), va_P D vwCl (wX aX adC adH adF adT vX ++ (wC ty adC vC ++ (wF ty adF vF ++ wT ty adT vT))) H → va_D A (wX aX adC adH adF adT vX ++ (wC ty adC vC ++ (wF ty adF vF ++ wT ty adT vT))) → va_S A s.heap H locs → lv_has ls 1 [(0, .ref aX)] → W p l e (headSpec wsX4_execute { frames := 6, cells := 0, slots := 0, locals := 131 }).room s m ([.ref aX] : List Value).toArray below meth c H locs 0 0 Q (F0 m 0 ls []) := by
    intro H locs ls hP hD hS hl
    refine lv_aload_n hx hb dX4_execute_0 rfl (lv_at hl 0 rfl) ?_
    refine va_get (D := D) (ci := 4) (v := .ref (adT 0)) (C := RX4) (T := TX4) (N := 6) hx hb hts hinX4 hown hK.1 hP 0 rfl rfl 3 (by decide) wf0 (fun _ h9 => h9) rfl dX4_execute_1 ?_
    refine va_ldcS hx hb hown hE.2.2.2.1 dX4_execute_4 ?_
    refine lv_iconst (v := 2) hx hb dX4_execute_6 (by decide) ?_
    obtain ⟨r7, e7, h⟩ := kBd h
    refine kCallVIs (As := [.ref (adK 0), .int (2 : Int32)]) (rest := []) (wc := wT ty adT vT) (w1 := wT ty adT vT) (wn := wX aX adC adH adF adT vX ++ (wC ty adC vC ++ (wF ty adF vF ++ wT ty adT vT))) ⟨hx, hb, hml, hown, hts⟩ (cX3_isCommand_ok l D ty adK adV adT H.size vT 0 (2 : Int32) (by decide) r7 e7) (cwV 2 hts gX4_execute_X3_isCommand rfl rfl rfl (by decide +kernel) ⟨Nat.le_of_ble_eq_true rfl, Nat.le_of_ble_eq_true rfl⟩) hP hD hK hS hA hE [12, 13, 14, 15] (by decide +kernel) rfl 3 12 rfl rfl rfl rfl hl.1 rfl (Nat.le_of_ble_eq_true rfl) dX4_execute_7 ⟨Nat.le_of_ble_eq_true rfl, Nat.le_of_ble_eq_true rfl⟩ rfl rfl (fun H locs hP hD hS => ?_)
    refine lv_if_eq (tgt := 37) hx hb dX4_execute_10 (by decide) (fun c10 => ?_) (fun c10 => ?_)
    · have h := kT h c10
      refine lv_aload_n hx hb dX4_execute_37 rfl (lv_at hl 0 rfl) ?_
      refine va_get (D := D) (ci := 4) (v := .ref (adT 0)) (C := RX4) (T := TX4) (N := 6) hx hb hts hinX4 hown hK.1 hP 0 rfl rfl 3 (by decide) wf0 (fun _ h9 => h9) rfl dX4_execute_38 ?_
      refine va_ldcS hx hb hown hE.2.2.2.2.1 dX4_execute_41 ?_
      refine lv_iconst (v := 3) hx hb dX4_execute_43 (by decide) ?_
      obtain ⟨r44, e44, h⟩ := kBd h
      refine kCallVIs (As := [.ref (adK 1), .int (3 : Int32)]) (rest := []) (wc := wT ty adT vT) (w1 := wT ty adT vT) (wn := wX aX adC adH adF adT vX ++ (wC ty adC vC ++ (wF ty adF vF ++ wT ty adT vT))) ⟨hx, hb, hml, hown, hts⟩ (cX3_isCommand_ok l D ty adK adV adT H.size vT 1 (3 : Int32) (by decide) r44 e44) (cwV 2 hts gX4_execute_X3_isCommand rfl rfl rfl (by decide +kernel) ⟨Nat.le_of_ble_eq_true rfl, Nat.le_of_ble_eq_true rfl⟩) hP hD hK hS hA hE [12, 13, 14, 15] (by decide +kernel) rfl 3 12 rfl rfl rfl rfl hl.1 rfl (Nat.le_of_ble_eq_true rfl) dX4_execute_44 ⟨Nat.le_of_ble_eq_true rfl, Nat.le_of_ble_eq_true rfl⟩ rfl rfl (fun H locs hP hD hS => ?_)
      refine lv_if_eq (tgt := 82) hx hb dX4_execute_47 (by decide) (fun c47 => ?_) (fun c47 => ?_)
      · have h := kT h c47
        refine lv_aload_n hx hb dX4_execute_82 rfl (lv_at hl 0 rfl) ?_
        refine va_get (D := D) (ci := 4) (v := .ref (adT 0)) (C := RX4) (T := TX4) (N := 6) hx hb hts hinX4 hown hK.1 hP 0 rfl rfl 3 (by decide) wf0 (fun _ h9 => h9) rfl dX4_execute_83 ?_
        refine va_ldcS hx hb hown hE.2.2.2.2.2.1 dX4_execute_86 ?_
        refine lv_iconst (v := 2) hx hb dX4_execute_88 (by decide) ?_
        obtain ⟨r89, e89, h⟩ := kBd h
        refine kCallVIs (As := [.ref (adK 2), .int (2 : Int32)]) (rest := []) (wc := wT ty adT vT) (w1 := wT ty adT vT) (wn := wX aX adC adH adF adT vX ++ (wC ty adC vC ++ (wF ty adF vF ++ wT ty adT vT))) ⟨hx, hb, hml, hown, hts⟩ (cX3_isCommand_ok l D ty adK adV adT H.size vT 2 (2 : Int32) (by decide) r89 e89) (cwV 2 hts gX4_execute_X3_isCommand rfl rfl rfl (by decide +kernel) ⟨Nat.le_of_ble_eq_true rfl, Nat.le_of_ble_eq_true rfl⟩) hP hD hK hS hA hE [12, 13, 14, 15] (by decide +kernel) rfl 3 12 rfl rfl rfl rfl hl.1 rfl (Nat.le_of_ble_eq_true rfl) dX4_execute_89 ⟨Nat.le_of_ble_eq_true rfl, Nat.le_of_ble_eq_true rfl⟩ rfl rfl (fun H locs hP hD hS => ?_)
        refine lv_if_eq (tgt := 119) hx hb dX4_execute_92 (by decide) (fun c92 => ?_) (fun c92 => ?_)
        · have h := kT h c92
          refine lv_aload_n hx hb dX4_execute_119 rfl (lv_at hl 0 rfl) ?_
          refine va_get (D := D) (ci := 4) (v := .ref (adT 0)) (C := RX4) (T := TX4) (N := 6) hx hb hts hinX4 hown hK.1 hP 0 rfl rfl 3 (by decide) wf0 (fun _ h9 => h9) rfl dX4_execute_120 ?_
          refine va_ldcS hx hb hown hE.2.2.2.2.2.2.1 dX4_execute_123 ?_
          refine lv_iconst (v := 2) hx hb dX4_execute_125 (by decide) ?_
          obtain ⟨r126, e126, h⟩ := kBd h
          refine kCallVIs (As := [.ref (adK 3), .int (2 : Int32)]) (rest := []) (wc := wT ty adT vT) (w1 := wT ty adT vT) (wn := wX aX adC adH adF adT vX ++ (wC ty adC vC ++ (wF ty adF vF ++ wT ty adT vT))) ⟨hx, hb, hml, hown, hts⟩ (cX3_isCommand_ok l D ty adK adV adT H.size vT 3 (2 : Int32) (by decide) r126 e126) (cwV 2 hts gX4_execute_X3_isCommand rfl rfl rfl (by decide +kernel) ⟨Nat.le_of_ble_eq_true rfl, Nat.le_of_ble_eq_true rfl⟩) hP hD hK hS hA hE [12, 13, 14, 15] (by decide +kernel) rfl 3 12 rfl rfl rfl rfl hl.1 rfl (Nat.le_of_ble_eq_true rfl) dX4_execute_126 ⟨Nat.le_of_ble_eq_true rfl, Nat.le_of_ble_eq_true rfl⟩ rfl rfl (fun H locs hP hD hS => ?_)
          refine lv_if_eq (tgt := 156) hx hb dX4_execute_129 (by decide) (fun c129 => ?_) (fun c129 => ?_)
          · have h := kT h c129
            refine lv_aload_n hx hb dX4_execute_156 rfl (lv_at hl 0 rfl) ?_
            refine va_get (D := D) (ci := 4) (v := .ref (adT 0)) (C := RX4) (T := TX4) (N := 6) hx hb hts hinX4 hown hK.1 hP 0 rfl rfl 3 (by decide) wf0 (fun _ h9 => h9) rfl dX4_execute_157 ?_
            refine va_ldcS hx hb hown hE.2.2.2.2.2.2.2.1 dX4_execute_160 ?_
            refine lv_iconst (v := 1) hx hb dX4_execute_162 (by decide) ?_
            obtain ⟨r163, e163, h⟩ := kBd h
            refine kCallVIs (As := [.ref (adK 4), .int (1 : Int32)]) (rest := []) (wc := wT ty adT vT) (w1 := wT ty adT vT) (wn := wX aX adC adH adF adT vX ++ (wC ty adC vC ++ (wF ty adF vF ++ wT ty adT vT))) ⟨hx, hb, hml, hown, hts⟩ (cX3_isCommand_ok l D ty adK adV adT H.size vT 4 (1 : Int32) (by decide) r163 e163) (cwV 2 hts gX4_execute_X3_isCommand rfl rfl rfl (by decide +kernel) ⟨Nat.le_of_ble_eq_true rfl, Nat.le_of_ble_eq_true rfl⟩) hP hD hK hS hA hE [12, 13, 14, 15] (by decide +kernel) rfl 3 12 rfl rfl rfl rfl hl.1 rfl (Nat.le_of_ble_eq_true rfl) dX4_execute_163 ⟨Nat.le_of_ble_eq_true rfl, Nat.le_of_ble_eq_true rfl⟩ rfl rfl (fun H locs hP hD hS => ?_)
            refine lv_if_eq (tgt := 185) hx hb dX4_execute_166 (by decide) (fun c166 => ?_) (fun c166 => ?_)
            · have h := kT h c166
              refine lv_aload_n hx hb dX4_execute_185 rfl (lv_at hl 0 rfl) ?_
              refine va_get (D := D) (ci := 4) (v := .ref (adT 0)) (C := RX4) (T := TX4) (N := 6) hx hb hts hinX4 hown hK.1 hP 0 rfl rfl 3 (by decide) wf0 (fun _ h9 => h9) rfl dX4_execute_186 ?_
              refine va_ldcS hx hb hown hE.2.2.2.2.2.2.2.2.1 dX4_execute_189 ?_
              refine lv_iconst (v := 1) hx hb dX4_execute_191 (by decide) ?_
              obtain ⟨r192, e192, h⟩ := kBd h
              refine kCallVIs (As := [.ref (adK 5), .int (1 : Int32)]) (rest := []) (wc := wT ty adT vT) (w1 := wT ty adT vT) (wn := wX aX adC adH adF adT vX ++ (wC ty adC vC ++ (wF ty adF vF ++ wT ty adT vT))) ⟨hx, hb, hml, hown, hts⟩ (cX3_isCommand_ok l D ty adK adV adT H.size vT 5 (1 : Int32) (by decide) r192 e192) (cwV 2 hts gX4_execute_X3_isCommand rfl rfl rfl (by decide +kernel) ⟨Nat.le_of_ble_eq_true rfl, Nat.le_of_ble_eq_true rfl⟩) hP hD hK hS hA hE [12, 13, 14, 15] (by decide +kernel) rfl 3 12 rfl rfl rfl rfl hl.1 rfl (Nat.le_of_ble_eq_true rfl) dX4_execute_192 ⟨Nat.le_of_ble_eq_true rfl, Nat.le_of_ble_eq_true rfl⟩ rfl rfl (fun H locs hP hD hS => ?_)
              refine lv_if_eq (tgt := 214) hx hb dX4_execute_195 (by decide) (fun c195 => ?_) (fun c195 => ?_)
              · have h := kT h c195
                refine lv_aload_n hx hb dX4_execute_214 rfl (lv_at hl 0 rfl) ?_
                refine va_get (D := D) (ci := 4) (v := .ref (adT 0)) (C := RX4) (T := TX4) (N := 6) hx hb hts hinX4 hown hK.1 hP 0 rfl rfl 3 (by decide) wf0 (fun _ h9 => h9) rfl dX4_execute_215 ?_
                refine va_ldcS hx hb hown hE.2.2.2.2.2.2.2.2.2.1 dX4_execute_218 ?_
                refine lv_iconst (v := 1) hx hb dX4_execute_220 (by decide) ?_
                obtain ⟨r221, e221, h⟩ := kBd h
                refine kCallVIs (As := [.ref (adK 6), .int (1 : Int32)]) (rest := []) (wc := wT ty adT vT) (w1 := wT ty adT vT) (wn := wX aX adC adH adF adT vX ++ (wC ty adC vC ++ (wF ty adF vF ++ wT ty adT vT))) ⟨hx, hb, hml, hown, hts⟩ (cX3_isCommand_ok l D ty adK adV adT H.size vT 6 (1 : Int32) (by decide) r221 e221) (cwV 2 hts gX4_execute_X3_isCommand rfl rfl rfl (by decide +kernel) ⟨Nat.le_of_ble_eq_true rfl, Nat.le_of_ble_eq_true rfl⟩) hP hD hK hS hA hE [12, 13, 14, 15] (by decide +kernel) rfl 3 12 rfl rfl rfl rfl hl.1 rfl (Nat.le_of_ble_eq_true rfl) dX4_execute_221 ⟨Nat.le_of_ble_eq_true rfl, Nat.le_of_ble_eq_true rfl⟩ rfl rfl (fun H locs hP hD hS => ?_)
                refine lv_if_eq (tgt := 243) hx hb dX4_execute_224 (by decide) (fun c224 => ?_) (fun c224 => ?_)
                · have h := kT h c224
                  refine lv_aload_n hx hb dX4_execute_243 rfl (lv_at hl 0 rfl) ?_
                  refine va_get (D := D) (ci := 4) (v := .ref (adT 0)) (C := RX4) (T := TX4) (N := 6) hx hb hts hinX4 hown hK.1 hP 0 rfl rfl 3 (by decide) wf0 (fun _ h9 => h9) rfl dX4_execute_244 ?_
                  refine va_ldcS hx hb hown hE.2.2.2.2.2.2.2.2.2.2.1 dX4_execute_247 ?_
                  refine lv_iconst (v := 0) hx hb dX4_execute_249 (by decide) ?_
                  obtain ⟨r250, e250, h⟩ := kBd h
                  refine kCallVIs (As := [.ref (adK 7), .int (0 : Int32)]) (rest := []) (wc := wT ty adT vT) (w1 := wT ty adT vT) (wn := wX aX adC adH adF adT vX ++ (wC ty adC vC ++ (wF ty adF vF ++ wT ty adT vT))) ⟨hx, hb, hml, hown, hts⟩ (cX3_isCommand_ok l D ty adK adV adT H.size vT 7 (0 : Int32) (by decide) r250 e250) (cwV 2 hts gX4_execute_X3_isCommand rfl rfl rfl (by decide +kernel) ⟨Nat.le_of_ble_eq_true rfl, Nat.le_of_ble_eq_true rfl⟩) hP hD hK hS hA hE [12, 13, 14, 15] (by decide +kernel) rfl 3 12 rfl rfl rfl rfl hl.1 rfl (Nat.le_of_ble_eq_true rfl) dX4_execute_250 ⟨Nat.le_of_ble_eq_true rfl, Nat.le_of_ble_eq_true rfl⟩ rfl rfl (fun H locs hP hD hS => ?_)
                  refine lv_if_eq (tgt := 268) hx hb dX4_execute_253 (by decide) (fun c253 => ?_) (fun c253 => ?_)
                  · have h := kT h c253
                    refine lv_aload_n hx hb dX4_execute_268 rfl (lv_at hl 0 rfl) ?_
                    obtain ⟨r269, e269, h⟩ := kBd h
                    refine kCallVIs (As := []) (rest := []) (wc := wX aX adC adH adF adT vX ++ (wC ty adC vC ++ wT ty adT vT)) (w1 := wX aX adC adH adF adT vX ++ (wC ty adC r269.2 ++ wT ty adT vT)) (wn := wX aX adC adH adF adT vX ++ (wC ty adC r269.2 ++ (wF ty adF vF ++ wT ty adT vT))) ⟨hx, hb, hml, hown, hts⟩ (cX4_executeUse_ok l D ty adK adV aX adC adF adH adT H.size vX vC vT  r269 e269) (cwV 0 hts gX4_execute_X4_executeUse rfl rfl rfl (by decide +kernel) ⟨Nat.le_of_ble_eq_true rfl, Nat.le_of_ble_eq_true rfl⟩) hP hD hK hS hA hE [0, 1, 2, 3, 4, 5, 6, 7, 8, 12, 13, 14, 15] (by decide +kernel) rfl 4 0 rfl rfl rfl rfl hl.1 rfl (Nat.le_of_ble_eq_true rfl) dX4_execute_269 ⟨Nat.le_of_ble_eq_true rfl, Nat.le_of_ble_eq_true rfl⟩ rfl rfl (fun H locs hP hD hS => ?_)
                    obtain rfl := Option.some.inj h
                    subst hQ
                    exact W.iret (v := r269.1) hx hb hr (fun t ht hW => ⟨⟨r269.1, (), rfl, rfl, kEnd ht hP⟩, hS.F ht⟩) hS.2.2 dX4_execute_272
                  · have h := kF h c253
                    refine lv_aload_n hx hb dX4_execute_256 rfl (lv_at hl 0 rfl) ?_
                    refine va_get (D := D) (ci := 4) (v := .ref (adC 0)) (C := RX4) (T := TX4) (N := 6) hx hb hts hinX4 hown hK.1 hP 0 rfl rfl 0 (by decide) wf2 (fun _ h9 => h9) rfl dX4_execute_257 ?_
                    refine lv_aload_n hx hb dX4_execute_260 rfl (lv_at hl 0 rfl) ?_
                    refine va_get (D := D) (ci := 4) (v := .ref (adF 0)) (C := RX4) (T := TX4) (N := 6) hx hb hts hinX4 hown hK.1 hP 0 rfl rfl 2 (by decide) wf3 (fun _ h9 => h9) rfl dX4_execute_261 ?_
                    obtain ⟨r264, e264, h⟩ := kBd h
                    refine kCallVI (As := [.ref (adF 0)]) (rest := []) (wc := wC ty adC vC ++ wF ty adF vF) (w1 := wC ty adC r264.2.1 ++ wF ty adF r264.2.2) (wn := wX aX adC adH adF adT vX ++ (wC ty adC r264.2.1 ++ (wF ty adF r264.2.2 ++ wT ty adT vT))) ⟨hx, hb, hml, hown, hts⟩ (cX0_fitCorrections_ok l D ty adC adF H.size vC vF  r264 e264) (cwV 1 hts gX4_execute_X0_fitCorrections rfl rfl rfl (by decide +kernel) ⟨Nat.le_of_ble_eq_true rfl, Nat.le_of_ble_eq_true rfl⟩) hP hK hD hS hA [1, 2, 3, 4, 5, 6, 7, 8, 9, 10, 11] (by decide +kernel) rfl 0 1 rfl rfl rfl rfl hl.1 rfl (Nat.le_of_ble_eq_true rfl) dX4_execute_264 ⟨Nat.le_of_ble_eq_true rfl, Nat.le_of_ble_eq_true rfl⟩ rfl rfl (fun H locs hP hD hS => ?_)
                    obtain rfl := Option.some.inj h
                    subst hQ
                    exact W.iret (v := r264.1) hx hb hr (fun t ht hW => ⟨⟨r264.1, (), rfl, rfl, kEnd ht hP⟩, hS.F ht⟩) hS.2.2 dX4_execute_267
                · have h := kF h c224
                  refine lv_aload_n hx hb dX4_execute_227 rfl (lv_at hl 0 rfl) ?_
                  refine va_get (D := D) (ci := 4) (v := .ref (adC 0)) (C := RX4) (T := TX4) (N := 6) hx hb hts hinX4 hown hK.1 hP 0 rfl rfl 0 (by decide) wf2 (fun _ h9 => h9) rfl dX4_execute_228 ?_
                  refine lv_aload_n hx hb dX4_execute_231 rfl (lv_at hl 0 rfl) ?_
                  refine va_get (D := D) (ci := 4) (v := .ref (adT 0)) (C := RX4) (T := TX4) (N := 6) hx hb hts hinX4 hown hK.1 hP 0 rfl rfl 3 (by decide) wf0 (fun _ h9 => h9) rfl dX4_execute_232 ?_
                  refine lv_iconst (v := 1) hx hb dX4_execute_235 (by decide) ?_
                  obtain ⟨r236, e236, h⟩ := kBd h
                  refine kCallVI (As := [.int (1 : Int32)]) (rest := [.ref (adC 0)]) (wc := wT ty adT vT) (w1 := wT ty adT vT) (wn := wX aX adC adH adF adT vX ++ (wC ty adC vC ++ (wF ty adF vF ++ wT ty adT vT))) ⟨hx, hb, hml, hown, hts⟩ (cX3_number_ok l D ty adT H.size vT (1 : Int32)  r236 e236) (cwV 1 hts gX4_execute_X3_number rfl rfl rfl (by decide +kernel) ⟨Nat.le_of_ble_eq_true rfl, Nat.le_of_ble_eq_true rfl⟩) hP hK hD hS hA [12, 13, 14, 15] (by decide +kernel) rfl 3 12 rfl rfl rfl rfl hl.1 rfl (Nat.le_of_ble_eq_true rfl) dX4_execute_236 ⟨Nat.le_of_ble_eq_true rfl, Nat.le_of_ble_eq_true rfl⟩ rfl rfl (fun H locs hP hD hS => ?_)
                  obtain ⟨r239, e239, h⟩ := kBd h
                  refine kCallVI (As := [.int r236]) (rest := []) (wc := wC ty adC vC) (w1 := wC ty adC r239.2) (wn := wX aX adC adH adF adT vX ++ (wC ty adC r239.2 ++ (wF ty adF vF ++ wT ty adT vT))) ⟨hx, hb, hml, hown, hts⟩ (cX0_putCloseOff_ok l D ty adC H.size vC r236  r239 e239) (cwV 1 hts gX4_execute_X0_putCloseOff rfl rfl rfl (by decide +kernel) ⟨Nat.le_of_ble_eq_true rfl, Nat.le_of_ble_eq_true rfl⟩) hP hK hD hS hA [1, 2, 3, 4, 5, 6, 7, 8] (by decide +kernel) rfl 0 1 rfl rfl rfl rfl hl.1 rfl (Nat.le_of_ble_eq_true rfl) dX4_execute_239 ⟨Nat.le_of_ble_eq_true rfl, Nat.le_of_ble_eq_true rfl⟩ rfl rfl (fun H locs hP hD hS => ?_)
                  obtain rfl := Option.some.inj h
                  subst hQ
                  exact W.iret (v := r239.1) hx hb hr (fun t ht hW => ⟨⟨r239.1, (), rfl, rfl, kEnd ht hP⟩, hS.F ht⟩) hS.2.2 dX4_execute_242
              · have h := kF h c195
                refine lv_aload_n hx hb dX4_execute_198 rfl (lv_at hl 0 rfl) ?_
                refine va_get (D := D) (ci := 4) (v := .ref (adC 0)) (C := RX4) (T := TX4) (N := 6) hx hb hts hinX4 hown hK.1 hP 0 rfl rfl 0 (by decide) wf2 (fun _ h9 => h9) rfl dX4_execute_199 ?_
                refine lv_aload_n hx hb dX4_execute_202 rfl (lv_at hl 0 rfl) ?_
                refine va_get (D := D) (ci := 4) (v := .ref (adT 0)) (C := RX4) (T := TX4) (N := 6) hx hb hts hinX4 hown hK.1 hP 0 rfl rfl 3 (by decide) wf0 (fun _ h9 => h9) rfl dX4_execute_203 ?_
                refine lv_iconst (v := 1) hx hb dX4_execute_206 (by decide) ?_
                obtain ⟨r207, e207, h⟩ := kBd h
                refine kCallVI (As := [.int (1 : Int32)]) (rest := [.ref (adC 0)]) (wc := wT ty adT vT) (w1 := wT ty adT vT) (wn := wX aX adC adH adF adT vX ++ (wC ty adC vC ++ (wF ty adF vF ++ wT ty adT vT))) ⟨hx, hb, hml, hown, hts⟩ (cX3_number_ok l D ty adT H.size vT (1 : Int32)  r207 e207) (cwV 1 hts gX4_execute_X3_number rfl rfl rfl (by decide +kernel) ⟨Nat.le_of_ble_eq_true rfl, Nat.le_of_ble_eq_true rfl⟩) hP hK hD hS hA [12, 13, 14, 15] (by decide +kernel) rfl 3 12 rfl rfl rfl rfl hl.1 rfl (Nat.le_of_ble_eq_true rfl) dX4_execute_207 ⟨Nat.le_of_ble_eq_true rfl, Nat.le_of_ble_eq_true rfl⟩ rfl rfl (fun H locs hP hD hS => ?_)
                obtain ⟨r210, e210, h⟩ := kBd h
                refine kCallVI (As := [.int r207]) (rest := []) (wc := wC ty adC vC) (w1 := wC ty adC r210.2) (wn := wX aX adC adH adF adT vX ++ (wC ty adC r210.2 ++ (wF ty adF vF ++ wT ty adT vT))) ⟨hx, hb, hml, hown, hts⟩ (cX0_putKink_ok l D ty adC H.size vC r207  r210 e210) (cwV 1 hts gX4_execute_X0_putKink rfl rfl rfl (by decide +kernel) ⟨Nat.le_of_ble_eq_true rfl, Nat.le_of_ble_eq_true rfl⟩) hP hK hD hS hA [1, 2, 3, 4, 5, 6, 7, 8] (by decide +kernel) rfl 0 1 rfl rfl rfl rfl hl.1 rfl (Nat.le_of_ble_eq_true rfl) dX4_execute_210 ⟨Nat.le_of_ble_eq_true rfl, Nat.le_of_ble_eq_true rfl⟩ rfl rfl (fun H locs hP hD hS => ?_)
                obtain rfl := Option.some.inj h
                subst hQ
                exact W.iret (v := r210.1) hx hb hr (fun t ht hW => ⟨⟨r210.1, (), rfl, rfl, kEnd ht hP⟩, hS.F ht⟩) hS.2.2 dX4_execute_213
            · have h := kF h c166
              refine lv_aload_n hx hb dX4_execute_169 rfl (lv_at hl 0 rfl) ?_
              refine va_get (D := D) (ci := 4) (v := .ref (adC 0)) (C := RX4) (T := TX4) (N := 6) hx hb hts hinX4 hown hK.1 hP 0 rfl rfl 0 (by decide) wf2 (fun _ h9 => h9) rfl dX4_execute_170 ?_
              refine lv_aload_n hx hb dX4_execute_173 rfl (lv_at hl 0 rfl) ?_
              refine va_get (D := D) (ci := 4) (v := .ref (adT 0)) (C := RX4) (T := TX4) (N := 6) hx hb hts hinX4 hown hK.1 hP 0 rfl rfl 3 (by decide) wf0 (fun _ h9 => h9) rfl dX4_execute_174 ?_
              refine lv_iconst (v := 1) hx hb dX4_execute_177 (by decide) ?_
              obtain ⟨r178, e178, h⟩ := kBd h
              refine kCallVI (As := [.int (1 : Int32)]) (rest := [.ref (adC 0)]) (wc := wT ty adT vT) (w1 := wT ty adT vT) (wn := wX aX adC adH adF adT vX ++ (wC ty adC vC ++ (wF ty adF vF ++ wT ty adT vT))) ⟨hx, hb, hml, hown, hts⟩ (cX3_number_ok l D ty adT H.size vT (1 : Int32)  r178 e178) (cwV 1 hts gX4_execute_X3_number rfl rfl rfl (by decide +kernel) ⟨Nat.le_of_ble_eq_true rfl, Nat.le_of_ble_eq_true rfl⟩) hP hK hD hS hA [12, 13, 14, 15] (by decide +kernel) rfl 3 12 rfl rfl rfl rfl hl.1 rfl (Nat.le_of_ble_eq_true rfl) dX4_execute_178 ⟨Nat.le_of_ble_eq_true rfl, Nat.le_of_ble_eq_true rfl⟩ rfl rfl (fun H locs hP hD hS => ?_)
              obtain ⟨r181, e181, h⟩ := kBd h
              refine kCallVI (As := [.int r178]) (rest := []) (wc := wC ty adC vC) (w1 := wC ty adC r181.2) (wn := wX aX adC adH adF adT vX ++ (wC ty adC r181.2 ++ (wF ty adF vF ++ wT ty adT vT))) ⟨hx, hb, hml, hown, hts⟩ (cX0_putBed_ok l D ty adC H.size vC r178  r181 e181) (cwV 1 hts gX4_execute_X0_putBed rfl rfl rfl (by decide +kernel) ⟨Nat.le_of_ble_eq_true rfl, Nat.le_of_ble_eq_true rfl⟩) hP hK hD hS hA [1, 2, 3, 4, 5, 6, 7, 8] (by decide +kernel) rfl 0 1 rfl rfl rfl rfl hl.1 rfl (Nat.le_of_ble_eq_true rfl) dX4_execute_181 ⟨Nat.le_of_ble_eq_true rfl, Nat.le_of_ble_eq_true rfl⟩ rfl rfl (fun H locs hP hD hS => ?_)
              obtain rfl := Option.some.inj h
              subst hQ
              exact W.iret (v := r181.1) hx hb hr (fun t ht hW => ⟨⟨r181.1, (), rfl, rfl, kEnd ht hP⟩, hS.F ht⟩) hS.2.2 dX4_execute_184
          · have h := kF h c129
            refine lv_aload_n hx hb dX4_execute_132 rfl (lv_at hl 0 rfl) ?_
            refine va_get (D := D) (ci := 4) (v := .ref (adC 0)) (C := RX4) (T := TX4) (N := 6) hx hb hts hinX4 hown hK.1 hP 0 rfl rfl 0 (by decide) wf2 (fun _ h9 => h9) rfl dX4_execute_133 ?_
            refine lv_aload_n hx hb dX4_execute_136 rfl (lv_at hl 0 rfl) ?_
            refine va_get (D := D) (ci := 4) (v := .ref (adT 0)) (C := RX4) (T := TX4) (N := 6) hx hb hts hinX4 hown hK.1 hP 0 rfl rfl 3 (by decide) wf0 (fun _ h9 => h9) rfl dX4_execute_137 ?_
            refine lv_iconst (v := 1) hx hb dX4_execute_140 (by decide) ?_
            obtain ⟨r141, e141, h⟩ := kBd h
            refine kCallVI (As := [.int (1 : Int32)]) (rest := [.ref (adC 0)]) (wc := wT ty adT vT) (w1 := wT ty adT vT) (wn := wX aX adC adH adF adT vX ++ (wC ty adC vC ++ (wF ty adF vF ++ wT ty adT vT))) ⟨hx, hb, hml, hown, hts⟩ (cX3_number_ok l D ty adT H.size vT (1 : Int32)  r141 e141) (cwV 1 hts gX4_execute_X3_number rfl rfl rfl (by decide +kernel) ⟨Nat.le_of_ble_eq_true rfl, Nat.le_of_ble_eq_true rfl⟩) hP hK hD hS hA [12, 13, 14, 15] (by decide +kernel) rfl 3 12 rfl rfl rfl rfl hl.1 rfl (Nat.le_of_ble_eq_true rfl) dX4_execute_141 ⟨Nat.le_of_ble_eq_true rfl, Nat.le_of_ble_eq_true rfl⟩ rfl rfl (fun H locs hP hD hS => ?_)
            refine lv_aload_n hx hb dX4_execute_144 rfl (lv_at hl 0 rfl) ?_
            refine va_get (D := D) (ci := 4) (v := .ref (adT 0)) (C := RX4) (T := TX4) (N := 6) hx hb hts hinX4 hown hK.1 hP 0 rfl rfl 3 (by decide) wf0 (fun _ h9 => h9) rfl dX4_execute_145 ?_
            refine lv_iconst (v := 2) hx hb dX4_execute_148 (by decide) ?_
            obtain ⟨r149, e149, h⟩ := kBd h
            refine kCallVI (As := [.int (2 : Int32)]) (rest := [.int r141, .ref (adC 0)]) (wc := wT ty adT vT) (w1 := wT ty adT vT) (wn := wX aX adC adH adF adT vX ++ (wC ty adC vC ++ (wF ty adF vF ++ wT ty adT vT))) ⟨hx, hb, hml, hown, hts⟩ (cX3_number_ok l D ty adT H.size vT (2 : Int32)  r149 e149) (cwV 1 hts gX4_execute_X3_number rfl rfl rfl (by decide +kernel) ⟨Nat.le_of_ble_eq_true rfl, Nat.le_of_ble_eq_true rfl⟩) hP hK hD hS hA [12, 13, 14, 15] (by decide +kernel) rfl 3 12 rfl rfl rfl rfl hl.1 rfl (Nat.le_of_ble_eq_true rfl) dX4_execute_149 ⟨Nat.le_of_ble_eq_true rfl, Nat.le_of_ble_eq_true rfl⟩ rfl rfl (fun H locs hP hD hS => ?_)
            obtain ⟨r152, e152, h⟩ := kBd h
            refine kCallVI (As := [.int r141, .int r149]) (rest := []) (wc := wC ty adC vC) (w1 := wC ty adC r152.2) (wn := wX aX adC adH adF adT vX ++ (wC ty adC r152.2 ++ (wF ty adF vF ++ wT ty adT vT))) ⟨hx, hb, hml, hown, hts⟩ (cX0_putCorrection_ok l D ty adC H.size vC r141 r149  r152 e152) (cwV 2 hts gX4_execute_X0_putCorrection rfl rfl rfl (by decide +kernel) ⟨Nat.le_of_ble_eq_true rfl, Nat.le_of_ble_eq_true rfl⟩) hP hK hD hS hA [1, 2, 3, 4, 5, 6, 7, 8] (by decide +kernel) rfl 0 1 rfl rfl rfl rfl hl.1 rfl (Nat.le_of_ble_eq_true rfl) dX4_execute_152 ⟨Nat.le_of_ble_eq_true rfl, Nat.le_of_ble_eq_true rfl⟩ rfl rfl (fun H locs hP hD hS => ?_)
            obtain rfl := Option.some.inj h
            subst hQ
            exact W.iret (v := r152.1) hx hb hr (fun t ht hW => ⟨⟨r152.1, (), rfl, rfl, kEnd ht hP⟩, hS.F ht⟩) hS.2.2 dX4_execute_155
        · have h := kF h c92
          refine lv_aload_n hx hb dX4_execute_95 rfl (lv_at hl 0 rfl) ?_
          refine va_get (D := D) (ci := 4) (v := .ref (adC 0)) (C := RX4) (T := TX4) (N := 6) hx hb hts hinX4 hown hK.1 hP 0 rfl rfl 0 (by decide) wf2 (fun _ h9 => h9) rfl dX4_execute_96 ?_
          refine lv_aload_n hx hb dX4_execute_99 rfl (lv_at hl 0 rfl) ?_
          refine va_get (D := D) (ci := 4) (v := .ref (adT 0)) (C := RX4) (T := TX4) (N := 6) hx hb hts hinX4 hown hK.1 hP 0 rfl rfl 3 (by decide) wf0 (fun _ h9 => h9) rfl dX4_execute_100 ?_
          refine lv_iconst (v := 1) hx hb dX4_execute_103 (by decide) ?_
          obtain ⟨r104, e104, h⟩ := kBd h
          refine kCallVI (As := [.int (1 : Int32)]) (rest := [.ref (adC 0)]) (wc := wT ty adT vT) (w1 := wT ty adT vT) (wn := wX aX adC adH adF adT vX ++ (wC ty adC vC ++ (wF ty adF vF ++ wT ty adT vT))) ⟨hx, hb, hml, hown, hts⟩ (cX3_number_ok l D ty adT H.size vT (1 : Int32)  r104 e104) (cwV 1 hts gX4_execute_X3_number rfl rfl rfl (by decide +kernel) ⟨Nat.le_of_ble_eq_true rfl, Nat.le_of_ble_eq_true rfl⟩) hP hK hD hS hA [12, 13, 14, 15] (by decide +kernel) rfl 3 12 rfl rfl rfl rfl hl.1 rfl (Nat.le_of_ble_eq_true rfl) dX4_execute_104 ⟨Nat.le_of_ble_eq_true rfl, Nat.le_of_ble_eq_true rfl⟩ rfl rfl (fun H locs hP hD hS => ?_)
          refine lv_aload_n hx hb dX4_execute_107 rfl (lv_at hl 0 rfl) ?_
          refine va_get (D := D) (ci := 4) (v := .ref (adT 0)) (C := RX4) (T := TX4) (N := 6) hx hb hts hinX4 hown hK.1 hP 0 rfl rfl 3 (by decide) wf0 (fun _ h9 => h9) rfl dX4_execute_108 ?_
          refine lv_iconst (v := 2) hx hb dX4_execute_111 (by decide) ?_
          obtain ⟨r112, e112, h⟩ := kBd h
          refine kCallVI (As := [.int (2 : Int32)]) (rest := [.int r104, .ref (adC 0)]) (wc := wT ty adT vT) (w1 := wT ty adT vT) (wn := wX aX adC adH adF adT vX ++ (wC ty adC vC ++ (wF ty adF vF ++ wT ty adT vT))) ⟨hx, hb, hml, hown, hts⟩ (cX3_number_ok l D ty adT H.size vT (2 : Int32)  r112 e112) (cwV 1 hts gX4_execute_X3_number rfl rfl rfl (by decide +kernel) ⟨Nat.le_of_ble_eq_true rfl, Nat.le_of_ble_eq_true rfl⟩) hP hK hD hS hA [12, 13, 14, 15] (by decide +kernel) rfl 3 12 rfl rfl rfl rfl hl.1 rfl (Nat.le_of_ble_eq_true rfl) dX4_execute_112 ⟨Nat.le_of_ble_eq_true rfl, Nat.le_of_ble_eq_true rfl⟩ rfl rfl (fun H locs hP hD hS => ?_)
          obtain ⟨r115, e115, h⟩ := kBd h
          refine kCallVI (As := [.int r104, .int r112]) (rest := []) (wc := wC ty adC vC) (w1 := wC ty adC r115.2) (wn := wX aX adC adH adF adT vX ++ (wC ty adC r115.2 ++ (wF ty adF vF ++ wT ty adT vT))) ⟨hx, hb, hml, hown, hts⟩ (cX0_putCount_ok l D ty adC H.size vC r104 r112  r115 e115) (cwV 2 hts gX4_execute_X0_putCount rfl rfl rfl (by decide +kernel) ⟨Nat.le_of_ble_eq_true rfl, Nat.le_of_ble_eq_true rfl⟩) hP hK hD hS hA [1, 2, 3, 4, 5, 6, 7, 8] (by decide +kernel) rfl 0 1 rfl rfl rfl rfl hl.1 rfl (Nat.le_of_ble_eq_true rfl) dX4_execute_115 ⟨Nat.le_of_ble_eq_true rfl, Nat.le_of_ble_eq_true rfl⟩ rfl rfl (fun H locs hP hD hS => ?_)
          obtain rfl := Option.some.inj h
          subst hQ
          exact W.iret (v := r115.1) hx hb hr (fun t ht hW => ⟨⟨r115.1, (), rfl, rfl, kEnd ht hP⟩, hS.F ht⟩) hS.2.2 dX4_execute_118
      · have h := kF h c47
        refine lv_aload_n hx hb dX4_execute_50 rfl (lv_at hl 0 rfl) ?_
        refine va_get (D := D) (ci := 4) (v := .ref (adC 0)) (C := RX4) (T := TX4) (N := 6) hx hb hts hinX4 hown hK.1 hP 0 rfl rfl 0 (by decide) wf2 (fun _ h9 => h9) rfl dX4_execute_51 ?_
        refine lv_aload_n hx hb dX4_execute_54 rfl (lv_at hl 0 rfl) ?_
        refine va_get (D := D) (ci := 4) (v := .ref (adT 0)) (C := RX4) (T := TX4) (N := 6) hx hb hts hinX4 hown hK.1 hP 0 rfl rfl 3 (by decide) wf0 (fun _ h9 => h9) rfl dX4_execute_55 ?_
        refine lv_iconst (v := 1) hx hb dX4_execute_58 (by decide) ?_
        obtain ⟨r59, e59, h⟩ := kBd h
        refine kCallVI (As := [.int (1 : Int32)]) (rest := [.ref (adC 0)]) (wc := wT ty adT vT) (w1 := wT ty adT vT) (wn := wX aX adC adH adF adT vX ++ (wC ty adC vC ++ (wF ty adF vF ++ wT ty adT vT))) ⟨hx, hb, hml, hown, hts⟩ (cX3_number_ok l D ty adT H.size vT (1 : Int32)  r59 e59) (cwV 1 hts gX4_execute_X3_number rfl rfl rfl (by decide +kernel) ⟨Nat.le_of_ble_eq_true rfl, Nat.le_of_ble_eq_true rfl⟩) hP hK hD hS hA [12, 13, 14, 15] (by decide +kernel) rfl 3 12 rfl rfl rfl rfl hl.1 rfl (Nat.le_of_ble_eq_true rfl) dX4_execute_59 ⟨Nat.le_of_ble_eq_true rfl, Nat.le_of_ble_eq_true rfl⟩ rfl rfl (fun H locs hP hD hS => ?_)
        refine lv_aload_n hx hb dX4_execute_62 rfl (lv_at hl 0 rfl) ?_
        refine va_get (D := D) (ci := 4) (v := .ref (adT 0)) (C := RX4) (T := TX4) (N := 6) hx hb hts hinX4 hown hK.1 hP 0 rfl rfl 3 (by decide) wf0 (fun _ h9 => h9) rfl dX4_execute_63 ?_
        refine lv_iconst (v := 2) hx hb dX4_execute_66 (by decide) ?_
        obtain ⟨r67, e67, h⟩ := kBd h
        refine kCallVI (As := [.int (2 : Int32)]) (rest := [.int r59, .ref (adC 0)]) (wc := wT ty adT vT) (w1 := wT ty adT vT) (wn := wX aX adC adH adF adT vX ++ (wC ty adC vC ++ (wF ty adF vF ++ wT ty adT vT))) ⟨hx, hb, hml, hown, hts⟩ (cX3_number_ok l D ty adT H.size vT (2 : Int32)  r67 e67) (cwV 1 hts gX4_execute_X3_number rfl rfl rfl (by decide +kernel) ⟨Nat.le_of_ble_eq_true rfl, Nat.le_of_ble_eq_true rfl⟩) hP hK hD hS hA [12, 13, 14, 15] (by decide +kernel) rfl 3 12 rfl rfl rfl rfl hl.1 rfl (Nat.le_of_ble_eq_true rfl) dX4_execute_67 ⟨Nat.le_of_ble_eq_true rfl, Nat.le_of_ble_eq_true rfl⟩ rfl rfl (fun H locs hP hD hS => ?_)
        refine lv_aload_n hx hb dX4_execute_70 rfl (lv_at hl 0 rfl) ?_
        refine va_get (D := D) (ci := 4) (v := .ref (adT 0)) (C := RX4) (T := TX4) (N := 6) hx hb hts hinX4 hown hK.1 hP 0 rfl rfl 3 (by decide) wf0 (fun _ h9 => h9) rfl dX4_execute_71 ?_
        refine lv_iconst (v := 3) hx hb dX4_execute_74 (by decide) ?_
        obtain ⟨r75, e75, h⟩ := kBd h
        refine kCallVI (As := [.int (3 : Int32)]) (rest := [.int r67, .int r59, .ref (adC 0)]) (wc := wT ty adT vT) (w1 := wT ty adT vT) (wn := wX aX adC adH adF adT vX ++ (wC ty adC vC ++ (wF ty adF vF ++ wT ty adT vT))) ⟨hx, hb, hml, hown, hts⟩ (cX3_number_ok l D ty adT H.size vT (3 : Int32)  r75 e75) (cwV 1 hts gX4_execute_X3_number rfl rfl rfl (by decide +kernel) ⟨Nat.le_of_ble_eq_true rfl, Nat.le_of_ble_eq_true rfl⟩) hP hK hD hS hA [12, 13, 14, 15] (by decide +kernel) rfl 3 12 rfl rfl rfl rfl hl.1 rfl (Nat.le_of_ble_eq_true rfl) dX4_execute_75 ⟨Nat.le_of_ble_eq_true rfl, Nat.le_of_ble_eq_true rfl⟩ rfl rfl (fun H locs hP hD hS => ?_)
        obtain ⟨r78, e78, h⟩ := kBd h
        refine kCallVI (As := [.int r59, .int r67, .int r75]) (rest := []) (wc := wC ty adC vC) (w1 := wC ty adC r78.2) (wn := wX aX adC adH adF adT vX ++ (wC ty adC r78.2 ++ (wF ty adF vF ++ wT ty adT vT))) ⟨hx, hb, hml, hown, hts⟩ (cX0_putAsh_ok l D ty adC H.size vC r59 r67 r75  r78 e78) (cwV 3 hts gX4_execute_X0_putAsh rfl rfl rfl (by decide +kernel) ⟨Nat.le_of_ble_eq_true rfl, Nat.le_of_ble_eq_true rfl⟩) hP hK hD hS hA [1, 2, 3, 4, 5, 6, 7, 8] (by decide +kernel) rfl 0 1 rfl rfl rfl rfl hl.1 rfl (Nat.le_of_ble_eq_true rfl) dX4_execute_78 ⟨Nat.le_of_ble_eq_true rfl, Nat.le_of_ble_eq_true rfl⟩ rfl rfl (fun H locs hP hD hS => ?_)
        obtain rfl := Option.some.inj h
        subst hQ
        exact W.iret (v := r78.1) hx hb hr (fun t ht hW => ⟨⟨r78.1, (), rfl, rfl, kEnd ht hP⟩, hS.F ht⟩) hS.2.2 dX4_execute_81
    · have h := kF h c10
      refine lv_aload_n hx hb dX4_execute_13 rfl (lv_at hl 0 rfl) ?_
      refine va_get (D := D) (ci := 4) (v := .ref (adC 0)) (C := RX4) (T := TX4) (N := 6) hx hb hts hinX4 hown hK.1 hP 0 rfl rfl 0 (by decide) wf2 (fun _ h9 => h9) rfl dX4_execute_14 ?_
      refine lv_aload_n hx hb dX4_execute_17 rfl (lv_at hl 0 rfl) ?_
      refine va_get (D := D) (ci := 4) (v := .ref (adT 0)) (C := RX4) (T := TX4) (N := 6) hx hb hts hinX4 hown hK.1 hP 0 rfl rfl 3 (by decide) wf0 (fun _ h9 => h9) rfl dX4_execute_18 ?_
      refine lv_iconst (v := 1) hx hb dX4_execute_21 (by decide) ?_
      obtain ⟨r22, e22, h⟩ := kBd h
      refine kCallVI (As := [.int (1 : Int32)]) (rest := [.ref (adC 0)]) (wc := wT ty adT vT) (w1 := wT ty adT vT) (wn := wX aX adC adH adF adT vX ++ (wC ty adC vC ++ (wF ty adF vF ++ wT ty adT vT))) ⟨hx, hb, hml, hown, hts⟩ (cX3_number_ok l D ty adT H.size vT (1 : Int32)  r22 e22) (cwV 1 hts gX4_execute_X3_number rfl rfl rfl (by decide +kernel) ⟨Nat.le_of_ble_eq_true rfl, Nat.le_of_ble_eq_true rfl⟩) hP hK hD hS hA [12, 13, 14, 15] (by decide +kernel) rfl 3 12 rfl rfl rfl rfl hl.1 rfl (Nat.le_of_ble_eq_true rfl) dX4_execute_22 ⟨Nat.le_of_ble_eq_true rfl, Nat.le_of_ble_eq_true rfl⟩ rfl rfl (fun H locs hP hD hS => ?_)
      refine lv_aload_n hx hb dX4_execute_25 rfl (lv_at hl 0 rfl) ?_
      refine va_get (D := D) (ci := 4) (v := .ref (adT 0)) (C := RX4) (T := TX4) (N := 6) hx hb hts hinX4 hown hK.1 hP 0 rfl rfl 3 (by decide) wf0 (fun _ h9 => h9) rfl dX4_execute_26 ?_
      refine lv_iconst (v := 2) hx hb dX4_execute_29 (by decide) ?_
      obtain ⟨r30, e30, h⟩ := kBd h
      refine kCallVI (As := [.int (2 : Int32)]) (rest := [.int r22, .ref (adC 0)]) (wc := wT ty adT vT) (w1 := wT ty adT vT) (wn := wX aX adC adH adF adT vX ++ (wC ty adC vC ++ (wF ty adF vF ++ wT ty adT vT))) ⟨hx, hb, hml, hown, hts⟩ (cX3_number_ok l D ty adT H.size vT (2 : Int32)  r30 e30) (cwV 1 hts gX4_execute_X3_number rfl rfl rfl (by decide +kernel) ⟨Nat.le_of_ble_eq_true rfl, Nat.le_of_ble_eq_true rfl⟩) hP hK hD hS hA [12, 13, 14, 15] (by decide +kernel) rfl 3 12 rfl rfl rfl rfl hl.1 rfl (Nat.le_of_ble_eq_true rfl) dX4_execute_30 ⟨Nat.le_of_ble_eq_true rfl, Nat.le_of_ble_eq_true rfl⟩ rfl rfl (fun H locs hP hD hS => ?_)
      obtain ⟨r33, e33, h⟩ := kBd h
      refine kCallVI (As := [.int r22, .int r30]) (rest := []) (wc := wC ty adC vC) (w1 := wC ty adC r33.2) (wn := wX aX adC adH adF adT vX ++ (wC ty adC r33.2 ++ (wF ty adF vF ++ wT ty adT vT))) ⟨hx, hb, hml, hown, hts⟩ (cX0_append_ok l D ty adC H.size vC r22 r30  r33 e33) (cwV 2 hts gX4_execute_X0_append rfl rfl rfl (by decide +kernel) ⟨Nat.le_of_ble_eq_true rfl, Nat.le_of_ble_eq_true rfl⟩) hP hK hD hS hA [1, 2, 3, 4, 5, 6, 7, 8] (by decide +kernel) rfl 0 1 rfl rfl rfl rfl hl.1 rfl (Nat.le_of_ble_eq_true rfl) dX4_execute_33 ⟨Nat.le_of_ble_eq_true rfl, Nat.le_of_ble_eq_true rfl⟩ rfl rfl (fun H locs hP hD hS => ?_)
      obtain rfl := Option.some.inj h
      subst hQ
      exact W.iret (v := r33.1) hx hb hr (fun t ht hW => ⟨⟨r33.1, (), rfl, rfl, kEnd ht hP⟩, hS.F ht⟩) hS.2.2 dX4_execute_36
  exact E0 s.heap [] ls hP hD hS hl
def fX4_run_c39 (uX : KX) (uC : KC) (uF : KF) (uH : KH) (uT : KT) (uS : KS) (x1 : Int32) (x2 : Int32) (x3 : Int32) (nx39 : KX × KC × KF × KT × Int32 × Int32 × Int32 → Option (Int32 × KX × KC × KF × KH × KT × KS)) : Option (Int32 × KX × KC × KF × KH × KT × KS) := if uT.1 < x3 then ((fX3_empty uT).bind fun r125 => some (x1, uX, uC, uF, uH, r125.2, uS)) else (if ¬ uX.2 = (0 : Int32) then ((fX3_empty uT).bind fun r125 => some (x1, uX, uC, uF, uH, r125.2, uS)) else (if x3 = uT.1 then ((fX3_readCommand uT x2 x3).bind fun r87 => (fX4_execute uX uC uF r87).bind fun r96 => (fX4_failureOf r96.1).bind fun r99 => if ¬ r99 = (0 : Int32) then (nx39 ((uX.1, r99), r96.2.1, r96.2.2, r87, x1, (x3 + (1 : Int32)), (x3 + 1))) else (nx39 ((uX.1, r99), r96.2.1, r96.2.2, r87, (x1 + 1), (x3 + (1 : Int32)), (x3 + 1)))) else ((fX3_at uT x3).bind fun r73 => if ¬ r73 = (59 : Int32) then (nx39 (uX, uC, uF, uT, x1, x2, (x3 + 1))) else ((fX3_readCommand uT x2 x3).bind fun r87 => (fX4_execute uX uC uF r87).bind fun r96 => (fX4_failureOf r96.1).bind fun r99 => if ¬ r99 = (0 : Int32) then (nx39 ((uX.1, r99), r96.2.1, r96.2.2, r87, x1, (x3 + (1 : Int32)), (x3 + 1))) else (nx39 ((uX.1, r99), r96.2.1, r96.2.2, r87, (x1 + 1), (x3 + (1 : Int32)), (x3 + 1)))))))
def fX4_run (vX : KX) (vC : KC) (vF : KF) (vH : KH) (vT : KT) (vS : KS) : Option (Int32 × KX × KC × KF × KH × KT × KS) := (fX2_prepare vC vH vS).bind fun r8 => (fX2_keep vH).bind fun r15 => kLoopC kFu (fun q nx39 => fX4_run_c39 q.1 q.2.1 q.2.2.1 r15 q.2.2.2.1 r8 q.2.2.2.2.1 q.2.2.2.2.2.1 q.2.2.2.2.2.2 nx39) (((vX.1 + (1 : Int32)), (0 : Int32)), vC, vF, vT, (0 : Int32), (0 : Int32), (0 : Int32))
set_option maxHeartbeats 4000000 in
set_option maxRecDepth 100000 in
theorem cX4_run_ok (l : Launch) (D : va_G) (ty : kTy) (adK adV : Nat → Nat) (aX : Nat) (adC adF adH adT : Nat → Nat) (adS : Nat → Nat → Nat) (sz : Nat) (vX : KX) (vC : KC) (vF : KF) (vH : KH) (vT : KT) (vS : KS)  (res : Int32 × KX × KC × KF × KH × KT × KS) (h : fX4_run vX vC vF vH vT vS = some res) : kMIs l yX4_run wsX4_run { frames := 7, cells := 0, slots := 0, locals := 151 } [.ref aX] D ty adK adV (wX aX adC adH adF adT vX ++ (wC ty adC vC ++ (wF ty adF vF ++ (wH ty adH adS vH ++ (wT ty adT vT ++ wS ty adS vS))))) sz res.1 (wX aX adC adH adF adT res.2.1 ++ (wC ty adC res.2.2.1 ++ (wF ty adF res.2.2.2.1 ++ (wH ty adH adS res.2.2.2.2.1 ++ (wT ty adT res.2.2.2.2.2.1 ++ wS ty adS res.2.2.2.2.2.2))))) := by
  refine Met.ofW (cc := cX4_run) (maxL := 4) (ret := (some .int)) (by decide) rfl ?_
  intro p e s m args below meth c s₁ B hml hv
  obtain ⟨rfl, ⟨hsz, hP, hK, hD0⟩, hE⟩ := hv
  have hx := B.exec
  have hb := B.bytes
  have hr := B.returns
  have hts := atoms_spec (ws := wsX4_run) B.pre
  have hown : s.vm.findClass RX4 = some m.cls := findClass_of_methodNamed B.named
  have hlocks := B.notSynchronized
  subst hsz
  have hD := hD0.self (sz := s.heap.size)
  generalize hAe : va_A (wX aX adC adH adF adT vX ++ (wC ty adC vC ++ (wF ty adF vF ++ (wH ty adH adS vH ++ (wT ty adT vT ++ wS ty adS vS))))) s.heap.size = A at hD hE ⊢
  have hA : ∀ q : Nat, s.heap.size ≤ q → A q := fun q h => by rw [← hAe]; exact Or.inr h
  have hS : va_S A s.heap s.heap [] := va_S.rf
  refine kGenW (fun Q hQ => ?_)
  have wf0 := hts (.fieldLink RX4 33 "IceCoreDater" "text" "LIceCoreDater$Text;") (by decide +kernel)
  have hinX4 : ∀ w ∈ wsX40, w ∈ wsX4_run := by decide +kernel
  have wf2 := hts (.fieldLink RX4 108 "IceCoreDater$Text" "length" "I") (by decide +kernel)
  have hinX3 : ∀ w ∈ wsX30, w ∈ wsX4_run := by decide +kernel
  have wf4 := hts (.fieldLink RX4 42 "IceCoreDater" "failure" "I") (by decide +kernel)
  have wf5 := hts (.fieldLink RX4 19 "IceCoreDater" "log" "LIceCoreDater$Log;") (by decide +kernel)
  have wf6 := hts (.fieldLink RX4 10 "IceCoreDater" "core" "LIceCoreDater$Core;") (by decide +kernel)
  have wf7 := hts (.fieldLink RX4 37 "IceCoreDater" "acts" "I") (by decide +kernel)
  have B39 : ∀ (uH : KH) (uS : KS) (nx39 : KX × KC × KF × KT × Int32 × Int32 × Int32 → Option (Int32 × KX × KC × KF × KH × KT × KS)) (hn39 : ∀ (uX : KX) (uC : KC) (uF : KF) (uT : KT) (x1 : Int32) (x2 : Int32) (x3 : Int32), nx39 (uX, uC, uF, uT, x1, x2, x3) = some res → ∀ (H : Heap) (locs : List Loc) (ls : Array Slot), va_P D vwCl (wX aX adC adH adF adT uX ++ (wC ty adC uC ++ (wF ty adF uF ++ (wH ty adH adS uH ++ (wT ty adT uT ++ wS ty adS uS))))) H → va_D A (wX aX adC adH adF adT uX ++ (wC ty adC uC ++ (wF ty adF uF ++ (wH ty adH adS uH ++ (wT ty adT uT ++ wS ty adS uS))))) → va_S A s.heap H locs → lv_has ls 4 [(0, .ref aX), (1, .int x1), (2, .int x2), (3, .int x3)] → W p l e (headSpec wsX4_run { frames := 7, cells := 0, slots := 0, locals := 151 }).room s m ([.ref aX] : List Value).toArray below meth c H locs 0 0 Q (F0 m 39 ls [])) (uX : KX) (uC : KC) (uF : KF) (uT : KT) (x1 : Int32) (x2 : Int32) (x3 : Int32), fX4_run_c39 uX uC uF uH uT uS x1 x2 x3 nx39 = some res → ∀ (H : Heap) (locs : List Loc) (ls : Array Slot), va_P D vwCl (wX aX adC adH adF adT uX ++ (wC ty adC uC ++ (wF ty adF uF ++ (wH ty adH adS uH ++ (wT ty adT uT ++ wS ty adS uS))))) H → va_D A (wX aX adC adH adF adT uX ++ (wC ty adC uC ++ (wF ty adF uF ++ (wH ty adH adS uH ++ (wT ty adT uT ++ wS ty adS uS))))) → va_S A s.heap H locs → lv_has ls 4 [(0, .ref aX), (1, .int x1), (2, .int x2), (3, .int x3)] → W p l e (headSpec wsX4_run { frames := 7, cells := 0, slots := 0, locals := 151 }).room s m ([.ref aX] : List Value).toArray below meth c H locs 0 0 Q (F0 m 39 ls []) := by
    intro uH uS nx39 hn39 uX uC uF uT x1 x2 x3 h H locs ls hP hD hS hl
    unfold fX4_run_c39 at h
    refine lv_iload_n hx hb dX4_run_39 rfl (lv_at hl 3 rfl) ?_
    refine lv_aload_n hx hb dX4_run_40 rfl (lv_at hl 0 rfl) ?_
    refine va_get (D := D) (ci := 4) (v := .ref (adT 0)) (C := RX4) (T := TX4) (N := 6) hx hb hts hinX4 hown hK.1 hP 0 rfl rfl 3 (by decide) wf0 (fun _ h9 => h9) rfl dX4_run_41 ?_
    refine va_get (D := D) (ci := 3) (v := .int uT.1) (C := RX3) (T := TX3) (N := 5) hx hb hts hinX3 hown hK.1 hP 14 rfl rfl 0 (by decide) wf2 (fun _ h9 => h9) rfl dX4_run_44 ?_
    refine lv_icmp_gt (tgt := 121) hx hb dX4_run_47 (by decide) (fun c47 => ?_) (fun c47 => ?_)
    · have h := kT h c47
      refine lv_aload_n hx hb dX4_run_121 rfl (lv_at hl 0 rfl) ?_
      refine va_get (D := D) (ci := 4) (v := .ref (adT 0)) (C := RX4) (T := TX4) (N := 6) hx hb hts hinX4 hown hK.1 hP 0 rfl rfl 3 (by decide) wf0 (fun _ h9 => h9) rfl dX4_run_122 ?_
      obtain ⟨r125, e125, h⟩ := kBd h
      refine kCallWI (As := []) (rest := []) (sg := [wX aX adC adH adF adT uX, wC ty adC uC, wF ty adF uF, wH ty adH adS uH, wT ty adT uT, wS ty adS uS]) (sc := [wT ty adT uT]) (s1 := [wT ty adT r125.2]) (sn := [wX aX adC adH adF adT uX, wC ty adC uC, wF ty adF uF, wH ty adH adS uH, wT ty adT r125.2, wS ty adS uS]) ⟨hx, hb, hml, hown, hts⟩ (cX3_empty_ok l D ty adT H.size uT  r125 e125) (cwV 0 hts gX4_run_X3_empty rfl rfl rfl (by decide +kernel) ⟨Nat.le_of_ble_eq_true rfl, Nat.le_of_ble_eq_true rfl⟩) hP hK hD hS hA [4] (by decide) rfl 3 14 rfl rfl rfl rfl hl.1 rfl (Nat.le_of_ble_eq_true rfl) dX4_run_125 ⟨Nat.le_of_ble_eq_true rfl, Nat.le_of_ble_eq_true rfl⟩ rfl rfl (fun H locs hP hD hS => ?_)
      have hP : va_P D vwCl (wX aX adC adH adF adT uX ++ (wC ty adC uC ++ (wF ty adF uF ++ (wH ty adH adS uH ++ (wT ty adT r125.2 ++ wS ty adS uS))))) H := hP
      have hD : va_D A (wX aX adC adH adF adT uX ++ (wC ty adC uC ++ (wF ty adF uF ++ (wH ty adH adS uH ++ (wT ty adT r125.2 ++ wS ty adS uS))))) := hD
      refine lv_pop hx hb dX4_run_128 rfl ?_
      refine lv_iload_n hx hb dX4_run_129 rfl (lv_at hl 1 rfl) ?_
      obtain rfl := Option.some.inj h
      subst hQ
      exact W.iret (v := x1) hx hb hr (fun t ht hW => ⟨⟨x1, (), rfl, rfl, kEnd ht hP⟩, hS.F ht⟩) hS.2.2 dX4_run_130
    · have h := kF h c47
      refine lv_aload_n hx hb dX4_run_50 rfl (lv_at hl 0 rfl) ?_
      refine va_get (D := D) (ci := 4) (v := .int uX.2) (C := RX4) (T := TX4) (N := 6) hx hb hts hinX4 hown hK.1 hP 0 rfl rfl 5 (by decide) wf4 (fun _ h9 => h9) rfl dX4_run_51 ?_
      refine lv_if_ne (tgt := 121) hx hb dX4_run_54 (by decide) (fun c54 => ?_) (fun c54 => ?_)
      · have h := kT h c54
        refine lv_aload_n hx hb dX4_run_121 rfl (lv_at hl 0 rfl) ?_
        refine va_get (D := D) (ci := 4) (v := .ref (adT 0)) (C := RX4) (T := TX4) (N := 6) hx hb hts hinX4 hown hK.1 hP 0 rfl rfl 3 (by decide) wf0 (fun _ h9 => h9) rfl dX4_run_122 ?_
        obtain ⟨r125, e125, h⟩ := kBd h
        refine kCallWI (As := []) (rest := []) (sg := [wX aX adC adH adF adT uX, wC ty adC uC, wF ty adF uF, wH ty adH adS uH, wT ty adT uT, wS ty adS uS]) (sc := [wT ty adT uT]) (s1 := [wT ty adT r125.2]) (sn := [wX aX adC adH adF adT uX, wC ty adC uC, wF ty adF uF, wH ty adH adS uH, wT ty adT r125.2, wS ty adS uS]) ⟨hx, hb, hml, hown, hts⟩ (cX3_empty_ok l D ty adT H.size uT  r125 e125) (cwV 0 hts gX4_run_X3_empty rfl rfl rfl (by decide +kernel) ⟨Nat.le_of_ble_eq_true rfl, Nat.le_of_ble_eq_true rfl⟩) hP hK hD hS hA [4] (by decide) rfl 3 14 rfl rfl rfl rfl hl.1 rfl (Nat.le_of_ble_eq_true rfl) dX4_run_125 ⟨Nat.le_of_ble_eq_true rfl, Nat.le_of_ble_eq_true rfl⟩ rfl rfl (fun H locs hP hD hS => ?_)
        have hP : va_P D vwCl (wX aX adC adH adF adT uX ++ (wC ty adC uC ++ (wF ty adF uF ++ (wH ty adH adS uH ++ (wT ty adT r125.2 ++ wS ty adS uS))))) H := hP
        have hD : va_D A (wX aX adC adH adF adT uX ++ (wC ty adC uC ++ (wF ty adF uF ++ (wH ty adH adS uH ++ (wT ty adT r125.2 ++ wS ty adS uS))))) := hD
        refine lv_pop hx hb dX4_run_128 rfl ?_
        refine lv_iload_n hx hb dX4_run_129 rfl (lv_at hl 1 rfl) ?_
        obtain rfl := Option.some.inj h
        subst hQ
        exact W.iret (v := x1) hx hb hr (fun t ht hW => ⟨⟨x1, (), rfl, rfl, kEnd ht hP⟩, hS.F ht⟩) hS.2.2 dX4_run_130
      · have h := kF h (fun z => z c54)
        refine lv_iload_n hx hb dX4_run_57 rfl (lv_at hl 3 rfl) ?_
        refine lv_aload_n hx hb dX4_run_58 rfl (lv_at hl 0 rfl) ?_
        refine va_get (D := D) (ci := 4) (v := .ref (adT 0)) (C := RX4) (T := TX4) (N := 6) hx hb hts hinX4 hown hK.1 hP 0 rfl rfl 3 (by decide) wf0 (fun _ h9 => h9) rfl dX4_run_59 ?_
        refine va_get (D := D) (ci := 3) (v := .int uT.1) (C := RX3) (T := TX3) (N := 5) hx hb hts hinX3 hown hK.1 hP 14 rfl rfl 0 (by decide) wf2 (fun _ h9 => h9) rfl dX4_run_62 ?_
        refine lv_icmp_eq (tgt := 81) hx hb dX4_run_65 (by decide) (fun c65 => ?_) (fun c65 => ?_)
        · have h := kT h c65
          refine lv_aload_n hx hb dX4_run_81 rfl (lv_at hl 0 rfl) ?_
          refine va_get (D := D) (ci := 4) (v := .ref (adT 0)) (C := RX4) (T := TX4) (N := 6) hx hb hts hinX4 hown hK.1 hP 0 rfl rfl 3 (by decide) wf0 (fun _ h9 => h9) rfl dX4_run_82 ?_
          refine lv_iload_n hx hb dX4_run_85 rfl (lv_at hl 2 rfl) ?_
          refine lv_iload_n hx hb dX4_run_86 rfl (lv_at hl 3 rfl) ?_
          obtain ⟨r87, e87, h⟩ := kBd h
          refine kCallWV (As := [.int x2, .int x3]) (rest := []) (sg := [wX aX adC adH adF adT uX, wC ty adC uC, wF ty adF uF, wH ty adH adS uH, wT ty adT uT, wS ty adS uS]) (sc := [wT ty adT uT]) (s1 := [wT ty adT r87]) (sn := [wX aX adC adH adF adT uX, wC ty adC uC, wF ty adF uF, wH ty adH adS uH, wT ty adT r87, wS ty adS uS]) ⟨hx, hb, hml, hown, hts⟩ (cX3_readCommand_ok l D ty adT H.size uT x2 x3  r87 e87) (cwV 2 hts gX4_run_X3_readCommand rfl rfl rfl (by decide +kernel) ⟨Nat.le_of_ble_eq_true rfl, Nat.le_of_ble_eq_true rfl⟩) hP hK hD hS hA [4] (by decide) rfl 3 14 rfl rfl rfl rfl hl.1 rfl (Nat.le_of_ble_eq_true rfl) dX4_run_87 ⟨Nat.le_of_ble_eq_true rfl, Nat.le_of_ble_eq_true rfl⟩ rfl rfl (fun H locs hP hD hS => ?_)
          have hP : va_P D vwCl (wX aX adC adH adF adT uX ++ (wC ty adC uC ++ (wF ty adF uF ++ (wH ty adH adS uH ++ (wT ty adT r87 ++ wS ty adS uS))))) H := hP
          have hD : va_D A (wX aX adC adH adF adT uX ++ (wC ty adC uC ++ (wF ty adF uF ++ (wH ty adH adS uH ++ (wT ty adT r87 ++ wS ty adS uS))))) := hD
          refine lv_iload_n hx hb dX4_run_90 rfl (lv_at hl 3 rfl) ?_
          refine lv_iconst (v := 1) hx hb dX4_run_91 (by decide) ?_
          refine lv_iadd hx hb dX4_run_92 ?_
          refine lv_istore_n (lv' := [(2, .int (x3 + (1 : Int32))), (0, .ref aX), (1, .int x1), (3, .int x3)]) hx hb dX4_run_93 rfl hl (by decide) rfl (fun ls hl => ?_)
          refine lv_aload_n hx hb dX4_run_94 rfl (lv_at hl 1 rfl) ?_
          refine lv_aload_n hx hb dX4_run_95 rfl (lv_at hl 1 rfl) ?_
          obtain ⟨r96, e96, h⟩ := kBd h
          refine kCallWIs (As := []) (rest := [.ref aX]) (sg := [wX aX adC adH adF adT uX, wC ty adC uC, wF ty adF uF, wH ty adH adS uH, wT ty adT r87, wS ty adS uS]) (sc := [wX aX adC adH adF adT uX, wC ty adC uC, wF ty adF uF, wT ty adT r87]) (s1 := [wX aX adC adH adF adT uX, wC ty adC r96.2.1, wF ty adF r96.2.2, wT ty adT r87]) (sn := [wX aX adC adH adF adT uX, wC ty adC r96.2.1, wF ty adF r96.2.2, wH ty adH adS uH, wT ty adT r87, wS ty adS uS]) ⟨hx, hb, hml, hown, hts⟩ (cX4_execute_ok l D ty adK adV aX adC adF adH adT H.size uX uC uF r87  r96 e96) (cwV 0 hts gX4_run_X4_execute rfl rfl rfl (by decide +kernel) ⟨Nat.le_of_ble_eq_true rfl, Nat.le_of_ble_eq_true rfl⟩) hP hD hK hS hA hE [0, 1, 2, 4] (by decide) rfl 4 0 rfl rfl rfl rfl hl.1 rfl (Nat.le_of_ble_eq_true rfl) dX4_run_96 ⟨Nat.le_of_ble_eq_true rfl, Nat.le_of_ble_eq_true rfl⟩ rfl rfl (fun H locs hP hD hS => ?_)
          have hP : va_P D vwCl (wX aX adC adH adF adT uX ++ (wC ty adC r96.2.1 ++ (wF ty adF r96.2.2 ++ (wH ty adH adS uH ++ (wT ty adT r87 ++ wS ty adS uS))))) H := hP
          have hD : va_D A (wX aX adC adH adF adT uX ++ (wC ty adC r96.2.1 ++ (wF ty adF r96.2.2 ++ (wH ty adH adS uH ++ (wT ty adT r87 ++ wS ty adS uS))))) := hD
          obtain ⟨r99, e99, h⟩ := kBd h
          refine kCallSI (As := [.int r96.1]) (rest := [.ref aX]) ⟨hx, hb, hml, hown, hts⟩ (cX4_failureOf_ok l D ty  H.size r96.1  r99 e99) (va_cwS 1 hts gX4_run_X4_failureOf rfl rfl rfl (by decide +kernel) ⟨Nat.le_of_ble_eq_true rfl, Nat.le_of_ble_eq_true rfl⟩) hP hK hD hS hA rfl hl.1 rfl (Nat.le_of_ble_eq_true rfl) dX4_run_99 ⟨Nat.le_of_ble_eq_true rfl, Nat.le_of_ble_eq_true rfl⟩ (fun H locs hP hS => ?_)
          refine va_put (D := D) (ci := 4) (v := .int r99) (ty := .int) (C := RX4) (T := TX4) (N := 6) hx hb hts hinX4 tyX4 tyX4_ok nmX4 hown hK.1 hP hD hS 0 rfl rfl 5 (by decide) wf4 (fun _ h9 => h9) rfl (by decide +kernel) rfl rfl (Nat.le_of_ble_eq_true rfl) dX4_run_102 (fun H locs hP hD hS => ?_)
          have hP : va_P D vwCl (wX aX adC adH adF adT (uX.1, r99) ++ (wC ty adC r96.2.1 ++ (wF ty adF r96.2.2 ++ (wH ty adH adS uH ++ (wT ty adT r87 ++ wS ty adS uS))))) H := hP
          have hD : va_D A (wX aX adC adH adF adT (uX.1, r99) ++ (wC ty adC r96.2.1 ++ (wF ty adF r96.2.2 ++ (wH ty adH adS uH ++ (wT ty adT r87 ++ wS ty adS uS))))) := hD
          refine lv_aload_n hx hb dX4_run_105 rfl (lv_at hl 1 rfl) ?_
          refine va_get (D := D) (ci := 4) (v := .int r99) (C := RX4) (T := TX4) (N := 6) hx hb hts hinX4 hown hK.1 hP 0 rfl rfl 5 (by decide) wf4 (fun _ h9 => h9) rfl dX4_run_106 ?_
          refine lv_if_ne (tgt := 115) hx hb dX4_run_109 (by decide) (fun c109 => ?_) (fun c109 => ?_)
          · have h := kT h c109
            refine lv_iinc (v := (x3 + 1)) (lv' := [(3, .int (x3 + 1)), (2, .int (x3 + (1 : Int32))), (0, .ref aX), (1, .int x1)]) hx hb dX4_run_115 hl (k := 3) rfl rfl (by decide) rfl (fun ls hl => ?_)
            refine lv_goto (tgt := 39) hx hb dX4_run_118 (by decide) ?_
            exact hn39 (uX.1, r99) r96.2.1 r96.2.2 r87 x1 (x3 + (1 : Int32)) (x3 + 1) h H locs ls hP hD hS (lv_sub hl [2, 3, 1, 0] rfl)
          · have h := kF h (fun z => z c109)
            refine lv_iinc (v := (x1 + 1)) (lv' := [(1, .int (x1 + 1)), (2, .int (x3 + (1 : Int32))), (0, .ref aX), (3, .int x3)]) hx hb dX4_run_112 hl (k := 2) rfl rfl (by decide) rfl (fun ls hl => ?_)
            refine lv_iinc (v := (x3 + 1)) (lv' := [(3, .int (x3 + 1)), (1, .int (x1 + 1)), (2, .int (x3 + (1 : Int32))), (0, .ref aX)]) hx hb dX4_run_115 hl (k := 3) rfl rfl (by decide) rfl (fun ls hl => ?_)
            refine lv_goto (tgt := 39) hx hb dX4_run_118 (by decide) ?_
            exact hn39 (uX.1, r99) r96.2.1 r96.2.2 r87 (x1 + 1) (x3 + (1 : Int32)) (x3 + 1) h H locs ls hP hD hS (lv_sub hl [3, 1, 2, 0] rfl)
        · have h := kF h c65
          refine lv_aload_n hx hb dX4_run_68 rfl (lv_at hl 0 rfl) ?_
          refine va_get (D := D) (ci := 4) (v := .ref (adT 0)) (C := RX4) (T := TX4) (N := 6) hx hb hts hinX4 hown hK.1 hP 0 rfl rfl 3 (by decide) wf0 (fun _ h9 => h9) rfl dX4_run_69 ?_
          refine lv_iload_n hx hb dX4_run_72 rfl (lv_at hl 3 rfl) ?_
          obtain ⟨r73, e73, h⟩ := kBd h
          refine kCallWI (As := [.int x3]) (rest := []) (sg := [wX aX adC adH adF adT uX, wC ty adC uC, wF ty adF uF, wH ty adH adS uH, wT ty adT uT, wS ty adS uS]) (sc := [wT ty adT uT]) (s1 := [wT ty adT uT]) (sn := [wX aX adC adH adF adT uX, wC ty adC uC, wF ty adF uF, wH ty adH adS uH, wT ty adT uT, wS ty adS uS]) ⟨hx, hb, hml, hown, hts⟩ (cX3_at_ok l D ty adT H.size uT x3  r73 e73) (cwV 1 hts gX4_run_X3_at rfl rfl rfl (by decide +kernel) ⟨Nat.le_of_ble_eq_true rfl, Nat.le_of_ble_eq_true rfl⟩) hP hK hD hS hA [4] (by decide) rfl 3 14 rfl rfl rfl rfl hl.1 rfl (Nat.le_of_ble_eq_true rfl) dX4_run_73 ⟨Nat.le_of_ble_eq_true rfl, Nat.le_of_ble_eq_true rfl⟩ rfl rfl (fun H locs hP hD hS => ?_)
          have hP : va_P D vwCl (wX aX adC adH adF adT uX ++ (wC ty adC uC ++ (wF ty adF uF ++ (wH ty adH adS uH ++ (wT ty adT uT ++ wS ty adS uS))))) H := hP
          have hD : va_D A (wX aX adC adH adF adT uX ++ (wC ty adC uC ++ (wF ty adF uF ++ (wH ty adH adS uH ++ (wT ty adT uT ++ wS ty adS uS))))) := hD
          refine lv_bipush (v := 59) hx hb dX4_run_76 (by decide) ?_
          refine lv_icmp_ne (tgt := 115) hx hb dX4_run_78 (by decide) (fun c78 => ?_) (fun c78 => ?_)
          · have h := kT h c78
            refine lv_iinc (v := (x3 + 1)) (lv' := [(3, .int (x3 + 1)), (0, .ref aX), (1, .int x1), (2, .int x2)]) hx hb dX4_run_115 hl (k := 3) rfl rfl (by decide) rfl (fun ls hl => ?_)
            refine lv_goto (tgt := 39) hx hb dX4_run_118 (by decide) ?_
            exact hn39 uX uC uF uT x1 x2 (x3 + 1) h H locs ls hP hD hS (lv_sub hl [1, 2, 3, 0] rfl)
          · have h := kF h (fun z => z c78)
            refine lv_aload_n hx hb dX4_run_81 rfl (lv_at hl 0 rfl) ?_
            refine va_get (D := D) (ci := 4) (v := .ref (adT 0)) (C := RX4) (T := TX4) (N := 6) hx hb hts hinX4 hown hK.1 hP 0 rfl rfl 3 (by decide) wf0 (fun _ h9 => h9) rfl dX4_run_82 ?_
            refine lv_iload_n hx hb dX4_run_85 rfl (lv_at hl 2 rfl) ?_
            refine lv_iload_n hx hb dX4_run_86 rfl (lv_at hl 3 rfl) ?_
            obtain ⟨r87, e87, h⟩ := kBd h
            refine kCallWV (As := [.int x2, .int x3]) (rest := []) (sg := [wX aX adC adH adF adT uX, wC ty adC uC, wF ty adF uF, wH ty adH adS uH, wT ty adT uT, wS ty adS uS]) (sc := [wT ty adT uT]) (s1 := [wT ty adT r87]) (sn := [wX aX adC adH adF adT uX, wC ty adC uC, wF ty adF uF, wH ty adH adS uH, wT ty adT r87, wS ty adS uS]) ⟨hx, hb, hml, hown, hts⟩ (cX3_readCommand_ok l D ty adT H.size uT x2 x3  r87 e87) (cwV 2 hts gX4_run_X3_readCommand rfl rfl rfl (by decide +kernel) ⟨Nat.le_of_ble_eq_true rfl, Nat.le_of_ble_eq_true rfl⟩) hP hK hD hS hA [4] (by decide) rfl 3 14 rfl rfl rfl rfl hl.1 rfl (Nat.le_of_ble_eq_true rfl) dX4_run_87 ⟨Nat.le_of_ble_eq_true rfl, Nat.le_of_ble_eq_true rfl⟩ rfl rfl (fun H locs hP hD hS => ?_)
            have hP : va_P D vwCl (wX aX adC adH adF adT uX ++ (wC ty adC uC ++ (wF ty adF uF ++ (wH ty adH adS uH ++ (wT ty adT r87 ++ wS ty adS uS))))) H := hP
            have hD : va_D A (wX aX adC adH adF adT uX ++ (wC ty adC uC ++ (wF ty adF uF ++ (wH ty adH adS uH ++ (wT ty adT r87 ++ wS ty adS uS))))) := hD
            refine lv_iload_n hx hb dX4_run_90 rfl (lv_at hl 3 rfl) ?_
            refine lv_iconst (v := 1) hx hb dX4_run_91 (by decide) ?_
            refine lv_iadd hx hb dX4_run_92 ?_
            refine lv_istore_n (lv' := [(2, .int (x3 + (1 : Int32))), (0, .ref aX), (1, .int x1), (3, .int x3)]) hx hb dX4_run_93 rfl hl (by decide) rfl (fun ls hl => ?_)
            refine lv_aload_n hx hb dX4_run_94 rfl (lv_at hl 1 rfl) ?_
            refine lv_aload_n hx hb dX4_run_95 rfl (lv_at hl 1 rfl) ?_
            obtain ⟨r96, e96, h⟩ := kBd h
            refine kCallWIs (As := []) (rest := [.ref aX]) (sg := [wX aX adC adH adF adT uX, wC ty adC uC, wF ty adF uF, wH ty adH adS uH, wT ty adT r87, wS ty adS uS]) (sc := [wX aX adC adH adF adT uX, wC ty adC uC, wF ty adF uF, wT ty adT r87]) (s1 := [wX aX adC adH adF adT uX, wC ty adC r96.2.1, wF ty adF r96.2.2, wT ty adT r87]) (sn := [wX aX adC adH adF adT uX, wC ty adC r96.2.1, wF ty adF r96.2.2, wH ty adH adS uH, wT ty adT r87, wS ty adS uS]) ⟨hx, hb, hml, hown, hts⟩ (cX4_execute_ok l D ty adK adV aX adC adF adH adT H.size uX uC uF r87  r96 e96) (cwV 0 hts gX4_run_X4_execute rfl rfl rfl (by decide +kernel) ⟨Nat.le_of_ble_eq_true rfl, Nat.le_of_ble_eq_true rfl⟩) hP hD hK hS hA hE [0, 1, 2, 4] (by decide) rfl 4 0 rfl rfl rfl rfl hl.1 rfl (Nat.le_of_ble_eq_true rfl) dX4_run_96 ⟨Nat.le_of_ble_eq_true rfl, Nat.le_of_ble_eq_true rfl⟩ rfl rfl (fun H locs hP hD hS => ?_)
            have hP : va_P D vwCl (wX aX adC adH adF adT uX ++ (wC ty adC r96.2.1 ++ (wF ty adF r96.2.2 ++ (wH ty adH adS uH ++ (wT ty adT r87 ++ wS ty adS uS))))) H := hP
            have hD : va_D A (wX aX adC adH adF adT uX ++ (wC ty adC r96.2.1 ++ (wF ty adF r96.2.2 ++ (wH ty adH adS uH ++ (wT ty adT r87 ++ wS ty adS uS))))) := hD
            obtain ⟨r99, e99, h⟩ := kBd h
            refine kCallSI (As := [.int r96.1]) (rest := [.ref aX]) ⟨hx, hb, hml, hown, hts⟩ (cX4_failureOf_ok l D ty  H.size r96.1  r99 e99) (va_cwS 1 hts gX4_run_X4_failureOf rfl rfl rfl (by decide +kernel) ⟨Nat.le_of_ble_eq_true rfl, Nat.le_of_ble_eq_true rfl⟩) hP hK hD hS hA rfl hl.1 rfl (Nat.le_of_ble_eq_true rfl) dX4_run_99 ⟨Nat.le_of_ble_eq_true rfl, Nat.le_of_ble_eq_true rfl⟩ (fun H locs hP hS => ?_)
            refine va_put (D := D) (ci := 4) (v := .int r99) (ty := .int) (C := RX4) (T := TX4) (N := 6) hx hb hts hinX4 tyX4 tyX4_ok nmX4 hown hK.1 hP hD hS 0 rfl rfl 5 (by decide) wf4 (fun _ h9 => h9) rfl (by decide +kernel) rfl rfl (Nat.le_of_ble_eq_true rfl) dX4_run_102 (fun H locs hP hD hS => ?_)
            have hP : va_P D vwCl (wX aX adC adH adF adT (uX.1, r99) ++ (wC ty adC r96.2.1 ++ (wF ty adF r96.2.2 ++ (wH ty adH adS uH ++ (wT ty adT r87 ++ wS ty adS uS))))) H := hP
            have hD : va_D A (wX aX adC adH adF adT (uX.1, r99) ++ (wC ty adC r96.2.1 ++ (wF ty adF r96.2.2 ++ (wH ty adH adS uH ++ (wT ty adT r87 ++ wS ty adS uS))))) := hD
            refine lv_aload_n hx hb dX4_run_105 rfl (lv_at hl 1 rfl) ?_
            refine va_get (D := D) (ci := 4) (v := .int r99) (C := RX4) (T := TX4) (N := 6) hx hb hts hinX4 hown hK.1 hP 0 rfl rfl 5 (by decide) wf4 (fun _ h9 => h9) rfl dX4_run_106 ?_
            refine lv_if_ne (tgt := 115) hx hb dX4_run_109 (by decide) (fun c109 => ?_) (fun c109 => ?_)
            · have h := kT h c109
              refine lv_iinc (v := (x3 + 1)) (lv' := [(3, .int (x3 + 1)), (2, .int (x3 + (1 : Int32))), (0, .ref aX), (1, .int x1)]) hx hb dX4_run_115 hl (k := 3) rfl rfl (by decide) rfl (fun ls hl => ?_)
              refine lv_goto (tgt := 39) hx hb dX4_run_118 (by decide) ?_
              exact hn39 (uX.1, r99) r96.2.1 r96.2.2 r87 x1 (x3 + (1 : Int32)) (x3 + 1) h H locs ls hP hD hS (lv_sub hl [2, 3, 1, 0] rfl)
            · have h := kF h (fun z => z c109)
              refine lv_iinc (v := (x1 + 1)) (lv' := [(1, .int (x1 + 1)), (2, .int (x3 + (1 : Int32))), (0, .ref aX), (3, .int x3)]) hx hb dX4_run_112 hl (k := 2) rfl rfl (by decide) rfl (fun ls hl => ?_)
              refine lv_iinc (v := (x3 + 1)) (lv' := [(3, .int (x3 + 1)), (1, .int (x1 + 1)), (2, .int (x3 + (1 : Int32))), (0, .ref aX)]) hx hb dX4_run_115 hl (k := 3) rfl rfl (by decide) rfl (fun ls hl => ?_)
              refine lv_goto (tgt := 39) hx hb dX4_run_118 (by decide) ?_
              exact hn39 (uX.1, r99) r96.2.1 r96.2.2 r87 (x1 + 1) (x3 + (1 : Int32)) (x3 + 1) h H locs ls hP hD hS (lv_sub hl [3, 1, 2, 0] rfl)
  have L39 : ∀ (uH : KH) (uS : KS) (n : Nat) (uX : KX) (uC : KC) (uF : KF) (uT : KT) (x1 : Int32) (x2 : Int32) (x3 : Int32), kLoopC n (fun q nx39 => fX4_run_c39 q.1 q.2.1 q.2.2.1 uH q.2.2.2.1 uS q.2.2.2.2.1 q.2.2.2.2.2.1 q.2.2.2.2.2.2 nx39) (uX, uC, uF, uT, x1, x2, x3) = some res → ∀ (H : Heap) (locs : List Loc) (ls : Array Slot), va_P D vwCl (wX aX adC adH adF adT uX ++ (wC ty adC uC ++ (wF ty adF uF ++ (wH ty adH adS uH ++ (wT ty adT uT ++ wS ty adS uS))))) H → va_D A (wX aX adC adH adF adT uX ++ (wC ty adC uC ++ (wF ty adF uF ++ (wH ty adH adS uH ++ (wT ty adT uT ++ wS ty adS uS))))) → va_S A s.heap H locs → lv_has ls 4 [(0, .ref aX), (1, .int x1), (2, .int x2), (3, .int x3)] → W p l e (headSpec wsX4_run { frames := 7, cells := 0, slots := 0, locals := 151 }).room s m ([.ref aX] : List Value).toArray below meth c H locs 0 0 Q (F0 m 39 ls []) := by
    intro uH uS n
    induction n with
    | zero => intro uX uC uF uT x1 x2 x3 h; exact absurd h (by simp [kLoopC])
    | succ n ih => intro uX uC uF uT x1 x2 x3 h; exact B39 uH uS (kLoopC n (fun q nx39 => fX4_run_c39 q.1 q.2.1 q.2.2.1 uH q.2.2.2.1 uS q.2.2.2.2.1 q.2.2.2.2.2.1 q.2.2.2.2.2.2 nx39)) ih uX uC uF uT x1 x2 x3 h
  have hl := lv_entry ([.ref aX]) (n := 4) (Nat.le_of_ble_eq_true rfl)
  rw [lg_entry_eq]
  generalize (lg_sl ([.ref aX]) ++ List.replicate (4 - (lg_sl ([.ref aX])).length) Slot.unset).toArray = ls at hl ⊢
  have hl : lv_has ls 4 [(0, .ref aX)] := hl
  unfold fX4_run at h
  have E0 : ∀ (H : Heap) (locs : List Loc) (ls : Array Slot), va_P D vwCl (wX aX adC adH adF adT vX ++ (wC ty adC vC ++ (wF ty adF vF ++ (wH ty adH adS vH ++ (wT ty adT vT ++ wS ty adS vS))))) H → va_D A (wX aX adC adH adF adT vX ++ (wC ty adC vC ++ (wF ty adF vF ++ (wH ty adH adS vH ++ (wT ty adT vT ++ wS ty adS vS))))) → va_S A s.heap H locs → lv_has ls 4 [(0, .ref aX)] → W p l e (headSpec wsX4_run { frames := 7, cells := 0, slots := 0, locals := 151 }).room s m ([.ref aX] : List Value).toArray below meth c H locs 0 0 Q (F0 m 0 ls []) := by
    intro H locs ls hP hD hS hl
    refine lv_aload_n hx hb dX4_run_0 rfl (lv_at hl 0 rfl) ?_
    refine va_get (D := D) (ci := 4) (v := .ref (adH 0)) (C := RX4) (T := TX4) (N := 6) hx hb hts hinX4 hown hK.1 hP 0 rfl rfl 1 (by decide) wf5 (fun _ h9 => h9) rfl dX4_run_1 ?_
    refine lv_aload_n hx hb dX4_run_4 rfl (lv_at hl 0 rfl) ?_
    refine va_get (D := D) (ci := 4) (v := .ref (adC 0)) (C := RX4) (T := TX4) (N := 6) hx hb hts hinX4 hown hK.1 hP 0 rfl rfl 0 (by decide) wf6 (fun _ h9 => h9) rfl dX4_run_5 ?_
    obtain ⟨r8, e8, h⟩ := kBd h
    refine kCallWV (As := [.ref (adC 0)]) (rest := []) (sg := [wX aX adC adH adF adT vX, wC ty adC vC, wF ty adF vF, wH ty adH adS vH, wT ty adT vT, wS ty adS vS]) (sc := [wC ty adC vC, wH ty adH adS vH, wS ty adS vS]) (s1 := [wC ty adC vC, wH ty adH adS vH, wS ty adS r8]) (sn := [wX aX adC adH adF adT vX, wC ty adC vC, wF ty adF vF, wH ty adH adS vH, wT ty adT vT, wS ty adS r8]) ⟨hx, hb, hml, hown, hts⟩ (cX2_prepare_ok l D ty adC adH adS H.size vC vH vS  r8 e8) (cwV 1 hts gX4_run_X2_prepare rfl rfl rfl (by decide +kernel) ⟨Nat.le_of_ble_eq_true rfl, Nat.le_of_ble_eq_true rfl⟩) hP hK hD hS hA [1, 3, 5] (by decide) rfl 2 12 rfl rfl rfl rfl hl.1 rfl (Nat.le_of_ble_eq_true rfl) dX4_run_8 ⟨Nat.le_of_ble_eq_true rfl, Nat.le_of_ble_eq_true rfl⟩ rfl rfl (fun H locs hP hD hS => ?_)
    have hP : va_P D vwCl (wX aX adC adH adF adT vX ++ (wC ty adC vC ++ (wF ty adF vF ++ (wH ty adH adS vH ++ (wT ty adT vT ++ wS ty adS r8))))) H := hP
    have hD : va_D A (wX aX adC adH adF adT vX ++ (wC ty adC vC ++ (wF ty adF vF ++ (wH ty adH adS vH ++ (wT ty adT vT ++ wS ty adS r8))))) := hD
    refine lv_aload_n hx hb dX4_run_11 rfl (lv_at hl 0 rfl) ?_
    refine va_get (D := D) (ci := 4) (v := .ref (adH 0)) (C := RX4) (T := TX4) (N := 6) hx hb hts hinX4 hown hK.1 hP 0 rfl rfl 1 (by decide) wf5 (fun _ h9 => h9) rfl dX4_run_12 ?_
    obtain ⟨r15, e15, h⟩ := kBd h
    refine kCallWV (As := []) (rest := []) (sg := [wX aX adC adH adF adT vX, wC ty adC vC, wF ty adF vF, wH ty adH adS vH, wT ty adT vT, wS ty adS r8]) (sc := [wH ty adH adS vH]) (s1 := [wH ty adH adS r15]) (sn := [wX aX adC adH adF adT vX, wC ty adC vC, wF ty adF vF, wH ty adH adS r15, wT ty adT vT, wS ty adS r8]) ⟨hx, hb, hml, hown, hts⟩ (cX2_keep_ok l D ty adH adS H.size vH  r15 e15) (cwV 0 hts gX4_run_X2_keep rfl rfl rfl (by decide +kernel) ⟨Nat.le_of_ble_eq_true rfl, Nat.le_of_ble_eq_true rfl⟩) hP hK hD hS hA [3] (by decide) rfl 2 12 rfl rfl rfl rfl hl.1 rfl (Nat.le_of_ble_eq_true rfl) dX4_run_15 ⟨Nat.le_of_ble_eq_true rfl, Nat.le_of_ble_eq_true rfl⟩ rfl rfl (fun H locs hP hD hS => ?_)
    have hP : va_P D vwCl (wX aX adC adH adF adT vX ++ (wC ty adC vC ++ (wF ty adF vF ++ (wH ty adH adS r15 ++ (wT ty adT vT ++ wS ty adS r8))))) H := hP
    have hD : va_D A (wX aX adC adH adF adT vX ++ (wC ty adC vC ++ (wF ty adF vF ++ (wH ty adH adS r15 ++ (wT ty adT vT ++ wS ty adS r8))))) := hD
    refine lv_aload_n hx hb dX4_run_18 rfl (lv_at hl 0 rfl) ?_
    refine lv_dup hx hb dX4_run_19 rfl ?_
    refine va_get (D := D) (ci := 4) (v := .int vX.1) (C := RX4) (T := TX4) (N := 6) hx hb hts hinX4 hown hK.1 hP 0 rfl rfl 4 (by decide) wf7 (fun _ h9 => h9) rfl dX4_run_20 ?_
    refine lv_iconst (v := 1) hx hb dX4_run_23 (by decide) ?_
    refine lv_iadd hx hb dX4_run_24 ?_
    refine va_put (D := D) (ci := 4) (v := .int (vX.1 + (1 : Int32))) (ty := .int) (C := RX4) (T := TX4) (N := 6) hx hb hts hinX4 tyX4 tyX4_ok nmX4 hown hK.1 hP hD hS 0 rfl rfl 4 (by decide) wf7 (fun _ h9 => h9) rfl (by decide +kernel) rfl rfl (Nat.le_of_ble_eq_true rfl) dX4_run_25 (fun H locs hP hD hS => ?_)
    have hP : va_P D vwCl (wX aX adC adH adF adT ((vX.1 + (1 : Int32)), vX.2) ++ (wC ty adC vC ++ (wF ty adF vF ++ (wH ty adH adS r15 ++ (wT ty adT vT ++ wS ty adS r8))))) H := hP
    have hD : va_D A (wX aX adC adH adF adT ((vX.1 + (1 : Int32)), vX.2) ++ (wC ty adC vC ++ (wF ty adF vF ++ (wH ty adH adS r15 ++ (wT ty adT vT ++ wS ty adS r8))))) := hD
    refine lv_aload_n hx hb dX4_run_28 rfl (lv_at hl 0 rfl) ?_
    refine lv_iconst (v := 0) hx hb dX4_run_29 (by decide) ?_
    refine va_put (D := D) (ci := 4) (v := .int (0 : Int32)) (ty := .int) (C := RX4) (T := TX4) (N := 6) hx hb hts hinX4 tyX4 tyX4_ok nmX4 hown hK.1 hP hD hS 0 rfl rfl 5 (by decide) wf4 (fun _ h9 => h9) rfl (by decide +kernel) rfl rfl (Nat.le_of_ble_eq_true rfl) dX4_run_30 (fun H locs hP hD hS => ?_)
    have hP : va_P D vwCl (wX aX adC adH adF adT ((vX.1 + (1 : Int32)), (0 : Int32)) ++ (wC ty adC vC ++ (wF ty adF vF ++ (wH ty adH adS r15 ++ (wT ty adT vT ++ wS ty adS r8))))) H := hP
    have hD : va_D A (wX aX adC adH adF adT ((vX.1 + (1 : Int32)), (0 : Int32)) ++ (wC ty adC vC ++ (wF ty adF vF ++ (wH ty adH adS r15 ++ (wT ty adT vT ++ wS ty adS r8))))) := hD
    refine lv_iconst (v := 0) hx hb dX4_run_33 (by decide) ?_
    refine lv_istore_n (lv' := [(1, .int (0 : Int32)), (0, .ref aX)]) hx hb dX4_run_34 rfl hl (by decide) rfl (fun ls hl => ?_)
    refine lv_iconst (v := 0) hx hb dX4_run_35 (by decide) ?_
    refine lv_istore_n (lv' := [(2, .int (0 : Int32)), (1, .int (0 : Int32)), (0, .ref aX)]) hx hb dX4_run_36 rfl hl (by decide) rfl (fun ls hl => ?_)
    refine lv_iconst (v := 0) hx hb dX4_run_37 (by decide) ?_
    refine lv_istore_n (lv' := [(3, .int (0 : Int32)), (2, .int (0 : Int32)), (1, .int (0 : Int32)), (0, .ref aX)]) hx hb dX4_run_38 rfl hl (by decide) rfl (fun ls hl => ?_)
    exact L39 r15 r8  kFu ((vX.1 + (1 : Int32)), (0 : Int32)) vC vF vT (0 : Int32) (0 : Int32) (0 : Int32) h H locs ls hP hD hS (lv_sub hl [3, 2, 1, 0] rfl)
  exact E0 s.heap [] ls hP hD hS hl
