def kC0 : KC := (0, 100000, 0, 300, 7000, fun _ => 0, fun _ => 0, fun _ => 0, fun _ => 0, fun _ => 0, fun _ => 0, fun _ => 0)
def kF0 : KF := (0, fun _ => 0, fun _ => 0)
def kT0 : KT := (0, 0, fun _ => 0, fun _ => 0, fun _ => 0)
def kH0 : KH := (0, 0)
def kX0 : KX := (0, -1000000005)
def kBo (D : va_G) (ty : kTy) (w : va_W) (sz : Nat) (U : State) : Prop := kB D ty w sz U ∧ va_AO RX0 U
theorem kBo_blind (av : List Value) (D : va_G) (ty : kTy) (w : va_W) (sz : Nat) : FrameBlind (va_Pc av (kBo D ty w sz)) := fun a U g mk q => by
  obtain ⟨q0, q1, q2⟩ := q
  exact ⟨q0, (kB_blind av D ty w sz a U g mk ⟨q0, q1⟩).2, va_AO.moved (u := U) (U := U.calling g mk a) (Vm.Alike.refl U.vm) q2⟩
theorem kRow {D : va_G} {ws wn : va_W} {H : Heap} {a : Nat} {cA : ClassId} {n : Nat} {f g : Nat → Option Nat} {x : Nat × va_E} {tl : va_W} (hP : va_P D vwCl ws H) (hw : ws = x :: (a, .inl (cA, n, .inr (.inr (.inr (.inr f))))) :: tl) (hfg : ∀ k, k < n → f k = g k) (hn : wn = x :: (a, .inl (cA, n, .inr (.inr (.inr (.inr g))))) :: tl) : va_P D vwCl wn H := by
  subst hw
  subst hn
  intro k q h
  match k, h with
  | 0, h => exact hP 0 q h
  | 1, h =>
    cases h
    have h1 := hP 1 _ rfl
    have e : vp_cell cA (n, .inr (.inr (.inr (.inr f)))) = vp_cell cA (n, .inr (.inr (.inr (.inr g)))) := by
      rw [vp_cell_q, vp_cell_q]
      unfold arrV
      congr 1
      congr 1
      funext j
      show va_rf (f j.val) = va_rf (g j.val)
      rw [hfg j.val j.isLt]
    show H[a]? = some (vp_cell cA (n, .inr (.inr (.inr (.inr g)))))
    rw [← e]
    exact h1
  | k + 2, h => exact hP (k + 2) q h
section KNEW
variable {p : Program} {l : Launch} {e : Env} {R : Room} {s : State} {m : MethodId} {args : Array Value} {below : List Frame} {meth : Method} {c : Code} {H H0 : Heap} {locs : List Loc} {cells slots : Nat} {Q : State → Prop}
variable {cc : ByteArray} {pc : Nat} {rest : List Value} {ls : Array Slot} {D : va_G} {ty : kTy} {ws : va_W} {A : Nat → Prop}
theorem kNewa {atype : ArrayType} {fty : FieldType} {cA0 : ClassId} {N' : Nat} {a0 : vp_A} {n : Int32} (hexec : p.tables.exec = Jvm.exec) (hb : c.code = cc) (harr : (Cond.arrayClass fty).before args s = true) (hty : newarray.typeOf atype = fty) (k : Nat) (hk : (kTys ty)[k]? = some (cA0, fty)) (hra : ∀ c, va_RA s c fty → s.vm.findClass ("[" ++ fty.toString) = some c)
    (hK : kK D ty s) (hP : va_P D vwCl ws H) (hD : va_D A ws) (hS : va_S A H0 H locs) (hA : ∀ q, H0.size ≤ q → A q) (ha : ∀ cA : ClassId, vp_cell cA a0 = arrV cA N' (fun _ => defaultValue fty)) (hn : ¬ n < 0) (hN : n.toNatClampNeg = N') (hbytes : N' * componentBytes fty ≤ 536870912) (hcells : cells + 1 ≤ R.cells) (hslots : slots + N' ≤ R.slots) (hdg : decode cc pc = .ok (.newarray atype, 2))
    (kk : ∀ (q : Nat) (H1 : Heap), va_P D vwCl (ws ++ [(q, .inl (cA0, a0))]) H1 → va_D A (ws ++ [(q, .inl (cA0, a0))]) → va_S A H0 H1 locs → W p l e R s m args below meth c H1 locs (cells + 1) (slots + N') Q (F0 m (pc + 2) ls (.ref q :: rest))) : W p l e R s m args below meth c H locs cells slots Q (F0 m pc ls (.int n :: rest)) := by
  refine va_newa (atype := atype) (ty := fty) hexec hb (by rw [hty]; exact harr) hty hK.1 hP hD hS hA ha hn hN hbytes hcells hslots hdg (fun q cA H1 hK1 hP1 hD1 hS1 => ?_)
  have e1 := hra _ (hK1.2 4 (cA, fty) rfl).2
  have e2 := hra _ (hK.1.2 k (cA0, fty) hk).2
  have e3 : cA = cA0 := Option.some.inj (e1.symm.trans e2)
  subst e3
  exact kk q H1 hP1 hD1 hS1
theorem kNewq {own : String} {index N' : Nat} {n : Int32} (hexec : p.tables.exec = Jvm.exec) (hb : c.code = cc) (hown : s.vm.findClass own = some m.cls) (hclink : (Cond.classLink own index RX0).before args s = true) (hover : va_AO RX0 s)
    (hK : kK D ty s) (hP : va_P D vwCl ws H) (hD : va_D A ws) (hS : va_S A H0 H locs) (hA : ∀ q, H0.size ≤ q → A q) (hn : ¬ n < 0) (hN : n.toNatClampNeg = N') (hbytes : N' * 4 ≤ 536870912) (hcells : cells + 1 ≤ R.cells) (hslots : slots + N' ≤ R.slots) (hdg : decode cc pc = .ok (.anewarray index, 3))
    (kk : ∀ (q : Nat) (H1 : Heap), va_P D vwCl (ws ++ [(q, .inl (ty.2.2.2, N', .inr (.inr (.inr (.inr (fun _ => none))))))]) H1 → va_D A (ws ++ [(q, .inl (ty.2.2.2, N', .inr (.inr (.inr (.inr (fun _ => none))))))]) → va_S A H0 H1 locs → W p l e R s m args below meth c H1 locs (cells + 1) (slots + N') Q (F0 m (pc + 3) ls (.ref q :: rest))) : W p l e R s m args below meth c H locs cells slots Q (F0 m pc ls (.int n :: rest)) := by
  refine va_newq hexec hb hown hclink hover hK.1 hP hD hS hA hn hN hbytes hcells hslots hdg (fun q cA H1 hK1 hP1 hD1 hS1 => ?_)
  obtain ⟨_, _, _, _, _, e1⟩ := (hK1.2 4 (cA, .object RX0) rfl).2
  obtain ⟨_, _, _, _, _, e2⟩ := (hK.1.2 3 (ty.2.2.2, .object RX0) rfl).2
  have e3 : cA = ty.2.2.2 := Option.some.inj (e1.symm.trans e2)
  subst e3
  exact kk q H1 hP1 hD1 hS1
end KNEW
set_option maxHeartbeats 4000000 in
set_option maxRecDepth 100000 in
theorem cX0_init_ok (l : Launch) (D : va_G) (ty : kTy) (h0 : Nat) (sz : Nat) : Met l yX0_init wsX0_init { frames := 1, cells := 7, slots := 112, locals := 20 } (va_Pc [.ref h0] (kB D ty (([(h0, .inr (0, [.int 0, .int 0, .int 0, .int 0, .int 0, .null, .null, .null, .null, .null, .null, .null]))] : va_W)) sz)) (va_Qv (fun ad : Nat → Nat => ad 0 = h0) (fun ad t => va_P D vwCl (wC ty ad kC0) t.heap ∧ va_D (va_A (([(h0, .inr (0, [.int 0, .int 0, .int 0, .int 0, .int 0, .null, .null, .null, .null, .null, .null, .null]))] : va_W)) sz) (wC ty ad kC0)) (va_A (([(h0, .inr (0, [.int 0, .int 0, .int 0, .int 0, .int 0, .null, .null, .null, .null, .null, .null, .null]))] : va_W)) sz)) 7 112 (va_A (([(h0, .inr (0, [.int 0, .int 0, .int 0, .int 0, .int 0, .null, .null, .null, .null, .null, .null, .null]))] : va_W)) sz) := by
  refine Met.ofW (cc := cX0_init) (maxL := 1) (ret := none) (by decide) rfl ?_
  intro p e s m args below meth c s₁ B hml hv
  obtain ⟨rfl, hsz, hP, hK, hD0⟩ := hv
  have hx := B.exec
  have hb := B.bytes
  have hr := B.returns
  have hts := atoms_spec (ws := wsX0_init) B.pre
  have hown : s.vm.findClass RX0 = some m.cls := findClass_of_methodNamed B.named
  have hlocks := B.notSynchronized
  have hin : meth.name = "<init>" := (name_of_methodNamed B.named B.method).1
  subst hsz
  have hD := hD0.self (sz := s.heap.size)
  generalize hAe : va_A (([(h0, .inr (0, [.int 0, .int 0, .int 0, .int 0, .int 0, .null, .null, .null, .null, .null, .null, .null]))] : va_W)) s.heap.size = A at hD ⊢
  have hA : ∀ q : Nat, s.heap.size ≤ q → A q := fun q h => by rw [← hAe]; exact Or.inr h
  have hS : va_S A s.heap s.heap [] := va_S.rf
  have wf0 := hts (.methodLink RX0 3 objectInit) (by decide +kernel)
  have wf1 := hts (.instanceMethod objectInit) (by decide +kernel)
  have wf2 := hts (.code objectInit ⟨#[0xb1]⟩ 1 none) (by decide +kernel)
  have wf3 := hts (.fieldLink RX0 9 "IceCoreDater$Core" "size" "I") (by decide +kernel)
  have hinX0 : ∀ w ∈ wsX00, w ∈ wsX0_init := by decide +kernel
  have wf5 := hts (.constant RX0 15 (100000)) (by decide +kernel)
  have wf6 := hts (.fieldLink RX0 16 "IceCoreDater$Core" "bed" "I") (by decide +kernel)
  have wf7 := hts (.fieldLink RX0 19 "IceCoreDater$Core" "function" "I") (by decide +kernel)
  have wf8 := hts (.fieldLink RX0 22 "IceCoreDater$Core" "kink" "I") (by decide +kernel)
  have wf9 := hts (.fieldLink RX0 25 "IceCoreDater$Core" "closeOff" "I") (by decide +kernel)
  have wf10 := hts (.arrayClass .int) (by decide +kernel)
  have wf11 := hts (.fieldLink RX0 28 "IceCoreDater$Core" "thickness" "[I") (by decide +kernel)
  have wf12 := hts (.fieldLink RX0 32 "IceCoreDater$Core" "accumulation" "[I") (by decide +kernel)
  have wf13 := hts (.fieldLink RX0 35 "IceCoreDater$Core" "correction" "[I") (by decide +kernel)
  have wf14 := hts (.fieldLink RX0 38 "IceCoreDater$Core" "told" "[I") (by decide +kernel)
  have wf15 := hts (.fieldLink RX0 41 "IceCoreDater$Core" "ashAge" "[I") (by decide +kernel)
  have wf16 := hts (.fieldLink RX0 44 "IceCoreDater$Core" "ashTolerance" "[I") (by decide +kernel)
  have wf17 := hts (.fieldLink RX0 47 "IceCoreDater$Core" "count" "[I") (by decide +kernel)
  have hl := lv_entry ([.ref h0]) (n := 1) (Nat.le_of_ble_eq_true rfl)
  rw [lg_entry_eq]
  generalize (lg_sl ([.ref h0]) ++ List.replicate (1 - (lg_sl ([.ref h0])).length) Slot.unset).toArray = ls at hl ⊢
  have hl : lv_has ls 1 [(0, .ref h0)] := hl
  refine lv_aload_n hx hb dX0_init_0 rfl (lv_at hl 0 rfl) ?_
  refine W.objInit hx hb hown wf0 wf1 wf2 rfl (by rw [hml]; exact hl.1) rfl dX0_init_1 (Nat.le_of_ble_eq_true rfl) (Nat.le_of_ble_eq_true rfl) ?_
  refine W.eq (g2 := F0 m 4 ls []) rfl ?_
  refine lv_aload_n hx hb dX0_init_4 rfl (lv_at hl 0 rfl) ?_
  refine lv_iconst (v := 0) hx hb dX0_init_5 (by decide) ?_
  refine va_put (D := D) (ci := 0) (v := .int (0)) (ty := .int) (C := RX0) (T := TX0) (N := 12) hx hb hts hinX0 tyX0 tyX0_ok nmX0 hown hK.1 hP hD hS 0 rfl rfl 0 (by decide) wf3 (fun _ h9 => h9) rfl (by decide +kernel) rfl rfl (Nat.le_of_ble_eq_true rfl) dX0_init_6 (fun H locs hP hD hS => ?_)
  have hP : va_P D vwCl (([(h0, .inr (0, [.int (0), .int 0, .int 0, .int 0, .int 0, .null, .null, .null, .null, .null, .null, .null]))] : va_W)) H := hP
  have hD : va_D A (([(h0, .inr (0, [.int (0), .int 0, .int 0, .int 0, .int 0, .null, .null, .null, .null, .null, .null, .null]))] : va_W)) := hD
  refine lv_aload_n hx hb dX0_init_9 rfl (lv_at hl 0 rfl) ?_
  refine lv_ldc hx hb hown wf5 dX0_init_10 ?_
  refine va_put (D := D) (ci := 0) (v := .int (100000)) (ty := .int) (C := RX0) (T := TX0) (N := 12) hx hb hts hinX0 tyX0 tyX0_ok nmX0 hown hK.1 hP hD hS 0 rfl rfl 1 (by decide) wf6 (fun _ h9 => h9) rfl (by decide +kernel) rfl rfl (Nat.le_of_ble_eq_true rfl) dX0_init_12 (fun H locs hP hD hS => ?_)
  have hP : va_P D vwCl (([(h0, .inr (0, [.int (0), .int (100000), .int 0, .int 0, .int 0, .null, .null, .null, .null, .null, .null, .null]))] : va_W)) H := hP
  have hD : va_D A (([(h0, .inr (0, [.int (0), .int (100000), .int 0, .int 0, .int 0, .null, .null, .null, .null, .null, .null, .null]))] : va_W)) := hD
  refine lv_aload_n hx hb dX0_init_15 rfl (lv_at hl 0 rfl) ?_
  refine lv_iconst (v := 0) hx hb dX0_init_16 (by decide) ?_
  refine va_put (D := D) (ci := 0) (v := .int (0)) (ty := .int) (C := RX0) (T := TX0) (N := 12) hx hb hts hinX0 tyX0 tyX0_ok nmX0 hown hK.1 hP hD hS 0 rfl rfl 2 (by decide) wf7 (fun _ h9 => h9) rfl (by decide +kernel) rfl rfl (Nat.le_of_ble_eq_true rfl) dX0_init_17 (fun H locs hP hD hS => ?_)
  have hP : va_P D vwCl (([(h0, .inr (0, [.int (0), .int (100000), .int (0), .int 0, .int 0, .null, .null, .null, .null, .null, .null, .null]))] : va_W)) H := hP
  have hD : va_D A (([(h0, .inr (0, [.int (0), .int (100000), .int (0), .int 0, .int 0, .null, .null, .null, .null, .null, .null, .null]))] : va_W)) := hD
  refine lv_aload_n hx hb dX0_init_20 rfl (lv_at hl 0 rfl) ?_
  refine lv_sipush (v := 300) hx hb dX0_init_21 (by decide) ?_
  refine va_put (D := D) (ci := 0) (v := .int (300)) (ty := .int) (C := RX0) (T := TX0) (N := 12) hx hb hts hinX0 tyX0 tyX0_ok nmX0 hown hK.1 hP hD hS 0 rfl rfl 3 (by decide) wf8 (fun _ h9 => h9) rfl (by decide +kernel) rfl rfl (Nat.le_of_ble_eq_true rfl) dX0_init_24 (fun H locs hP hD hS => ?_)
  have hP : va_P D vwCl (([(h0, .inr (0, [.int (0), .int (100000), .int (0), .int (300), .int 0, .null, .null, .null, .null, .null, .null, .null]))] : va_W)) H := hP
  have hD : va_D A (([(h0, .inr (0, [.int (0), .int (100000), .int (0), .int (300), .int 0, .null, .null, .null, .null, .null, .null, .null]))] : va_W)) := hD
  refine lv_aload_n hx hb dX0_init_27 rfl (lv_at hl 0 rfl) ?_
  refine lv_sipush (v := 7000) hx hb dX0_init_28 (by decide) ?_
  refine va_put (D := D) (ci := 0) (v := .int (7000)) (ty := .int) (C := RX0) (T := TX0) (N := 12) hx hb hts hinX0 tyX0 tyX0_ok nmX0 hown hK.1 hP hD hS 0 rfl rfl 4 (by decide) wf9 (fun _ h9 => h9) rfl (by decide +kernel) rfl rfl (Nat.le_of_ble_eq_true rfl) dX0_init_31 (fun H locs hP hD hS => ?_)
  have hP : va_P D vwCl (([(h0, .inr (0, [.int (0), .int (100000), .int (0), .int (300), .int (7000), .null, .null, .null, .null, .null, .null, .null]))] : va_W)) H := hP
  have hD : va_D A (([(h0, .inr (0, [.int (0), .int (100000), .int (0), .int (300), .int (7000), .null, .null, .null, .null, .null, .null, .null]))] : va_W)) := hD
  refine lv_aload_n hx hb dX0_init_34 rfl (lv_at hl 0 rfl) ?_
  refine lv_bipush (v := 16) hx hb dX0_init_35 (by decide) ?_
  have hc1 : 0+1 ≤ 7 := by decide
  have hs1 : 0+16 ≤ 112 := by decide
  refine kNewa (ty := ty) (a0 := (16, (.inl (fun _ => 0)))) (N' := 16) (fty := .int) hx hb wf10 rfl 0 rfl (fun _ h => h) hK hP hD hS hA (fun _ => rfl) (by decide) (by decide) (by decide) hc1 hs1 dX0_init_37 (fun a1 H hP hD hS => ?_)
  have hP : va_P D vwCl (([(h0, .inr (0, [.int (0), .int (100000), .int (0), .int (300), .int (7000), .null, .null, .null, .null, .null, .null, .null])), (a1, .inl (ty.1, 16, .inl (fun _ => 0)))] : va_W)) H := hP
  have hD : va_D A (([(h0, .inr (0, [.int (0), .int (100000), .int (0), .int (300), .int (7000), .null, .null, .null, .null, .null, .null, .null])), (a1, .inl (ty.1, 16, .inl (fun _ => 0)))] : va_W)) := hD
  refine W.widen (k := 1) (n := 16) (by omega) (by omega) ?_
  refine va_putF (D := D) (ci := 0) (v := .ref a1) (ty := .array .int) (C := RX0) (T := TX0) (N := 12) hx hb hts hinX0 tyX0 tyX0_ok nmX0 hown hK.1 hP hD hS 0 rfl rfl 5 (by decide) wf11 (fun _ h9 => h9) rfl hin rfl (by decide +kernel) rfl rfl (Nat.le_of_ble_eq_true rfl) dX0_init_39 (fun H locs hP hD hS => ?_)
  have hP : va_P D vwCl (([(h0, .inr (0, [.int (0), .int (100000), .int (0), .int (300), .int (7000), .ref a1, .null, .null, .null, .null, .null, .null])), (a1, .inl (ty.1, 16, .inl (fun _ => 0)))] : va_W)) H := hP
  have hD : va_D A (([(h0, .inr (0, [.int (0), .int (100000), .int (0), .int (300), .int (7000), .ref a1, .null, .null, .null, .null, .null, .null])), (a1, .inl (ty.1, 16, .inl (fun _ => 0)))] : va_W)) := hD
  refine lv_aload_n hx hb dX0_init_42 rfl (lv_at hl 0 rfl) ?_
  refine lv_bipush (v := 16) hx hb dX0_init_43 (by decide) ?_
  have hc1 : 1+1 ≤ 7 := by decide
  have hs1 : 16+16 ≤ 112 := by decide
  refine kNewa (ty := ty) (a0 := (16, (.inl (fun _ => 0)))) (N' := 16) (fty := .int) hx hb wf10 rfl 0 rfl (fun _ h => h) hK hP hD hS hA (fun _ => rfl) (by decide) (by decide) (by decide) hc1 hs1 dX0_init_45 (fun a2 H hP hD hS => ?_)
  have hP : va_P D vwCl (([(h0, .inr (0, [.int (0), .int (100000), .int (0), .int (300), .int (7000), .ref a1, .null, .null, .null, .null, .null, .null])), (a1, .inl (ty.1, 16, .inl (fun _ => 0))), (a2, .inl (ty.1, 16, .inl (fun _ => 0)))] : va_W)) H := hP
  have hD : va_D A (([(h0, .inr (0, [.int (0), .int (100000), .int (0), .int (300), .int (7000), .ref a1, .null, .null, .null, .null, .null, .null])), (a1, .inl (ty.1, 16, .inl (fun _ => 0))), (a2, .inl (ty.1, 16, .inl (fun _ => 0)))] : va_W)) := hD
  refine W.widen (k := 2) (n := 32) (by omega) (by omega) ?_
  refine va_putF (D := D) (ci := 0) (v := .ref a2) (ty := .array .int) (C := RX0) (T := TX0) (N := 12) hx hb hts hinX0 tyX0 tyX0_ok nmX0 hown hK.1 hP hD hS 0 rfl rfl 6 (by decide) wf12 (fun _ h9 => h9) rfl hin rfl (by decide +kernel) rfl rfl (Nat.le_of_ble_eq_true rfl) dX0_init_47 (fun H locs hP hD hS => ?_)
  have hP : va_P D vwCl (([(h0, .inr (0, [.int (0), .int (100000), .int (0), .int (300), .int (7000), .ref a1, .ref a2, .null, .null, .null, .null, .null])), (a1, .inl (ty.1, 16, .inl (fun _ => 0))), (a2, .inl (ty.1, 16, .inl (fun _ => 0)))] : va_W)) H := hP
  have hD : va_D A (([(h0, .inr (0, [.int (0), .int (100000), .int (0), .int (300), .int (7000), .ref a1, .ref a2, .null, .null, .null, .null, .null])), (a1, .inl (ty.1, 16, .inl (fun _ => 0))), (a2, .inl (ty.1, 16, .inl (fun _ => 0)))] : va_W)) := hD
  refine lv_aload_n hx hb dX0_init_50 rfl (lv_at hl 0 rfl) ?_
  refine lv_bipush (v := 16) hx hb dX0_init_51 (by decide) ?_
  have hc1 : 2+1 ≤ 7 := by decide
  have hs1 : 32+16 ≤ 112 := by decide
  refine kNewa (ty := ty) (a0 := (16, (.inl (fun _ => 0)))) (N' := 16) (fty := .int) hx hb wf10 rfl 0 rfl (fun _ h => h) hK hP hD hS hA (fun _ => rfl) (by decide) (by decide) (by decide) hc1 hs1 dX0_init_53 (fun a3 H hP hD hS => ?_)
  have hP : va_P D vwCl (([(h0, .inr (0, [.int (0), .int (100000), .int (0), .int (300), .int (7000), .ref a1, .ref a2, .null, .null, .null, .null, .null])), (a1, .inl (ty.1, 16, .inl (fun _ => 0))), (a2, .inl (ty.1, 16, .inl (fun _ => 0))), (a3, .inl (ty.1, 16, .inl (fun _ => 0)))] : va_W)) H := hP
  have hD : va_D A (([(h0, .inr (0, [.int (0), .int (100000), .int (0), .int (300), .int (7000), .ref a1, .ref a2, .null, .null, .null, .null, .null])), (a1, .inl (ty.1, 16, .inl (fun _ => 0))), (a2, .inl (ty.1, 16, .inl (fun _ => 0))), (a3, .inl (ty.1, 16, .inl (fun _ => 0)))] : va_W)) := hD
  refine W.widen (k := 3) (n := 48) (by omega) (by omega) ?_
  refine va_putF (D := D) (ci := 0) (v := .ref a3) (ty := .array .int) (C := RX0) (T := TX0) (N := 12) hx hb hts hinX0 tyX0 tyX0_ok nmX0 hown hK.1 hP hD hS 0 rfl rfl 7 (by decide) wf13 (fun _ h9 => h9) rfl hin rfl (by decide +kernel) rfl rfl (Nat.le_of_ble_eq_true rfl) dX0_init_55 (fun H locs hP hD hS => ?_)
  have hP : va_P D vwCl (([(h0, .inr (0, [.int (0), .int (100000), .int (0), .int (300), .int (7000), .ref a1, .ref a2, .ref a3, .null, .null, .null, .null])), (a1, .inl (ty.1, 16, .inl (fun _ => 0))), (a2, .inl (ty.1, 16, .inl (fun _ => 0))), (a3, .inl (ty.1, 16, .inl (fun _ => 0)))] : va_W)) H := hP
  have hD : va_D A (([(h0, .inr (0, [.int (0), .int (100000), .int (0), .int (300), .int (7000), .ref a1, .ref a2, .ref a3, .null, .null, .null, .null])), (a1, .inl (ty.1, 16, .inl (fun _ => 0))), (a2, .inl (ty.1, 16, .inl (fun _ => 0))), (a3, .inl (ty.1, 16, .inl (fun _ => 0)))] : va_W)) := hD
  refine lv_aload_n hx hb dX0_init_58 rfl (lv_at hl 0 rfl) ?_
  refine lv_bipush (v := 16) hx hb dX0_init_59 (by decide) ?_
  have hc1 : 3+1 ≤ 7 := by decide
  have hs1 : 48+16 ≤ 112 := by decide
  refine kNewa (ty := ty) (a0 := (16, (.inl (fun _ => 0)))) (N' := 16) (fty := .int) hx hb wf10 rfl 0 rfl (fun _ h => h) hK hP hD hS hA (fun _ => rfl) (by decide) (by decide) (by decide) hc1 hs1 dX0_init_61 (fun a4 H hP hD hS => ?_)
  have hP : va_P D vwCl (([(h0, .inr (0, [.int (0), .int (100000), .int (0), .int (300), .int (7000), .ref a1, .ref a2, .ref a3, .null, .null, .null, .null])), (a1, .inl (ty.1, 16, .inl (fun _ => 0))), (a2, .inl (ty.1, 16, .inl (fun _ => 0))), (a3, .inl (ty.1, 16, .inl (fun _ => 0))), (a4, .inl (ty.1, 16, .inl (fun _ => 0)))] : va_W)) H := hP
  have hD : va_D A (([(h0, .inr (0, [.int (0), .int (100000), .int (0), .int (300), .int (7000), .ref a1, .ref a2, .ref a3, .null, .null, .null, .null])), (a1, .inl (ty.1, 16, .inl (fun _ => 0))), (a2, .inl (ty.1, 16, .inl (fun _ => 0))), (a3, .inl (ty.1, 16, .inl (fun _ => 0))), (a4, .inl (ty.1, 16, .inl (fun _ => 0)))] : va_W)) := hD
  refine W.widen (k := 4) (n := 64) (by omega) (by omega) ?_
  refine va_putF (D := D) (ci := 0) (v := .ref a4) (ty := .array .int) (C := RX0) (T := TX0) (N := 12) hx hb hts hinX0 tyX0 tyX0_ok nmX0 hown hK.1 hP hD hS 0 rfl rfl 8 (by decide) wf14 (fun _ h9 => h9) rfl hin rfl (by decide +kernel) rfl rfl (Nat.le_of_ble_eq_true rfl) dX0_init_63 (fun H locs hP hD hS => ?_)
  have hP : va_P D vwCl (([(h0, .inr (0, [.int (0), .int (100000), .int (0), .int (300), .int (7000), .ref a1, .ref a2, .ref a3, .ref a4, .null, .null, .null])), (a1, .inl (ty.1, 16, .inl (fun _ => 0))), (a2, .inl (ty.1, 16, .inl (fun _ => 0))), (a3, .inl (ty.1, 16, .inl (fun _ => 0))), (a4, .inl (ty.1, 16, .inl (fun _ => 0)))] : va_W)) H := hP
  have hD : va_D A (([(h0, .inr (0, [.int (0), .int (100000), .int (0), .int (300), .int (7000), .ref a1, .ref a2, .ref a3, .ref a4, .null, .null, .null])), (a1, .inl (ty.1, 16, .inl (fun _ => 0))), (a2, .inl (ty.1, 16, .inl (fun _ => 0))), (a3, .inl (ty.1, 16, .inl (fun _ => 0))), (a4, .inl (ty.1, 16, .inl (fun _ => 0)))] : va_W)) := hD
  refine lv_aload_n hx hb dX0_init_66 rfl (lv_at hl 0 rfl) ?_
  refine lv_bipush (v := 16) hx hb dX0_init_67 (by decide) ?_
  have hc1 : 4+1 ≤ 7 := by decide
  have hs1 : 64+16 ≤ 112 := by decide
  refine kNewa (ty := ty) (a0 := (16, (.inl (fun _ => 0)))) (N' := 16) (fty := .int) hx hb wf10 rfl 0 rfl (fun _ h => h) hK hP hD hS hA (fun _ => rfl) (by decide) (by decide) (by decide) hc1 hs1 dX0_init_69 (fun a5 H hP hD hS => ?_)
  have hP : va_P D vwCl (([(h0, .inr (0, [.int (0), .int (100000), .int (0), .int (300), .int (7000), .ref a1, .ref a2, .ref a3, .ref a4, .null, .null, .null])), (a1, .inl (ty.1, 16, .inl (fun _ => 0))), (a2, .inl (ty.1, 16, .inl (fun _ => 0))), (a3, .inl (ty.1, 16, .inl (fun _ => 0))), (a4, .inl (ty.1, 16, .inl (fun _ => 0))), (a5, .inl (ty.1, 16, .inl (fun _ => 0)))] : va_W)) H := hP
  have hD : va_D A (([(h0, .inr (0, [.int (0), .int (100000), .int (0), .int (300), .int (7000), .ref a1, .ref a2, .ref a3, .ref a4, .null, .null, .null])), (a1, .inl (ty.1, 16, .inl (fun _ => 0))), (a2, .inl (ty.1, 16, .inl (fun _ => 0))), (a3, .inl (ty.1, 16, .inl (fun _ => 0))), (a4, .inl (ty.1, 16, .inl (fun _ => 0))), (a5, .inl (ty.1, 16, .inl (fun _ => 0)))] : va_W)) := hD
  refine W.widen (k := 5) (n := 80) (by omega) (by omega) ?_
  refine va_putF (D := D) (ci := 0) (v := .ref a5) (ty := .array .int) (C := RX0) (T := TX0) (N := 12) hx hb hts hinX0 tyX0 tyX0_ok nmX0 hown hK.1 hP hD hS 0 rfl rfl 9 (by decide) wf15 (fun _ h9 => h9) rfl hin rfl (by decide +kernel) rfl rfl (Nat.le_of_ble_eq_true rfl) dX0_init_71 (fun H locs hP hD hS => ?_)
  have hP : va_P D vwCl (([(h0, .inr (0, [.int (0), .int (100000), .int (0), .int (300), .int (7000), .ref a1, .ref a2, .ref a3, .ref a4, .ref a5, .null, .null])), (a1, .inl (ty.1, 16, .inl (fun _ => 0))), (a2, .inl (ty.1, 16, .inl (fun _ => 0))), (a3, .inl (ty.1, 16, .inl (fun _ => 0))), (a4, .inl (ty.1, 16, .inl (fun _ => 0))), (a5, .inl (ty.1, 16, .inl (fun _ => 0)))] : va_W)) H := hP
  have hD : va_D A (([(h0, .inr (0, [.int (0), .int (100000), .int (0), .int (300), .int (7000), .ref a1, .ref a2, .ref a3, .ref a4, .ref a5, .null, .null])), (a1, .inl (ty.1, 16, .inl (fun _ => 0))), (a2, .inl (ty.1, 16, .inl (fun _ => 0))), (a3, .inl (ty.1, 16, .inl (fun _ => 0))), (a4, .inl (ty.1, 16, .inl (fun _ => 0))), (a5, .inl (ty.1, 16, .inl (fun _ => 0)))] : va_W)) := hD
  refine lv_aload_n hx hb dX0_init_74 rfl (lv_at hl 0 rfl) ?_
  refine lv_bipush (v := 16) hx hb dX0_init_75 (by decide) ?_
  have hc1 : 5+1 ≤ 7 := by decide
  have hs1 : 80+16 ≤ 112 := by decide
  refine kNewa (ty := ty) (a0 := (16, (.inl (fun _ => 0)))) (N' := 16) (fty := .int) hx hb wf10 rfl 0 rfl (fun _ h => h) hK hP hD hS hA (fun _ => rfl) (by decide) (by decide) (by decide) hc1 hs1 dX0_init_77 (fun a6 H hP hD hS => ?_)
  have hP : va_P D vwCl (([(h0, .inr (0, [.int (0), .int (100000), .int (0), .int (300), .int (7000), .ref a1, .ref a2, .ref a3, .ref a4, .ref a5, .null, .null])), (a1, .inl (ty.1, 16, .inl (fun _ => 0))), (a2, .inl (ty.1, 16, .inl (fun _ => 0))), (a3, .inl (ty.1, 16, .inl (fun _ => 0))), (a4, .inl (ty.1, 16, .inl (fun _ => 0))), (a5, .inl (ty.1, 16, .inl (fun _ => 0))), (a6, .inl (ty.1, 16, .inl (fun _ => 0)))] : va_W)) H := hP
  have hD : va_D A (([(h0, .inr (0, [.int (0), .int (100000), .int (0), .int (300), .int (7000), .ref a1, .ref a2, .ref a3, .ref a4, .ref a5, .null, .null])), (a1, .inl (ty.1, 16, .inl (fun _ => 0))), (a2, .inl (ty.1, 16, .inl (fun _ => 0))), (a3, .inl (ty.1, 16, .inl (fun _ => 0))), (a4, .inl (ty.1, 16, .inl (fun _ => 0))), (a5, .inl (ty.1, 16, .inl (fun _ => 0))), (a6, .inl (ty.1, 16, .inl (fun _ => 0)))] : va_W)) := hD
  refine W.widen (k := 6) (n := 96) (by omega) (by omega) ?_
  refine va_putF (D := D) (ci := 0) (v := .ref a6) (ty := .array .int) (C := RX0) (T := TX0) (N := 12) hx hb hts hinX0 tyX0 tyX0_ok nmX0 hown hK.1 hP hD hS 0 rfl rfl 10 (by decide) wf16 (fun _ h9 => h9) rfl hin rfl (by decide +kernel) rfl rfl (Nat.le_of_ble_eq_true rfl) dX0_init_79 (fun H locs hP hD hS => ?_)
  have hP : va_P D vwCl (([(h0, .inr (0, [.int (0), .int (100000), .int (0), .int (300), .int (7000), .ref a1, .ref a2, .ref a3, .ref a4, .ref a5, .ref a6, .null])), (a1, .inl (ty.1, 16, .inl (fun _ => 0))), (a2, .inl (ty.1, 16, .inl (fun _ => 0))), (a3, .inl (ty.1, 16, .inl (fun _ => 0))), (a4, .inl (ty.1, 16, .inl (fun _ => 0))), (a5, .inl (ty.1, 16, .inl (fun _ => 0))), (a6, .inl (ty.1, 16, .inl (fun _ => 0)))] : va_W)) H := hP
  have hD : va_D A (([(h0, .inr (0, [.int (0), .int (100000), .int (0), .int (300), .int (7000), .ref a1, .ref a2, .ref a3, .ref a4, .ref a5, .ref a6, .null])), (a1, .inl (ty.1, 16, .inl (fun _ => 0))), (a2, .inl (ty.1, 16, .inl (fun _ => 0))), (a3, .inl (ty.1, 16, .inl (fun _ => 0))), (a4, .inl (ty.1, 16, .inl (fun _ => 0))), (a5, .inl (ty.1, 16, .inl (fun _ => 0))), (a6, .inl (ty.1, 16, .inl (fun _ => 0)))] : va_W)) := hD
  refine lv_aload_n hx hb dX0_init_82 rfl (lv_at hl 0 rfl) ?_
  refine lv_bipush (v := 16) hx hb dX0_init_83 (by decide) ?_
  have hc1 : 6+1 ≤ 7 := by decide
  have hs1 : 96+16 ≤ 112 := by decide
  refine kNewa (ty := ty) (a0 := (16, (.inl (fun _ => 0)))) (N' := 16) (fty := .int) hx hb wf10 rfl 0 rfl (fun _ h => h) hK hP hD hS hA (fun _ => rfl) (by decide) (by decide) (by decide) hc1 hs1 dX0_init_85 (fun a7 H hP hD hS => ?_)
  have hP : va_P D vwCl (([(h0, .inr (0, [.int (0), .int (100000), .int (0), .int (300), .int (7000), .ref a1, .ref a2, .ref a3, .ref a4, .ref a5, .ref a6, .null])), (a1, .inl (ty.1, 16, .inl (fun _ => 0))), (a2, .inl (ty.1, 16, .inl (fun _ => 0))), (a3, .inl (ty.1, 16, .inl (fun _ => 0))), (a4, .inl (ty.1, 16, .inl (fun _ => 0))), (a5, .inl (ty.1, 16, .inl (fun _ => 0))), (a6, .inl (ty.1, 16, .inl (fun _ => 0))), (a7, .inl (ty.1, 16, .inl (fun _ => 0)))] : va_W)) H := hP
  have hD : va_D A (([(h0, .inr (0, [.int (0), .int (100000), .int (0), .int (300), .int (7000), .ref a1, .ref a2, .ref a3, .ref a4, .ref a5, .ref a6, .null])), (a1, .inl (ty.1, 16, .inl (fun _ => 0))), (a2, .inl (ty.1, 16, .inl (fun _ => 0))), (a3, .inl (ty.1, 16, .inl (fun _ => 0))), (a4, .inl (ty.1, 16, .inl (fun _ => 0))), (a5, .inl (ty.1, 16, .inl (fun _ => 0))), (a6, .inl (ty.1, 16, .inl (fun _ => 0))), (a7, .inl (ty.1, 16, .inl (fun _ => 0)))] : va_W)) := hD
  refine W.widen (k := 7) (n := 112) (by omega) (by omega) ?_
  refine va_putF (D := D) (ci := 0) (v := .ref a7) (ty := .array .int) (C := RX0) (T := TX0) (N := 12) hx hb hts hinX0 tyX0 tyX0_ok nmX0 hown hK.1 hP hD hS 0 rfl rfl 11 (by decide) wf17 (fun _ h9 => h9) rfl hin rfl (by decide +kernel) rfl rfl (Nat.le_of_ble_eq_true rfl) dX0_init_87 (fun H locs hP hD hS => ?_)
  have hP : va_P D vwCl (([(h0, .inr (0, [.int (0), .int (100000), .int (0), .int (300), .int (7000), .ref a1, .ref a2, .ref a3, .ref a4, .ref a5, .ref a6, .ref a7])), (a1, .inl (ty.1, 16, .inl (fun _ => 0))), (a2, .inl (ty.1, 16, .inl (fun _ => 0))), (a3, .inl (ty.1, 16, .inl (fun _ => 0))), (a4, .inl (ty.1, 16, .inl (fun _ => 0))), (a5, .inl (ty.1, 16, .inl (fun _ => 0))), (a6, .inl (ty.1, 16, .inl (fun _ => 0))), (a7, .inl (ty.1, 16, .inl (fun _ => 0)))] : va_W)) H := hP
  have hD : va_D A (([(h0, .inr (0, [.int (0), .int (100000), .int (0), .int (300), .int (7000), .ref a1, .ref a2, .ref a3, .ref a4, .ref a5, .ref a6, .ref a7])), (a1, .inl (ty.1, 16, .inl (fun _ => 0))), (a2, .inl (ty.1, 16, .inl (fun _ => 0))), (a3, .inl (ty.1, 16, .inl (fun _ => 0))), (a4, .inl (ty.1, 16, .inl (fun _ => 0))), (a5, .inl (ty.1, 16, .inl (fun _ => 0))), (a6, .inl (ty.1, 16, .inl (fun _ => 0))), (a7, .inl (ty.1, 16, .inl (fun _ => 0)))] : va_W)) := hD
  have hP9 : va_P D vwCl (wC ty (fun k => ([h0, a1, a2, a3, a4, a5, a6, a7] : List Nat).getD k 0) kC0) H := hP.sub [0, 1, 2, 3, 4, 5, 6, 7] rfl
  have hD9 : va_D A (wC ty (fun k => ([h0, a1, a2, a3, a4, a5, a6, a7] : List Nat).getD k 0) kC0) := hD.sub [0, 1, 2, 3, 4, 5, 6, 7] (by decide) rfl
  exact W.vret hx hb hr (fun t ht hW => ⟨⟨(fun k => ([h0, a1, a2, a3, a4, a5, a6, a7] : List Nat).getD k 0), rfl, rfl, kEnd ht hP9, hD9⟩, hS.F ht⟩) hS.2.2 dX0_init_90
set_option maxHeartbeats 4000000 in
set_option maxRecDepth 100000 in
theorem cX1_init_ok (l : Launch) (D : va_G) (ty : kTy) (h0 : Nat) (sz : Nat) : Met l yX1_init wsX1_init { frames := 1, cells := 2, slots := 32, locals := 20 } (va_Pc [.ref h0] (kB D ty (([(h0, .inr (1, [.int 0, .null, .null]))] : va_W)) sz)) (va_Qv (fun ad : Nat → Nat => ad 0 = h0) (fun ad t => va_P D vwCl (wF ty ad kF0) t.heap ∧ va_D (va_A (([(h0, .inr (1, [.int 0, .null, .null]))] : va_W)) sz) (wF ty ad kF0)) (va_A (([(h0, .inr (1, [.int 0, .null, .null]))] : va_W)) sz)) 2 32 (va_A (([(h0, .inr (1, [.int 0, .null, .null]))] : va_W)) sz) := by
  refine Met.ofW (cc := cX1_init) (maxL := 1) (ret := none) (by decide) rfl ?_
  intro p e s m args below meth c s₁ B hml hv
  obtain ⟨rfl, hsz, hP, hK, hD0⟩ := hv
  have hx := B.exec
  have hb := B.bytes
  have hr := B.returns
  have hts := atoms_spec (ws := wsX1_init) B.pre
  have hown : s.vm.findClass RX1 = some m.cls := findClass_of_methodNamed B.named
  have hlocks := B.notSynchronized
  have hin : meth.name = "<init>" := (name_of_methodNamed B.named B.method).1
  subst hsz
  have hD := hD0.self (sz := s.heap.size)
  generalize hAe : va_A (([(h0, .inr (1, [.int 0, .null, .null]))] : va_W)) s.heap.size = A at hD ⊢
  have hA : ∀ q : Nat, s.heap.size ≤ q → A q := fun q h => by rw [← hAe]; exact Or.inr h
  have hS : va_S A s.heap s.heap [] := va_S.rf
  have wf0 := hts (.methodLink RX1 3 objectInit) (by decide +kernel)
  have wf1 := hts (.instanceMethod objectInit) (by decide +kernel)
  have wf2 := hts (.code objectInit ⟨#[0xb1]⟩ 1 none) (by decide +kernel)
  have wf3 := hts (.fieldLink RX1 9 "IceCoreDater$Falling" "size" "I") (by decide +kernel)
  have hinX1 : ∀ w ∈ wsX10, w ∈ wsX1_init := by decide +kernel
  have wf5 := hts (.arrayClass .long) (by decide +kernel)
  have wf6 := hts (.fieldLink RX1 15 "IceCoreDater$Falling" "dividends" "[J") (by decide +kernel)
  have wf7 := hts (.fieldLink RX1 19 "IceCoreDater$Falling" "factors" "[J") (by decide +kernel)
  have hl := lv_entry ([.ref h0]) (n := 1) (Nat.le_of_ble_eq_true rfl)
  rw [lg_entry_eq]
  generalize (lg_sl ([.ref h0]) ++ List.replicate (1 - (lg_sl ([.ref h0])).length) Slot.unset).toArray = ls at hl ⊢
  have hl : lv_has ls 1 [(0, .ref h0)] := hl
  refine lv_aload_n hx hb dX1_init_0 rfl (lv_at hl 0 rfl) ?_
  refine W.objInit hx hb hown wf0 wf1 wf2 rfl (by rw [hml]; exact hl.1) rfl dX1_init_1 (Nat.le_of_ble_eq_true rfl) (Nat.le_of_ble_eq_true rfl) ?_
  refine W.eq (g2 := F0 m 4 ls []) rfl ?_
  refine lv_aload_n hx hb dX1_init_4 rfl (lv_at hl 0 rfl) ?_
  refine lv_iconst (v := 0) hx hb dX1_init_5 (by decide) ?_
  refine va_put (D := D) (ci := 1) (v := .int (0)) (ty := .int) (C := RX1) (T := TX1) (N := 3) hx hb hts hinX1 tyX1 tyX1_ok nmX1 hown hK.1 hP hD hS 0 rfl rfl 0 (by decide) wf3 (fun _ h9 => h9) rfl (by decide +kernel) rfl rfl (Nat.le_of_ble_eq_true rfl) dX1_init_6 (fun H locs hP hD hS => ?_)
  have hP : va_P D vwCl (([(h0, .inr (1, [.int (0), .null, .null]))] : va_W)) H := hP
  have hD : va_D A (([(h0, .inr (1, [.int (0), .null, .null]))] : va_W)) := hD
  refine lv_aload_n hx hb dX1_init_9 rfl (lv_at hl 0 rfl) ?_
  refine lv_bipush (v := 16) hx hb dX1_init_10 (by decide) ?_
  have hc1 : 0+1 ≤ 2 := by decide
  have hs1 : 0+16 ≤ 32 := by decide
  refine kNewa (ty := ty) (a0 := (16, (.inr (.inl (fun _ => 0))))) (N' := 16) (fty := .long) hx hb wf5 rfl 1 rfl (fun _ h => h) hK hP hD hS hA (fun _ => rfl) (by decide) (by decide) (by decide) hc1 hs1 dX1_init_12 (fun a1 H hP hD hS => ?_)
  have hP : va_P D vwCl (([(h0, .inr (1, [.int (0), .null, .null])), (a1, .inl (ty.2.1, 16, .inr (.inl (fun _ => 0))))] : va_W)) H := hP
  have hD : va_D A (([(h0, .inr (1, [.int (0), .null, .null])), (a1, .inl (ty.2.1, 16, .inr (.inl (fun _ => 0))))] : va_W)) := hD
  refine W.widen (k := 1) (n := 16) (by omega) (by omega) ?_
  refine va_putF (D := D) (ci := 1) (v := .ref a1) (ty := .array .long) (C := RX1) (T := TX1) (N := 3) hx hb hts hinX1 tyX1 tyX1_ok nmX1 hown hK.1 hP hD hS 0 rfl rfl 1 (by decide) wf6 (fun _ h9 => h9) rfl hin rfl (by decide +kernel) rfl rfl (Nat.le_of_ble_eq_true rfl) dX1_init_14 (fun H locs hP hD hS => ?_)
  have hP : va_P D vwCl (([(h0, .inr (1, [.int (0), .ref a1, .null])), (a1, .inl (ty.2.1, 16, .inr (.inl (fun _ => 0))))] : va_W)) H := hP
  have hD : va_D A (([(h0, .inr (1, [.int (0), .ref a1, .null])), (a1, .inl (ty.2.1, 16, .inr (.inl (fun _ => 0))))] : va_W)) := hD
  refine lv_aload_n hx hb dX1_init_17 rfl (lv_at hl 0 rfl) ?_
  refine lv_bipush (v := 16) hx hb dX1_init_18 (by decide) ?_
  have hc1 : 1+1 ≤ 2 := by decide
  have hs1 : 16+16 ≤ 32 := by decide
  refine kNewa (ty := ty) (a0 := (16, (.inr (.inl (fun _ => 0))))) (N' := 16) (fty := .long) hx hb wf5 rfl 1 rfl (fun _ h => h) hK hP hD hS hA (fun _ => rfl) (by decide) (by decide) (by decide) hc1 hs1 dX1_init_20 (fun a2 H hP hD hS => ?_)
  have hP : va_P D vwCl (([(h0, .inr (1, [.int (0), .ref a1, .null])), (a1, .inl (ty.2.1, 16, .inr (.inl (fun _ => 0)))), (a2, .inl (ty.2.1, 16, .inr (.inl (fun _ => 0))))] : va_W)) H := hP
  have hD : va_D A (([(h0, .inr (1, [.int (0), .ref a1, .null])), (a1, .inl (ty.2.1, 16, .inr (.inl (fun _ => 0)))), (a2, .inl (ty.2.1, 16, .inr (.inl (fun _ => 0))))] : va_W)) := hD
  refine W.widen (k := 2) (n := 32) (by omega) (by omega) ?_
  refine va_putF (D := D) (ci := 1) (v := .ref a2) (ty := .array .long) (C := RX1) (T := TX1) (N := 3) hx hb hts hinX1 tyX1 tyX1_ok nmX1 hown hK.1 hP hD hS 0 rfl rfl 2 (by decide) wf7 (fun _ h9 => h9) rfl hin rfl (by decide +kernel) rfl rfl (Nat.le_of_ble_eq_true rfl) dX1_init_22 (fun H locs hP hD hS => ?_)
  have hP : va_P D vwCl (([(h0, .inr (1, [.int (0), .ref a1, .ref a2])), (a1, .inl (ty.2.1, 16, .inr (.inl (fun _ => 0)))), (a2, .inl (ty.2.1, 16, .inr (.inl (fun _ => 0))))] : va_W)) H := hP
  have hD : va_D A (([(h0, .inr (1, [.int (0), .ref a1, .ref a2])), (a1, .inl (ty.2.1, 16, .inr (.inl (fun _ => 0)))), (a2, .inl (ty.2.1, 16, .inr (.inl (fun _ => 0))))] : va_W)) := hD
  have hP9 : va_P D vwCl (wF ty (fun k => ([h0, a1, a2] : List Nat).getD k 0) kF0) H := hP.sub [0, 1, 2] rfl
  have hD9 : va_D A (wF ty (fun k => ([h0, a1, a2] : List Nat).getD k 0) kF0) := hD.sub [0, 1, 2] (by decide) rfl
  exact W.vret hx hb hr (fun t ht hW => ⟨⟨(fun k => ([h0, a1, a2] : List Nat).getD k 0), rfl, rfl, kEnd ht hP9, hD9⟩, hS.F ht⟩) hS.2.2 dX1_init_25
set_option maxHeartbeats 4000000 in
set_option maxRecDepth 100000 in
theorem cX3_init_ok (l : Launch) (D : va_G) (ty : kTy) (h0 : Nat) (sz : Nat) : Met l yX3_init wsX3_init { frames := 1, cells := 3, slots := 88, locals := 20 } (va_Pc [.ref h0] (kB D ty (([(h0, .inr (3, [.int 0, .int 0, .null, .null, .null]))] : va_W)) sz)) (va_Qv (fun ad : Nat → Nat => ad 0 = h0) (fun ad t => va_P D vwCl (wT ty ad kT0) t.heap ∧ va_D (va_A (([(h0, .inr (3, [.int 0, .int 0, .null, .null, .null]))] : va_W)) sz) (wT ty ad kT0)) (va_A (([(h0, .inr (3, [.int 0, .int 0, .null, .null, .null]))] : va_W)) sz)) 3 88 (va_A (([(h0, .inr (3, [.int 0, .int 0, .null, .null, .null]))] : va_W)) sz) := by
  refine Met.ofW (cc := cX3_init) (maxL := 1) (ret := none) (by decide) rfl ?_
  intro p e s m args below meth c s₁ B hml hv
  obtain ⟨rfl, hsz, hP, hK, hD0⟩ := hv
  have hx := B.exec
  have hb := B.bytes
  have hr := B.returns
  have hts := atoms_spec (ws := wsX3_init) B.pre
  have hown : s.vm.findClass RX3 = some m.cls := findClass_of_methodNamed B.named
  have hlocks := B.notSynchronized
  have hin : meth.name = "<init>" := (name_of_methodNamed B.named B.method).1
  subst hsz
  have hD := hD0.self (sz := s.heap.size)
  generalize hAe : va_A (([(h0, .inr (3, [.int 0, .int 0, .null, .null, .null]))] : va_W)) s.heap.size = A at hD ⊢
  have hA : ∀ q : Nat, s.heap.size ≤ q → A q := fun q h => by rw [← hAe]; exact Or.inr h
  have hS : va_S A s.heap s.heap [] := va_S.rf
  have wf0 := hts (.methodLink RX3 3 objectInit) (by decide +kernel)
  have wf1 := hts (.instanceMethod objectInit) (by decide +kernel)
  have wf2 := hts (.code objectInit ⟨#[0xb1]⟩ 1 none) (by decide +kernel)
  have wf3 := hts (.fieldLink RX3 9 "IceCoreDater$Text" "length" "I") (by decide +kernel)
  have hinX3 : ∀ w ∈ wsX30, w ∈ wsX3_init := by decide +kernel
  have wf5 := hts (.fieldLink RX3 15 "IceCoreDater$Text" "words" "I") (by decide +kernel)
  have wf6 := hts (.arrayClass .char) (by decide +kernel)
  have wf7 := hts (.fieldLink RX3 18 "IceCoreDater$Text" "signs" "[C") (by decide +kernel)
  have wf8 := hts (.arrayClass .int) (by decide +kernel)
  have wf9 := hts (.fieldLink RX3 22 "IceCoreDater$Text" "starts" "[I") (by decide +kernel)
  have wf10 := hts (.fieldLink RX3 26 "IceCoreDater$Text" "ends" "[I") (by decide +kernel)
  have hl := lv_entry ([.ref h0]) (n := 1) (Nat.le_of_ble_eq_true rfl)
  rw [lg_entry_eq]
  generalize (lg_sl ([.ref h0]) ++ List.replicate (1 - (lg_sl ([.ref h0])).length) Slot.unset).toArray = ls at hl ⊢
  have hl : lv_has ls 1 [(0, .ref h0)] := hl
  refine lv_aload_n hx hb dX3_init_0 rfl (lv_at hl 0 rfl) ?_
  refine W.objInit hx hb hown wf0 wf1 wf2 rfl (by rw [hml]; exact hl.1) rfl dX3_init_1 (Nat.le_of_ble_eq_true rfl) (Nat.le_of_ble_eq_true rfl) ?_
  refine W.eq (g2 := F0 m 4 ls []) rfl ?_
  refine lv_aload_n hx hb dX3_init_4 rfl (lv_at hl 0 rfl) ?_
  refine lv_iconst (v := 0) hx hb dX3_init_5 (by decide) ?_
  refine va_put (D := D) (ci := 3) (v := .int (0)) (ty := .int) (C := RX3) (T := TX3) (N := 5) hx hb hts hinX3 tyX3 tyX3_ok nmX3 hown hK.1 hP hD hS 0 rfl rfl 0 (by decide) wf3 (fun _ h9 => h9) rfl (by decide +kernel) rfl rfl (Nat.le_of_ble_eq_true rfl) dX3_init_6 (fun H locs hP hD hS => ?_)
  have hP : va_P D vwCl (([(h0, .inr (3, [.int (0), .int 0, .null, .null, .null]))] : va_W)) H := hP
  have hD : va_D A (([(h0, .inr (3, [.int (0), .int 0, .null, .null, .null]))] : va_W)) := hD
  refine lv_aload_n hx hb dX3_init_9 rfl (lv_at hl 0 rfl) ?_
  refine lv_iconst (v := 0) hx hb dX3_init_10 (by decide) ?_
  refine va_put (D := D) (ci := 3) (v := .int (0)) (ty := .int) (C := RX3) (T := TX3) (N := 5) hx hb hts hinX3 tyX3 tyX3_ok nmX3 hown hK.1 hP hD hS 0 rfl rfl 1 (by decide) wf5 (fun _ h9 => h9) rfl (by decide +kernel) rfl rfl (Nat.le_of_ble_eq_true rfl) dX3_init_11 (fun H locs hP hD hS => ?_)
  have hP : va_P D vwCl (([(h0, .inr (3, [.int (0), .int (0), .null, .null, .null]))] : va_W)) H := hP
  have hD : va_D A (([(h0, .inr (3, [.int (0), .int (0), .null, .null, .null]))] : va_W)) := hD
  refine lv_aload_n hx hb dX3_init_14 rfl (lv_at hl 0 rfl) ?_
  refine lv_bipush (v := 80) hx hb dX3_init_15 (by decide) ?_
  have hc1 : 0+1 ≤ 3 := by decide
  have hs1 : 0+80 ≤ 88 := by decide
  refine kNewa (ty := ty) (a0 := (80, (.inl (fun _ => 0)))) (N' := 80) (fty := .char) hx hb wf6 rfl 2 rfl (fun _ h => h) hK hP hD hS hA (fun _ => rfl) (by decide) (by decide) (by decide) hc1 hs1 dX3_init_17 (fun a1 H hP hD hS => ?_)
  have hP : va_P D vwCl (([(h0, .inr (3, [.int (0), .int (0), .null, .null, .null])), (a1, .inl (ty.2.2.1, 80, .inl (fun _ => 0)))] : va_W)) H := hP
  have hD : va_D A (([(h0, .inr (3, [.int (0), .int (0), .null, .null, .null])), (a1, .inl (ty.2.2.1, 80, .inl (fun _ => 0)))] : va_W)) := hD
  refine W.widen (k := 1) (n := 80) (by omega) (by omega) ?_
  refine va_putF (D := D) (ci := 3) (v := .ref a1) (ty := .array .char) (C := RX3) (T := TX3) (N := 5) hx hb hts hinX3 tyX3 tyX3_ok nmX3 hown hK.1 hP hD hS 0 rfl rfl 2 (by decide) wf7 (fun _ h9 => h9) rfl hin rfl (by decide +kernel) rfl rfl (Nat.le_of_ble_eq_true rfl) dX3_init_19 (fun H locs hP hD hS => ?_)
  have hP : va_P D vwCl (([(h0, .inr (3, [.int (0), .int (0), .ref a1, .null, .null])), (a1, .inl (ty.2.2.1, 80, .inl (fun _ => 0)))] : va_W)) H := hP
  have hD : va_D A (([(h0, .inr (3, [.int (0), .int (0), .ref a1, .null, .null])), (a1, .inl (ty.2.2.1, 80, .inl (fun _ => 0)))] : va_W)) := hD
  refine lv_aload_n hx hb dX3_init_22 rfl (lv_at hl 0 rfl) ?_
  refine lv_iconst (v := 4) hx hb dX3_init_23 (by decide) ?_
  have hc1 : 1+1 ≤ 3 := by decide
  have hs1 : 80+4 ≤ 88 := by decide
  refine kNewa (ty := ty) (a0 := (4, (.inl (fun _ => 0)))) (N' := 4) (fty := .int) hx hb wf8 rfl 0 rfl (fun _ h => h) hK hP hD hS hA (fun _ => rfl) (by decide) (by decide) (by decide) hc1 hs1 dX3_init_24 (fun a2 H hP hD hS => ?_)
  have hP : va_P D vwCl (([(h0, .inr (3, [.int (0), .int (0), .ref a1, .null, .null])), (a1, .inl (ty.2.2.1, 80, .inl (fun _ => 0))), (a2, .inl (ty.1, 4, .inl (fun _ => 0)))] : va_W)) H := hP
  have hD : va_D A (([(h0, .inr (3, [.int (0), .int (0), .ref a1, .null, .null])), (a1, .inl (ty.2.2.1, 80, .inl (fun _ => 0))), (a2, .inl (ty.1, 4, .inl (fun _ => 0)))] : va_W)) := hD
  refine W.widen (k := 2) (n := 84) (by omega) (by omega) ?_
  refine va_putF (D := D) (ci := 3) (v := .ref a2) (ty := .array .int) (C := RX3) (T := TX3) (N := 5) hx hb hts hinX3 tyX3 tyX3_ok nmX3 hown hK.1 hP hD hS 0 rfl rfl 3 (by decide) wf9 (fun _ h9 => h9) rfl hin rfl (by decide +kernel) rfl rfl (Nat.le_of_ble_eq_true rfl) dX3_init_26 (fun H locs hP hD hS => ?_)
  have hP : va_P D vwCl (([(h0, .inr (3, [.int (0), .int (0), .ref a1, .ref a2, .null])), (a1, .inl (ty.2.2.1, 80, .inl (fun _ => 0))), (a2, .inl (ty.1, 4, .inl (fun _ => 0)))] : va_W)) H := hP
  have hD : va_D A (([(h0, .inr (3, [.int (0), .int (0), .ref a1, .ref a2, .null])), (a1, .inl (ty.2.2.1, 80, .inl (fun _ => 0))), (a2, .inl (ty.1, 4, .inl (fun _ => 0)))] : va_W)) := hD
  refine lv_aload_n hx hb dX3_init_29 rfl (lv_at hl 0 rfl) ?_
  refine lv_iconst (v := 4) hx hb dX3_init_30 (by decide) ?_
  have hc1 : 2+1 ≤ 3 := by decide
  have hs1 : 84+4 ≤ 88 := by decide
  refine kNewa (ty := ty) (a0 := (4, (.inl (fun _ => 0)))) (N' := 4) (fty := .int) hx hb wf8 rfl 0 rfl (fun _ h => h) hK hP hD hS hA (fun _ => rfl) (by decide) (by decide) (by decide) hc1 hs1 dX3_init_31 (fun a3 H hP hD hS => ?_)
  have hP : va_P D vwCl (([(h0, .inr (3, [.int (0), .int (0), .ref a1, .ref a2, .null])), (a1, .inl (ty.2.2.1, 80, .inl (fun _ => 0))), (a2, .inl (ty.1, 4, .inl (fun _ => 0))), (a3, .inl (ty.1, 4, .inl (fun _ => 0)))] : va_W)) H := hP
  have hD : va_D A (([(h0, .inr (3, [.int (0), .int (0), .ref a1, .ref a2, .null])), (a1, .inl (ty.2.2.1, 80, .inl (fun _ => 0))), (a2, .inl (ty.1, 4, .inl (fun _ => 0))), (a3, .inl (ty.1, 4, .inl (fun _ => 0)))] : va_W)) := hD
  refine W.widen (k := 3) (n := 88) (by omega) (by omega) ?_
  refine va_putF (D := D) (ci := 3) (v := .ref a3) (ty := .array .int) (C := RX3) (T := TX3) (N := 5) hx hb hts hinX3 tyX3 tyX3_ok nmX3 hown hK.1 hP hD hS 0 rfl rfl 4 (by decide) wf10 (fun _ h9 => h9) rfl hin rfl (by decide +kernel) rfl rfl (Nat.le_of_ble_eq_true rfl) dX3_init_33 (fun H locs hP hD hS => ?_)
  have hP : va_P D vwCl (([(h0, .inr (3, [.int (0), .int (0), .ref a1, .ref a2, .ref a3])), (a1, .inl (ty.2.2.1, 80, .inl (fun _ => 0))), (a2, .inl (ty.1, 4, .inl (fun _ => 0))), (a3, .inl (ty.1, 4, .inl (fun _ => 0)))] : va_W)) H := hP
  have hD : va_D A (([(h0, .inr (3, [.int (0), .int (0), .ref a1, .ref a2, .ref a3])), (a1, .inl (ty.2.2.1, 80, .inl (fun _ => 0))), (a2, .inl (ty.1, 4, .inl (fun _ => 0))), (a3, .inl (ty.1, 4, .inl (fun _ => 0)))] : va_W)) := hD
  have hP9 : va_P D vwCl (wT ty (fun k => ([h0, a1, a2, a3] : List Nat).getD k 0) kT0) H := hP.sub [0, 1, 2, 3] rfl
  have hD9 : va_D A (wT ty (fun k => ([h0, a1, a2, a3] : List Nat).getD k 0) kT0) := hD.sub [0, 1, 2, 3] (by decide) rfl
  exact W.vret hx hb hr (fun t ht hW => ⟨⟨(fun k => ([h0, a1, a2, a3] : List Nat).getD k 0), rfl, rfl, kEnd ht hP9, hD9⟩, hS.F ht⟩) hS.2.2 dX3_init_36
set_option maxHeartbeats 4000000 in
set_option maxRecDepth 100000 in
theorem cX2_init_ok (l : Launch) (D : va_G) (ty : kTy) (h0 : Nat) (sz : Nat) : Met l yX2_init wsX2_init { frames := 2, cells := 73, slots := 1125, locals := 40 } (va_Pc [.ref h0] (kBo D ty (([(h0, .inr (2, [.null, .int 0, .int 0]))] : va_W)) sz)) (va_Qv (fun u : (Nat → Nat) × (Nat → Nat → Nat) => u.1 0 = h0) (fun u t => va_P D vwCl (wH ty u.1 u.2 kH0 ++ wS ty u.2 (fun _ => kC0)) t.heap ∧ va_D (va_A (([(h0, .inr (2, [.null, .int 0, .int 0]))] : va_W)) sz) (wH ty u.1 u.2 kH0 ++ wS ty u.2 (fun _ => kC0))) (va_A (([(h0, .inr (2, [.null, .int 0, .int 0]))] : va_W)) sz)) 73 1125 (va_A (([(h0, .inr (2, [.null, .int 0, .int 0]))] : va_W)) sz) := by
  refine Met.ofW (cc := cX2_init) (maxL := 2) (ret := none) (by decide) rfl ?_
  intro p e s m args below meth c s₁ B hml hv
  obtain ⟨rfl, ⟨hsz, hP, hK, hD0⟩, hov⟩ := hv
  have hx := B.exec
  have hb := B.bytes
  have hr := B.returns
  have hts := atoms_spec (ws := wsX2_init) B.pre
  have hown : s.vm.findClass RX2 = some m.cls := findClass_of_methodNamed B.named
  have hlocks := B.notSynchronized
  have hin : meth.name = "<init>" := (name_of_methodNamed B.named B.method).1
  subst hsz
  have hD := hD0.self (sz := s.heap.size)
  generalize hAe : va_A (([(h0, .inr (2, [.null, .int 0, .int 0]))] : va_W)) s.heap.size = A at hD ⊢
  have hA : ∀ q : Nat, s.heap.size ≤ q → A q := fun q h => by rw [← hAe]; exact Or.inr h
  have hS : va_S A s.heap s.heap [] := va_S.rf
  have wf0 := hts (.methodLink RX2 3 objectInit) (by decide +kernel)
  have wf1 := hts (.instanceMethod objectInit) (by decide +kernel)
  have wf2 := hts (.code objectInit ⟨#[0xb1]⟩ 1 none) (by decide +kernel)
  have wf3 := hts (.classLink RX2 11 RX0) (by decide +kernel)
  have wf4 := hts (.fieldLink RX2 13 "IceCoreDater$Log" "slots" "[LIceCoreDater$Core;") (by decide +kernel)
  have hinX2 : ∀ w ∈ wsX20, w ∈ wsX2_init := by decide +kernel
  have wf6 := hts (.fieldLink RX2 17 "IceCoreDater$Log" "oldest" "I") (by decide +kernel)
  have wf7 := hts (.fieldLink RX2 21 "IceCoreDater$Log" "size" "I") (by decide +kernel)
  have hinX0 : ∀ w ∈ wsX00, w ∈ wsX2_init := by decide +kernel
  have wf9 := hts (.instantiable RX0 12) (by decide +kernel)
  have wf10 := hts (.initialized RX0) (by decide +kernel)
  have wf11 := hts (.instanceMethod yX0_init) (by decide +kernel)
  have hl := lv_entry ([.ref h0]) (n := 2) (Nat.le_of_ble_eq_true rfl)
  rw [lg_entry_eq]
  generalize (lg_sl ([.ref h0]) ++ List.replicate (2 - (lg_sl ([.ref h0])).length) Slot.unset).toArray = ls at hl ⊢
  have hl : lv_has ls 2 [(0, .ref h0)] := hl
  refine lv_aload_n hx hb dX2_init_0 rfl (lv_at hl 0 rfl) ?_
  refine W.objInit hx hb hown wf0 wf1 wf2 rfl (by rw [hml]; exact hl.1) rfl dX2_init_1 (Nat.le_of_ble_eq_true rfl) (Nat.le_of_ble_eq_true rfl) ?_
  refine W.eq (g2 := F0 m 4 ls []) rfl ?_
  refine lv_aload_n hx hb dX2_init_4 rfl (lv_at hl 0 rfl) ?_
  refine lv_bipush (v := 9) hx hb dX2_init_5 (by decide) ?_
  have hc1 : 0+1 ≤ 73 := by decide
  have hs1 : 0+9 ≤ 1125 := by decide
  refine kNewq (ty := ty) (N' := 9) hx hb hown wf3 hov hK hP hD hS hA (by decide) (by decide) (by decide) hc1 hs1 dX2_init_7 (fun adr H hP hD hS => ?_)
  have hP : va_P D vwCl (([(h0, .inr (2, [.null, .int 0, .int 0])), (adr, .inl (ty.2.2.2, 9, .inr (.inr (.inr (.inr (fun _ => none))))))] : va_W)) H := hP
  have hD : va_D A (([(h0, .inr (2, [.null, .int 0, .int 0])), (adr, .inl (ty.2.2.2, 9, .inr (.inr (.inr (.inr (fun _ => none))))))] : va_W)) := hD
  refine W.widen (k := 1) (n := 9) (by omega) (by omega) ?_
  refine va_putF (D := D) (ci := 2) (v := .ref adr) (ty := .array (.object "IceCoreDater$Core")) (C := RX2) (T := TX2) (N := 3) hx hb hts hinX2 tyX2 tyX2_ok nmX2 hown hK.1 hP hD hS 0 rfl rfl 0 (by decide) wf4 (fun _ h9 => h9) rfl hin rfl (by decide +kernel) rfl rfl (Nat.le_of_ble_eq_true rfl) dX2_init_10 (fun H locs hP hD hS => ?_)
  have hP : va_P D vwCl (([(h0, .inr (2, [.ref adr, .int 0, .int 0])), (adr, .inl (ty.2.2.2, 9, .inr (.inr (.inr (.inr (fun _ => none))))))] : va_W)) H := hP
  have hD : va_D A (([(h0, .inr (2, [.ref adr, .int 0, .int 0])), (adr, .inl (ty.2.2.2, 9, .inr (.inr (.inr (.inr (fun _ => none))))))] : va_W)) := hD
  refine lv_aload_n hx hb dX2_init_13 rfl (lv_at hl 0 rfl) ?_
  refine lv_iconst (v := 0) hx hb dX2_init_14 (by decide) ?_
  refine va_put (D := D) (ci := 2) (v := .int (0)) (ty := .int) (C := RX2) (T := TX2) (N := 3) hx hb hts hinX2 tyX2 tyX2_ok nmX2 hown hK.1 hP hD hS 0 rfl rfl 1 (by decide) wf6 (fun _ h9 => h9) rfl (by decide +kernel) rfl rfl (Nat.le_of_ble_eq_true rfl) dX2_init_15 (fun H locs hP hD hS => ?_)
  have hP : va_P D vwCl (([(h0, .inr (2, [.ref adr, .int (0), .int 0])), (adr, .inl (ty.2.2.2, 9, .inr (.inr (.inr (.inr (fun _ => none))))))] : va_W)) H := hP
  have hD : va_D A (([(h0, .inr (2, [.ref adr, .int (0), .int 0])), (adr, .inl (ty.2.2.2, 9, .inr (.inr (.inr (.inr (fun _ => none))))))] : va_W)) := hD
  refine lv_aload_n hx hb dX2_init_18 rfl (lv_at hl 0 rfl) ?_
  refine lv_iconst (v := 0) hx hb dX2_init_19 (by decide) ?_
  refine va_put (D := D) (ci := 2) (v := .int (0)) (ty := .int) (C := RX2) (T := TX2) (N := 3) hx hb hts hinX2 tyX2 tyX2_ok nmX2 hown hK.1 hP hD hS 0 rfl rfl 2 (by decide) wf7 (fun _ h9 => h9) rfl (by decide +kernel) rfl rfl (Nat.le_of_ble_eq_true rfl) dX2_init_20 (fun H locs hP hD hS => ?_)
  have hP : va_P D vwCl (([(h0, .inr (2, [.ref adr, .int (0), .int (0)])), (adr, .inl (ty.2.2.2, 9, .inr (.inr (.inr (.inr (fun _ => none))))))] : va_W)) H := hP
  have hD : va_D A (([(h0, .inr (2, [.ref adr, .int (0), .int (0)])), (adr, .inl (ty.2.2.2, 9, .inr (.inr (.inr (.inr (fun _ => none))))))] : va_W)) := hD
  refine lv_iconst (v := 0) hx hb dX2_init_23 (by decide) ?_
  refine lv_istore_n (lv' := [(1, .int 0), (0, .ref h0)]) hx hb dX2_init_24 rfl hl (by decide) rfl (fun ls hl => ?_)
  refine lv_iload_n hx hb dX2_init_25 rfl (lv_at hl 0 rfl) ?_
  refine lv_bipush (v := 9) hx hb dX2_init_26 (by decide) ?_
  refine lv_icmp_ge (tgt := 50) hx hb dX2_init_28 (by decide) (fun z => absurd z (by decide)) (fun _ => ?_)
  refine lv_aload_n hx hb dX2_init_31 rfl (lv_at hl 1 rfl) ?_
  refine va_get (D := D) (ci := 2) (v := .ref adr) (C := RX2) (T := TX2) (N := 3) hx hb hts hinX2 hown hK.1 hP 0 rfl rfl 0 (by decide) wf4 (fun _ h9 => h9) rfl dX2_init_32 ?_
  refine lv_iload_n hx hb dX2_init_35 rfl (lv_at hl 0 rfl) ?_
  have hc1 : 1+1 ≤ 73 := by decide
  have hs1 : 9+12 ≤ 1125 := by decide
  refine va_new (ci := 0) (fs := [.int 0, .int 0, .int 0, .int 0, .int 0, .null, .null, .null, .null, .null, .null, .null]) (C := RX0) (T := TX0) (N := 12) hx hb hts hinX0 tyX0 tyX0_ok hown wf3 wf9 wf10 hK.1 hP hD hS hA rfl (fun j hj => by rcases (show j = 0 ∨ j = 1 ∨ j = 2 ∨ j = 3 ∨ j = 4 ∨ j = 5 ∨ j = 6 ∨ j = 7 ∨ j = 8 ∨ j = 9 ∨ j = 10 ∨ j = 11 by omega) with rfl | rfl | rfl | rfl | rfl | rfl | rfl | rfl | rfl | rfl | rfl | rfl <;> rfl) hc1 hs1 dX2_init_36 (fun q2 H hP hD hS => ?_)
  have hP : va_P D vwCl (([(h0, .inr (2, [.ref adr, .int (0), .int (0)])), (adr, .inl (ty.2.2.2, 9, .inr (.inr (.inr (.inr (fun _ => none)))))), (q2, .inr (0, [.int 0, .int 0, .int 0, .int 0, .int 0, .null, .null, .null, .null, .null, .null, .null]))] : va_W)) H := hP
  have hD : va_D A (([(h0, .inr (2, [.ref adr, .int (0), .int (0)])), (adr, .inl (ty.2.2.2, 9, .inr (.inr (.inr (.inr (fun _ => none)))))), (q2, .inr (0, [.int 0, .int 0, .int 0, .int 0, .int 0, .null, .null, .null, .null, .null, .null, .null]))] : va_W)) := hD
  refine W.widen (k := 2) (n := 21) (by omega) (by omega) ?_
  refine lv_dup hx hb dX2_init_39 rfl ?_
  have hPc := hP.sub (ws' := ([(q2, .inr (0, [.int 0, .int 0, .int 0, .int 0, .int 0, .null, .null, .null, .null, .null, .null, .null]))] : va_W)) [2] rfl
  have hDc := hD.sub (ws' := ([(q2, .inr (0, [.int 0, .int 0, .int 0, .int 0, .int 0, .null, .null, .null, .null, .null, .null, .null]))] : va_W)) [2] (by decide) rfl
  have hFc := va_free (wc := ([(q2, .inr (0, [.int 0, .int 0, .int 0, .int 0, .int 0, .null, .null, .null, .null, .null, .null, .null]))] : va_W)) hD hS hA [2] rfl
  have hc1 : 9 ≤ 73 := by decide
  have hs1 : 133 ≤ 1125 := by decide
  refine va_callv (va_runIN (As := []) (rest := [.ref q2, .int 0, .ref adr]) ⟨hx, hb, hml, hown, hts⟩ (cX0_init_ok l D ty q2 H.size) ⟨va_cnB 0 hts gX2_init_X0_init_n24 rfl rfl rfl hK.2.2.1 wf10 (by decide +kernel) ⟨Nat.le_of_ble_eq_true rfl, Nat.le_of_ble_eq_true rfl⟩, rfl, wf11⟩ ⟨kB_blind _ _ _ _ _, fun U hU hW => ⟨rfl, kB_at hPc hK hDc U hU hW⟩⟩ rfl rfl hl.1 rfl (lv_room (Nat.le_of_ble_eq_true rfl)) dX2_init_40 ⟨hc1, hs1⟩) hS (fun q _ h => hFc q h) hFc (fun u t H1 locs ht hvm hw hB hz1 hk1 hS => ?_)
  obtain ⟨hP1, hD1⟩ := hB
  rw [ht] at hP1
  obtain ⟨ad0, rfl⟩ : ∃ z, z = u := ⟨_, rfl⟩
  have hw : ad0 0 = q2 := hw
  subst hw
  obtain ⟨hP, hD⟩ := va_join (wr := ([(h0, .inr (2, [.ref adr, .int (0), .int (0)])), (adr, .inl (ty.2.2.2, 9, .inr (.inr (.inr (.inr (fun _ => none))))))] : va_W)) (w1 := wC ty ad0 kC0) hP hD [2] [0, 1] rfl rfl (by decide) (by decide) hk1 hFc hP1 hD1
  clear hPc hDc hFc hP1 hD1 hk1
  generalize H1 = H at hP hS ⊢
  have hP : va_P D vwCl ([(h0, .inr (2, [.ref adr, .int (0), .int (0)])), (adr, .inl (ty.2.2.2, 9, .inr (.inr (.inr (.inr (fun _ => none))))))] ++ (wC ty ad0 kC0)) H := hP
  have hD : va_D A ([(h0, .inr (2, [.ref adr, .int (0), .int (0)])), (adr, .inl (ty.2.2.2, 9, .inr (.inr (.inr (.inr (fun _ => none))))))] ++ (wC ty ad0 kC0)) := hD
  refine va_astq (f := (fun _ => none)) (n := 9) (r := (RX0, TX0, 12)) hx hb hK.1 hP hD hS 1 3 2 0 rfl rfl rfl rfl (kIn_ok (by decide)) dX2_init_43 (fun H locs hP hD hS => ?_)
  have hP : va_P D vwCl ([(h0, .inr (2, [.ref adr, .int (0), .int (0)])), (adr, .inl (ty.2.2.2, 9, .inr (.inr (.inr (.inr (va_up (fun _ => none) 0 (some (ad0 0))))))))] ++ (wC ty ad0 kC0)) H := hP
  have hD : va_D A ([(h0, .inr (2, [.ref adr, .int (0), .int (0)])), (adr, .inl (ty.2.2.2, 9, .inr (.inr (.inr (.inr (va_up (fun _ => none) 0 (some (ad0 0))))))))] ++ (wC ty ad0 kC0)) := hD
  refine lv_iinc (v := 1) (lv' := [(1, .int 1), (0, .ref h0)]) hx hb dX2_init_44 hl (k := 0) rfl rfl (by decide) rfl (fun ls hl => ?_)
  refine lv_goto (tgt := 25) hx hb dX2_init_47 (by decide) ?_
  refine lv_iload_n hx hb dX2_init_25 rfl (lv_at hl 0 rfl) ?_
  refine lv_bipush (v := 9) hx hb dX2_init_26 (by decide) ?_
  refine lv_icmp_ge (tgt := 50) hx hb dX2_init_28 (by decide) (fun z => absurd z (by decide)) (fun _ => ?_)
  refine lv_aload_n hx hb dX2_init_31 rfl (lv_at hl 1 rfl) ?_
  refine va_get (D := D) (ci := 2) (v := .ref adr) (C := RX2) (T := TX2) (N := 3) hx hb hts hinX2 hown hK.1 hP 0 rfl rfl 0 (by decide) wf4 (fun _ h9 => h9) rfl dX2_init_32 ?_
  refine lv_iload_n hx hb dX2_init_35 rfl (lv_at hl 0 rfl) ?_
  have hc1 : 9+1 ≤ 73 := by decide
  have hs1 : 133+12 ≤ 1125 := by decide
  refine va_new (ci := 0) (fs := [.int 0, .int 0, .int 0, .int 0, .int 0, .null, .null, .null, .null, .null, .null, .null]) (C := RX0) (T := TX0) (N := 12) hx hb hts hinX0 tyX0 tyX0_ok hown wf3 wf9 wf10 hK.1 hP hD hS hA rfl (fun j hj => by rcases (show j = 0 ∨ j = 1 ∨ j = 2 ∨ j = 3 ∨ j = 4 ∨ j = 5 ∨ j = 6 ∨ j = 7 ∨ j = 8 ∨ j = 9 ∨ j = 10 ∨ j = 11 by omega) with rfl | rfl | rfl | rfl | rfl | rfl | rfl | rfl | rfl | rfl | rfl | rfl <;> rfl) hc1 hs1 dX2_init_36 (fun q3 H hP hD hS => ?_)
  have hP : va_P D vwCl ([(h0, .inr (2, [.ref adr, .int (0), .int (0)])), (adr, .inl (ty.2.2.2, 9, .inr (.inr (.inr (.inr (va_up (fun _ => none) 0 (some (ad0 0))))))))] ++ (wC ty ad0 kC0 ++ ([(q3, .inr (0, [.int 0, .int 0, .int 0, .int 0, .int 0, .null, .null, .null, .null, .null, .null, .null]))]))) H := hP
  have hD : va_D A ([(h0, .inr (2, [.ref adr, .int (0), .int (0)])), (adr, .inl (ty.2.2.2, 9, .inr (.inr (.inr (.inr (va_up (fun _ => none) 0 (some (ad0 0))))))))] ++ (wC ty ad0 kC0 ++ ([(q3, .inr (0, [.int 0, .int 0, .int 0, .int 0, .int 0, .null, .null, .null, .null, .null, .null, .null]))]))) := hD
  refine W.widen (k := 10) (n := 145) (by omega) (by omega) ?_
  refine lv_dup hx hb dX2_init_39 rfl ?_
  have hPc := hP.sub (ws' := ([(q3, .inr (0, [.int 0, .int 0, .int 0, .int 0, .int 0, .null, .null, .null, .null, .null, .null, .null]))] : va_W)) [10] rfl
  have hDc := hD.sub (ws' := ([(q3, .inr (0, [.int 0, .int 0, .int 0, .int 0, .int 0, .null, .null, .null, .null, .null, .null, .null]))] : va_W)) [10] (by decide) rfl
  have hFc := va_free (wc := ([(q3, .inr (0, [.int 0, .int 0, .int 0, .int 0, .int 0, .null, .null, .null, .null, .null, .null, .null]))] : va_W)) hD hS hA [10] rfl
  have hc1 : 17 ≤ 73 := by decide
  have hs1 : 257 ≤ 1125 := by decide
  refine va_callv (va_runIN (As := []) (rest := [.ref q3, .int 1, .ref adr]) ⟨hx, hb, hml, hown, hts⟩ (cX0_init_ok l D ty q3 H.size) ⟨va_cnB 0 hts gX2_init_X0_init_n24 rfl rfl rfl hK.2.2.1 wf10 (by decide +kernel) ⟨Nat.le_of_ble_eq_true rfl, Nat.le_of_ble_eq_true rfl⟩, rfl, wf11⟩ ⟨kB_blind _ _ _ _ _, fun U hU hW => ⟨rfl, kB_at hPc hK hDc U hU hW⟩⟩ rfl rfl hl.1 rfl (lv_room (Nat.le_of_ble_eq_true rfl)) dX2_init_40 ⟨hc1, hs1⟩) hS (fun q _ h => hFc q h) hFc (fun u t H1 locs ht hvm hw hB hz1 hk1 hS => ?_)
  obtain ⟨hP1, hD1⟩ := hB
  rw [ht] at hP1
  obtain ⟨ad1, rfl⟩ : ∃ z, z = u := ⟨_, rfl⟩
  have hw : ad1 0 = q3 := hw
  subst hw
  obtain ⟨hP, hD⟩ := va_join (wr := [(h0, .inr (2, [.ref adr, .int (0), .int (0)])), (adr, .inl (ty.2.2.2, 9, .inr (.inr (.inr (.inr (va_up (fun _ => none) 0 (some (ad0 0))))))))] ++ (wC ty ad0 kC0)) (w1 := wC ty ad1 kC0) hP hD [10] [0, 1, 2, 3, 4, 5, 6, 7, 8, 9] rfl rfl (by decide) (by decide) hk1 hFc hP1 hD1
  clear hPc hDc hFc hP1 hD1 hk1
  generalize H1 = H at hP hS ⊢
  have hP : va_P D vwCl ([(h0, .inr (2, [.ref adr, .int (0), .int (0)])), (adr, .inl (ty.2.2.2, 9, .inr (.inr (.inr (.inr (va_up (fun _ => none) 0 (some (ad0 0))))))))] ++ (wC ty ad0 kC0 ++ (wC ty ad1 kC0))) H := hP
  have hD : va_D A ([(h0, .inr (2, [.ref adr, .int (0), .int (0)])), (adr, .inl (ty.2.2.2, 9, .inr (.inr (.inr (.inr (va_up (fun _ => none) 0 (some (ad0 0))))))))] ++ (wC ty ad0 kC0 ++ (wC ty ad1 kC0))) := hD
  refine va_astq (f := (va_up (fun _ => none) 0 (some (ad0 0)))) (n := 9) (r := (RX0, TX0, 12)) hx hb hK.1 hP hD hS 1 3 10 0 rfl rfl rfl rfl (kIn_ok (by decide)) dX2_init_43 (fun H locs hP hD hS => ?_)
  have hP : va_P D vwCl ([(h0, .inr (2, [.ref adr, .int (0), .int (0)])), (adr, .inl (ty.2.2.2, 9, .inr (.inr (.inr (.inr (va_up (va_up (fun _ => none) 0 (some (ad0 0))) 1 (some (ad1 0))))))))] ++ (wC ty ad0 kC0 ++ (wC ty ad1 kC0))) H := hP
  have hD : va_D A ([(h0, .inr (2, [.ref adr, .int (0), .int (0)])), (adr, .inl (ty.2.2.2, 9, .inr (.inr (.inr (.inr (va_up (va_up (fun _ => none) 0 (some (ad0 0))) 1 (some (ad1 0))))))))] ++ (wC ty ad0 kC0 ++ (wC ty ad1 kC0))) := hD
  refine lv_iinc (v := 2) (lv' := [(1, .int 2), (0, .ref h0)]) hx hb dX2_init_44 hl (k := 0) rfl rfl (by decide) rfl (fun ls hl => ?_)
  refine lv_goto (tgt := 25) hx hb dX2_init_47 (by decide) ?_
  refine lv_iload_n hx hb dX2_init_25 rfl (lv_at hl 0 rfl) ?_
  refine lv_bipush (v := 9) hx hb dX2_init_26 (by decide) ?_
  refine lv_icmp_ge (tgt := 50) hx hb dX2_init_28 (by decide) (fun z => absurd z (by decide)) (fun _ => ?_)
  refine lv_aload_n hx hb dX2_init_31 rfl (lv_at hl 1 rfl) ?_
  refine va_get (D := D) (ci := 2) (v := .ref adr) (C := RX2) (T := TX2) (N := 3) hx hb hts hinX2 hown hK.1 hP 0 rfl rfl 0 (by decide) wf4 (fun _ h9 => h9) rfl dX2_init_32 ?_
  refine lv_iload_n hx hb dX2_init_35 rfl (lv_at hl 0 rfl) ?_
  have hc1 : 17+1 ≤ 73 := by decide
  have hs1 : 257+12 ≤ 1125 := by decide
  refine va_new (ci := 0) (fs := [.int 0, .int 0, .int 0, .int 0, .int 0, .null, .null, .null, .null, .null, .null, .null]) (C := RX0) (T := TX0) (N := 12) hx hb hts hinX0 tyX0 tyX0_ok hown wf3 wf9 wf10 hK.1 hP hD hS hA rfl (fun j hj => by rcases (show j = 0 ∨ j = 1 ∨ j = 2 ∨ j = 3 ∨ j = 4 ∨ j = 5 ∨ j = 6 ∨ j = 7 ∨ j = 8 ∨ j = 9 ∨ j = 10 ∨ j = 11 by omega) with rfl | rfl | rfl | rfl | rfl | rfl | rfl | rfl | rfl | rfl | rfl | rfl <;> rfl) hc1 hs1 dX2_init_36 (fun q4 H hP hD hS => ?_)
  have hP : va_P D vwCl ([(h0, .inr (2, [.ref adr, .int (0), .int (0)])), (adr, .inl (ty.2.2.2, 9, .inr (.inr (.inr (.inr (va_up (va_up (fun _ => none) 0 (some (ad0 0))) 1 (some (ad1 0))))))))] ++ (wC ty ad0 kC0 ++ (wC ty ad1 kC0 ++ ([(q4, .inr (0, [.int 0, .int 0, .int 0, .int 0, .int 0, .null, .null, .null, .null, .null, .null, .null]))])))) H := hP
  have hD : va_D A ([(h0, .inr (2, [.ref adr, .int (0), .int (0)])), (adr, .inl (ty.2.2.2, 9, .inr (.inr (.inr (.inr (va_up (va_up (fun _ => none) 0 (some (ad0 0))) 1 (some (ad1 0))))))))] ++ (wC ty ad0 kC0 ++ (wC ty ad1 kC0 ++ ([(q4, .inr (0, [.int 0, .int 0, .int 0, .int 0, .int 0, .null, .null, .null, .null, .null, .null, .null]))])))) := hD
  refine W.widen (k := 18) (n := 269) (by omega) (by omega) ?_
  refine lv_dup hx hb dX2_init_39 rfl ?_
  have hPc := hP.sub (ws' := ([(q4, .inr (0, [.int 0, .int 0, .int 0, .int 0, .int 0, .null, .null, .null, .null, .null, .null, .null]))] : va_W)) [18] rfl
  have hDc := hD.sub (ws' := ([(q4, .inr (0, [.int 0, .int 0, .int 0, .int 0, .int 0, .null, .null, .null, .null, .null, .null, .null]))] : va_W)) [18] (by decide) rfl
  have hFc := va_free (wc := ([(q4, .inr (0, [.int 0, .int 0, .int 0, .int 0, .int 0, .null, .null, .null, .null, .null, .null, .null]))] : va_W)) hD hS hA [18] rfl
  have hc1 : 25 ≤ 73 := by decide
  have hs1 : 381 ≤ 1125 := by decide
  refine va_callv (va_runIN (As := []) (rest := [.ref q4, .int 2, .ref adr]) ⟨hx, hb, hml, hown, hts⟩ (cX0_init_ok l D ty q4 H.size) ⟨va_cnB 0 hts gX2_init_X0_init_n24 rfl rfl rfl hK.2.2.1 wf10 (by decide +kernel) ⟨Nat.le_of_ble_eq_true rfl, Nat.le_of_ble_eq_true rfl⟩, rfl, wf11⟩ ⟨kB_blind _ _ _ _ _, fun U hU hW => ⟨rfl, kB_at hPc hK hDc U hU hW⟩⟩ rfl rfl hl.1 rfl (lv_room (Nat.le_of_ble_eq_true rfl)) dX2_init_40 ⟨hc1, hs1⟩) hS (fun q _ h => hFc q h) hFc (fun u t H1 locs ht hvm hw hB hz1 hk1 hS => ?_)
  obtain ⟨hP1, hD1⟩ := hB
  rw [ht] at hP1
  obtain ⟨ad2, rfl⟩ : ∃ z, z = u := ⟨_, rfl⟩
  have hw : ad2 0 = q4 := hw
  subst hw
  obtain ⟨hP, hD⟩ := va_join (wr := [(h0, .inr (2, [.ref adr, .int (0), .int (0)])), (adr, .inl (ty.2.2.2, 9, .inr (.inr (.inr (.inr (va_up (va_up (fun _ => none) 0 (some (ad0 0))) 1 (some (ad1 0))))))))] ++ (wC ty ad0 kC0 ++ (wC ty ad1 kC0))) (w1 := wC ty ad2 kC0) hP hD [18] [0, 1, 2, 3, 4, 5, 6, 7, 8, 9, 10, 11, 12, 13, 14, 15, 16, 17] rfl rfl (by decide) (by decide) hk1 hFc hP1 hD1
  clear hPc hDc hFc hP1 hD1 hk1
  generalize H1 = H at hP hS ⊢
  have hP : va_P D vwCl ([(h0, .inr (2, [.ref adr, .int (0), .int (0)])), (adr, .inl (ty.2.2.2, 9, .inr (.inr (.inr (.inr (va_up (va_up (fun _ => none) 0 (some (ad0 0))) 1 (some (ad1 0))))))))] ++ (wC ty ad0 kC0 ++ (wC ty ad1 kC0 ++ (wC ty ad2 kC0)))) H := hP
  have hD : va_D A ([(h0, .inr (2, [.ref adr, .int (0), .int (0)])), (adr, .inl (ty.2.2.2, 9, .inr (.inr (.inr (.inr (va_up (va_up (fun _ => none) 0 (some (ad0 0))) 1 (some (ad1 0))))))))] ++ (wC ty ad0 kC0 ++ (wC ty ad1 kC0 ++ (wC ty ad2 kC0)))) := hD
  refine va_astq (f := (va_up (va_up (fun _ => none) 0 (some (ad0 0))) 1 (some (ad1 0)))) (n := 9) (r := (RX0, TX0, 12)) hx hb hK.1 hP hD hS 1 3 18 0 rfl rfl rfl rfl (kIn_ok (by decide)) dX2_init_43 (fun H locs hP hD hS => ?_)
  have hP : va_P D vwCl ([(h0, .inr (2, [.ref adr, .int (0), .int (0)])), (adr, .inl (ty.2.2.2, 9, .inr (.inr (.inr (.inr (va_up (va_up (va_up (fun _ => none) 0 (some (ad0 0))) 1 (some (ad1 0))) 2 (some (ad2 0))))))))] ++ (wC ty ad0 kC0 ++ (wC ty ad1 kC0 ++ (wC ty ad2 kC0)))) H := hP
  have hD : va_D A ([(h0, .inr (2, [.ref adr, .int (0), .int (0)])), (adr, .inl (ty.2.2.2, 9, .inr (.inr (.inr (.inr (va_up (va_up (va_up (fun _ => none) 0 (some (ad0 0))) 1 (some (ad1 0))) 2 (some (ad2 0))))))))] ++ (wC ty ad0 kC0 ++ (wC ty ad1 kC0 ++ (wC ty ad2 kC0)))) := hD
  refine lv_iinc (v := 3) (lv' := [(1, .int 3), (0, .ref h0)]) hx hb dX2_init_44 hl (k := 0) rfl rfl (by decide) rfl (fun ls hl => ?_)
  refine lv_goto (tgt := 25) hx hb dX2_init_47 (by decide) ?_
  refine lv_iload_n hx hb dX2_init_25 rfl (lv_at hl 0 rfl) ?_
  refine lv_bipush (v := 9) hx hb dX2_init_26 (by decide) ?_
  refine lv_icmp_ge (tgt := 50) hx hb dX2_init_28 (by decide) (fun z => absurd z (by decide)) (fun _ => ?_)
  refine lv_aload_n hx hb dX2_init_31 rfl (lv_at hl 1 rfl) ?_
  refine va_get (D := D) (ci := 2) (v := .ref adr) (C := RX2) (T := TX2) (N := 3) hx hb hts hinX2 hown hK.1 hP 0 rfl rfl 0 (by decide) wf4 (fun _ h9 => h9) rfl dX2_init_32 ?_
  refine lv_iload_n hx hb dX2_init_35 rfl (lv_at hl 0 rfl) ?_
  have hc1 : 25+1 ≤ 73 := by decide
  have hs1 : 381+12 ≤ 1125 := by decide
  refine va_new (ci := 0) (fs := [.int 0, .int 0, .int 0, .int 0, .int 0, .null, .null, .null, .null, .null, .null, .null]) (C := RX0) (T := TX0) (N := 12) hx hb hts hinX0 tyX0 tyX0_ok hown wf3 wf9 wf10 hK.1 hP hD hS hA rfl (fun j hj => by rcases (show j = 0 ∨ j = 1 ∨ j = 2 ∨ j = 3 ∨ j = 4 ∨ j = 5 ∨ j = 6 ∨ j = 7 ∨ j = 8 ∨ j = 9 ∨ j = 10 ∨ j = 11 by omega) with rfl | rfl | rfl | rfl | rfl | rfl | rfl | rfl | rfl | rfl | rfl | rfl <;> rfl) hc1 hs1 dX2_init_36 (fun q5 H hP hD hS => ?_)
  have hP : va_P D vwCl ([(h0, .inr (2, [.ref adr, .int (0), .int (0)])), (adr, .inl (ty.2.2.2, 9, .inr (.inr (.inr (.inr (va_up (va_up (va_up (fun _ => none) 0 (some (ad0 0))) 1 (some (ad1 0))) 2 (some (ad2 0))))))))] ++ (wC ty ad0 kC0 ++ (wC ty ad1 kC0 ++ (wC ty ad2 kC0 ++ ([(q5, .inr (0, [.int 0, .int 0, .int 0, .int 0, .int 0, .null, .null, .null, .null, .null, .null, .null]))]))))) H := hP
  have hD : va_D A ([(h0, .inr (2, [.ref adr, .int (0), .int (0)])), (adr, .inl (ty.2.2.2, 9, .inr (.inr (.inr (.inr (va_up (va_up (va_up (fun _ => none) 0 (some (ad0 0))) 1 (some (ad1 0))) 2 (some (ad2 0))))))))] ++ (wC ty ad0 kC0 ++ (wC ty ad1 kC0 ++ (wC ty ad2 kC0 ++ ([(q5, .inr (0, [.int 0, .int 0, .int 0, .int 0, .int 0, .null, .null, .null, .null, .null, .null, .null]))]))))) := hD
  refine W.widen (k := 26) (n := 393) (by omega) (by omega) ?_
  refine lv_dup hx hb dX2_init_39 rfl ?_
  have hPc := hP.sub (ws' := ([(q5, .inr (0, [.int 0, .int 0, .int 0, .int 0, .int 0, .null, .null, .null, .null, .null, .null, .null]))] : va_W)) [26] rfl
  have hDc := hD.sub (ws' := ([(q5, .inr (0, [.int 0, .int 0, .int 0, .int 0, .int 0, .null, .null, .null, .null, .null, .null, .null]))] : va_W)) [26] (by decide) rfl
  have hFc := va_free (wc := ([(q5, .inr (0, [.int 0, .int 0, .int 0, .int 0, .int 0, .null, .null, .null, .null, .null, .null, .null]))] : va_W)) hD hS hA [26] rfl
  have hc1 : 33 ≤ 73 := by decide
  have hs1 : 505 ≤ 1125 := by decide
  refine va_callv (va_runIN (As := []) (rest := [.ref q5, .int 3, .ref adr]) ⟨hx, hb, hml, hown, hts⟩ (cX0_init_ok l D ty q5 H.size) ⟨va_cnB 0 hts gX2_init_X0_init_n24 rfl rfl rfl hK.2.2.1 wf10 (by decide +kernel) ⟨Nat.le_of_ble_eq_true rfl, Nat.le_of_ble_eq_true rfl⟩, rfl, wf11⟩ ⟨kB_blind _ _ _ _ _, fun U hU hW => ⟨rfl, kB_at hPc hK hDc U hU hW⟩⟩ rfl rfl hl.1 rfl (lv_room (Nat.le_of_ble_eq_true rfl)) dX2_init_40 ⟨hc1, hs1⟩) hS (fun q _ h => hFc q h) hFc (fun u t H1 locs ht hvm hw hB hz1 hk1 hS => ?_)
  obtain ⟨hP1, hD1⟩ := hB
  rw [ht] at hP1
  obtain ⟨ad3, rfl⟩ : ∃ z, z = u := ⟨_, rfl⟩
  have hw : ad3 0 = q5 := hw
  subst hw
  obtain ⟨hP, hD⟩ := va_join (wr := [(h0, .inr (2, [.ref adr, .int (0), .int (0)])), (adr, .inl (ty.2.2.2, 9, .inr (.inr (.inr (.inr (va_up (va_up (va_up (fun _ => none) 0 (some (ad0 0))) 1 (some (ad1 0))) 2 (some (ad2 0))))))))] ++ (wC ty ad0 kC0 ++ (wC ty ad1 kC0 ++ (wC ty ad2 kC0)))) (w1 := wC ty ad3 kC0) hP hD [26] [0, 1, 2, 3, 4, 5, 6, 7, 8, 9, 10, 11, 12, 13, 14, 15, 16, 17, 18, 19, 20, 21, 22, 23, 24, 25] rfl rfl (by decide) (by decide) hk1 hFc hP1 hD1
  clear hPc hDc hFc hP1 hD1 hk1
  generalize H1 = H at hP hS ⊢
  have hP : va_P D vwCl ([(h0, .inr (2, [.ref adr, .int (0), .int (0)])), (adr, .inl (ty.2.2.2, 9, .inr (.inr (.inr (.inr (va_up (va_up (va_up (fun _ => none) 0 (some (ad0 0))) 1 (some (ad1 0))) 2 (some (ad2 0))))))))] ++ (wC ty ad0 kC0 ++ (wC ty ad1 kC0 ++ (wC ty ad2 kC0 ++ (wC ty ad3 kC0))))) H := hP
  have hD : va_D A ([(h0, .inr (2, [.ref adr, .int (0), .int (0)])), (adr, .inl (ty.2.2.2, 9, .inr (.inr (.inr (.inr (va_up (va_up (va_up (fun _ => none) 0 (some (ad0 0))) 1 (some (ad1 0))) 2 (some (ad2 0))))))))] ++ (wC ty ad0 kC0 ++ (wC ty ad1 kC0 ++ (wC ty ad2 kC0 ++ (wC ty ad3 kC0))))) := hD
  refine va_astq (f := (va_up (va_up (va_up (fun _ => none) 0 (some (ad0 0))) 1 (some (ad1 0))) 2 (some (ad2 0)))) (n := 9) (r := (RX0, TX0, 12)) hx hb hK.1 hP hD hS 1 3 26 0 rfl rfl rfl rfl (kIn_ok (by decide)) dX2_init_43 (fun H locs hP hD hS => ?_)
  have hP : va_P D vwCl ([(h0, .inr (2, [.ref adr, .int (0), .int (0)])), (adr, .inl (ty.2.2.2, 9, .inr (.inr (.inr (.inr (va_up (va_up (va_up (va_up (fun _ => none) 0 (some (ad0 0))) 1 (some (ad1 0))) 2 (some (ad2 0))) 3 (some (ad3 0))))))))] ++ (wC ty ad0 kC0 ++ (wC ty ad1 kC0 ++ (wC ty ad2 kC0 ++ (wC ty ad3 kC0))))) H := hP
  have hD : va_D A ([(h0, .inr (2, [.ref adr, .int (0), .int (0)])), (adr, .inl (ty.2.2.2, 9, .inr (.inr (.inr (.inr (va_up (va_up (va_up (va_up (fun _ => none) 0 (some (ad0 0))) 1 (some (ad1 0))) 2 (some (ad2 0))) 3 (some (ad3 0))))))))] ++ (wC ty ad0 kC0 ++ (wC ty ad1 kC0 ++ (wC ty ad2 kC0 ++ (wC ty ad3 kC0))))) := hD
  refine lv_iinc (v := 4) (lv' := [(1, .int 4), (0, .ref h0)]) hx hb dX2_init_44 hl (k := 0) rfl rfl (by decide) rfl (fun ls hl => ?_)
  refine lv_goto (tgt := 25) hx hb dX2_init_47 (by decide) ?_
  refine lv_iload_n hx hb dX2_init_25 rfl (lv_at hl 0 rfl) ?_
  refine lv_bipush (v := 9) hx hb dX2_init_26 (by decide) ?_
  refine lv_icmp_ge (tgt := 50) hx hb dX2_init_28 (by decide) (fun z => absurd z (by decide)) (fun _ => ?_)
  refine lv_aload_n hx hb dX2_init_31 rfl (lv_at hl 1 rfl) ?_
  refine va_get (D := D) (ci := 2) (v := .ref adr) (C := RX2) (T := TX2) (N := 3) hx hb hts hinX2 hown hK.1 hP 0 rfl rfl 0 (by decide) wf4 (fun _ h9 => h9) rfl dX2_init_32 ?_
  refine lv_iload_n hx hb dX2_init_35 rfl (lv_at hl 0 rfl) ?_
  have hc1 : 33+1 ≤ 73 := by decide
  have hs1 : 505+12 ≤ 1125 := by decide
  refine va_new (ci := 0) (fs := [.int 0, .int 0, .int 0, .int 0, .int 0, .null, .null, .null, .null, .null, .null, .null]) (C := RX0) (T := TX0) (N := 12) hx hb hts hinX0 tyX0 tyX0_ok hown wf3 wf9 wf10 hK.1 hP hD hS hA rfl (fun j hj => by rcases (show j = 0 ∨ j = 1 ∨ j = 2 ∨ j = 3 ∨ j = 4 ∨ j = 5 ∨ j = 6 ∨ j = 7 ∨ j = 8 ∨ j = 9 ∨ j = 10 ∨ j = 11 by omega) with rfl | rfl | rfl | rfl | rfl | rfl | rfl | rfl | rfl | rfl | rfl | rfl <;> rfl) hc1 hs1 dX2_init_36 (fun q6 H hP hD hS => ?_)
  have hP : va_P D vwCl ([(h0, .inr (2, [.ref adr, .int (0), .int (0)])), (adr, .inl (ty.2.2.2, 9, .inr (.inr (.inr (.inr (va_up (va_up (va_up (va_up (fun _ => none) 0 (some (ad0 0))) 1 (some (ad1 0))) 2 (some (ad2 0))) 3 (some (ad3 0))))))))] ++ (wC ty ad0 kC0 ++ (wC ty ad1 kC0 ++ (wC ty ad2 kC0 ++ (wC ty ad3 kC0 ++ ([(q6, .inr (0, [.int 0, .int 0, .int 0, .int 0, .int 0, .null, .null, .null, .null, .null, .null, .null]))])))))) H := hP
  have hD : va_D A ([(h0, .inr (2, [.ref adr, .int (0), .int (0)])), (adr, .inl (ty.2.2.2, 9, .inr (.inr (.inr (.inr (va_up (va_up (va_up (va_up (fun _ => none) 0 (some (ad0 0))) 1 (some (ad1 0))) 2 (some (ad2 0))) 3 (some (ad3 0))))))))] ++ (wC ty ad0 kC0 ++ (wC ty ad1 kC0 ++ (wC ty ad2 kC0 ++ (wC ty ad3 kC0 ++ ([(q6, .inr (0, [.int 0, .int 0, .int 0, .int 0, .int 0, .null, .null, .null, .null, .null, .null, .null]))])))))) := hD
  refine W.widen (k := 34) (n := 517) (by omega) (by omega) ?_
  refine lv_dup hx hb dX2_init_39 rfl ?_
  have hPc := hP.sub (ws' := ([(q6, .inr (0, [.int 0, .int 0, .int 0, .int 0, .int 0, .null, .null, .null, .null, .null, .null, .null]))] : va_W)) [34] rfl
  have hDc := hD.sub (ws' := ([(q6, .inr (0, [.int 0, .int 0, .int 0, .int 0, .int 0, .null, .null, .null, .null, .null, .null, .null]))] : va_W)) [34] (by decide) rfl
  have hFc := va_free (wc := ([(q6, .inr (0, [.int 0, .int 0, .int 0, .int 0, .int 0, .null, .null, .null, .null, .null, .null, .null]))] : va_W)) hD hS hA [34] rfl
  have hc1 : 41 ≤ 73 := by decide
  have hs1 : 629 ≤ 1125 := by decide
  refine va_callv (va_runIN (As := []) (rest := [.ref q6, .int 4, .ref adr]) ⟨hx, hb, hml, hown, hts⟩ (cX0_init_ok l D ty q6 H.size) ⟨va_cnB 0 hts gX2_init_X0_init_n24 rfl rfl rfl hK.2.2.1 wf10 (by decide +kernel) ⟨Nat.le_of_ble_eq_true rfl, Nat.le_of_ble_eq_true rfl⟩, rfl, wf11⟩ ⟨kB_blind _ _ _ _ _, fun U hU hW => ⟨rfl, kB_at hPc hK hDc U hU hW⟩⟩ rfl rfl hl.1 rfl (lv_room (Nat.le_of_ble_eq_true rfl)) dX2_init_40 ⟨hc1, hs1⟩) hS (fun q _ h => hFc q h) hFc (fun u t H1 locs ht hvm hw hB hz1 hk1 hS => ?_)
  obtain ⟨hP1, hD1⟩ := hB
  rw [ht] at hP1
  obtain ⟨ad4, rfl⟩ : ∃ z, z = u := ⟨_, rfl⟩
  have hw : ad4 0 = q6 := hw
  subst hw
  obtain ⟨hP, hD⟩ := va_join (wr := [(h0, .inr (2, [.ref adr, .int (0), .int (0)])), (adr, .inl (ty.2.2.2, 9, .inr (.inr (.inr (.inr (va_up (va_up (va_up (va_up (fun _ => none) 0 (some (ad0 0))) 1 (some (ad1 0))) 2 (some (ad2 0))) 3 (some (ad3 0))))))))] ++ (wC ty ad0 kC0 ++ (wC ty ad1 kC0 ++ (wC ty ad2 kC0 ++ (wC ty ad3 kC0))))) (w1 := wC ty ad4 kC0) hP hD [34] [0, 1, 2, 3, 4, 5, 6, 7, 8, 9, 10, 11, 12, 13, 14, 15, 16, 17, 18, 19, 20, 21, 22, 23, 24, 25, 26, 27, 28, 29, 30, 31, 32, 33] rfl rfl (by decide) (by decide) hk1 hFc hP1 hD1
  clear hPc hDc hFc hP1 hD1 hk1
  generalize H1 = H at hP hS ⊢
  have hP : va_P D vwCl ([(h0, .inr (2, [.ref adr, .int (0), .int (0)])), (adr, .inl (ty.2.2.2, 9, .inr (.inr (.inr (.inr (va_up (va_up (va_up (va_up (fun _ => none) 0 (some (ad0 0))) 1 (some (ad1 0))) 2 (some (ad2 0))) 3 (some (ad3 0))))))))] ++ (wC ty ad0 kC0 ++ (wC ty ad1 kC0 ++ (wC ty ad2 kC0 ++ (wC ty ad3 kC0 ++ (wC ty ad4 kC0)))))) H := hP
  have hD : va_D A ([(h0, .inr (2, [.ref adr, .int (0), .int (0)])), (adr, .inl (ty.2.2.2, 9, .inr (.inr (.inr (.inr (va_up (va_up (va_up (va_up (fun _ => none) 0 (some (ad0 0))) 1 (some (ad1 0))) 2 (some (ad2 0))) 3 (some (ad3 0))))))))] ++ (wC ty ad0 kC0 ++ (wC ty ad1 kC0 ++ (wC ty ad2 kC0 ++ (wC ty ad3 kC0 ++ (wC ty ad4 kC0)))))) := hD
  refine va_astq (f := (va_up (va_up (va_up (va_up (fun _ => none) 0 (some (ad0 0))) 1 (some (ad1 0))) 2 (some (ad2 0))) 3 (some (ad3 0)))) (n := 9) (r := (RX0, TX0, 12)) hx hb hK.1 hP hD hS 1 3 34 0 rfl rfl rfl rfl (kIn_ok (by decide)) dX2_init_43 (fun H locs hP hD hS => ?_)
  have hP : va_P D vwCl ([(h0, .inr (2, [.ref adr, .int (0), .int (0)])), (adr, .inl (ty.2.2.2, 9, .inr (.inr (.inr (.inr (va_up (va_up (va_up (va_up (va_up (fun _ => none) 0 (some (ad0 0))) 1 (some (ad1 0))) 2 (some (ad2 0))) 3 (some (ad3 0))) 4 (some (ad4 0))))))))] ++ (wC ty ad0 kC0 ++ (wC ty ad1 kC0 ++ (wC ty ad2 kC0 ++ (wC ty ad3 kC0 ++ (wC ty ad4 kC0)))))) H := hP
  have hD : va_D A ([(h0, .inr (2, [.ref adr, .int (0), .int (0)])), (adr, .inl (ty.2.2.2, 9, .inr (.inr (.inr (.inr (va_up (va_up (va_up (va_up (va_up (fun _ => none) 0 (some (ad0 0))) 1 (some (ad1 0))) 2 (some (ad2 0))) 3 (some (ad3 0))) 4 (some (ad4 0))))))))] ++ (wC ty ad0 kC0 ++ (wC ty ad1 kC0 ++ (wC ty ad2 kC0 ++ (wC ty ad3 kC0 ++ (wC ty ad4 kC0)))))) := hD
  refine lv_iinc (v := 5) (lv' := [(1, .int 5), (0, .ref h0)]) hx hb dX2_init_44 hl (k := 0) rfl rfl (by decide) rfl (fun ls hl => ?_)
  refine lv_goto (tgt := 25) hx hb dX2_init_47 (by decide) ?_
  refine lv_iload_n hx hb dX2_init_25 rfl (lv_at hl 0 rfl) ?_
  refine lv_bipush (v := 9) hx hb dX2_init_26 (by decide) ?_
  refine lv_icmp_ge (tgt := 50) hx hb dX2_init_28 (by decide) (fun z => absurd z (by decide)) (fun _ => ?_)
  refine lv_aload_n hx hb dX2_init_31 rfl (lv_at hl 1 rfl) ?_
  refine va_get (D := D) (ci := 2) (v := .ref adr) (C := RX2) (T := TX2) (N := 3) hx hb hts hinX2 hown hK.1 hP 0 rfl rfl 0 (by decide) wf4 (fun _ h9 => h9) rfl dX2_init_32 ?_
  refine lv_iload_n hx hb dX2_init_35 rfl (lv_at hl 0 rfl) ?_
  have hc1 : 41+1 ≤ 73 := by decide
  have hs1 : 629+12 ≤ 1125 := by decide
  refine va_new (ci := 0) (fs := [.int 0, .int 0, .int 0, .int 0, .int 0, .null, .null, .null, .null, .null, .null, .null]) (C := RX0) (T := TX0) (N := 12) hx hb hts hinX0 tyX0 tyX0_ok hown wf3 wf9 wf10 hK.1 hP hD hS hA rfl (fun j hj => by rcases (show j = 0 ∨ j = 1 ∨ j = 2 ∨ j = 3 ∨ j = 4 ∨ j = 5 ∨ j = 6 ∨ j = 7 ∨ j = 8 ∨ j = 9 ∨ j = 10 ∨ j = 11 by omega) with rfl | rfl | rfl | rfl | rfl | rfl | rfl | rfl | rfl | rfl | rfl | rfl <;> rfl) hc1 hs1 dX2_init_36 (fun q7 H hP hD hS => ?_)
  have hP : va_P D vwCl ([(h0, .inr (2, [.ref adr, .int (0), .int (0)])), (adr, .inl (ty.2.2.2, 9, .inr (.inr (.inr (.inr (va_up (va_up (va_up (va_up (va_up (fun _ => none) 0 (some (ad0 0))) 1 (some (ad1 0))) 2 (some (ad2 0))) 3 (some (ad3 0))) 4 (some (ad4 0))))))))] ++ (wC ty ad0 kC0 ++ (wC ty ad1 kC0 ++ (wC ty ad2 kC0 ++ (wC ty ad3 kC0 ++ (wC ty ad4 kC0 ++ ([(q7, .inr (0, [.int 0, .int 0, .int 0, .int 0, .int 0, .null, .null, .null, .null, .null, .null, .null]))]))))))) H := hP
  have hD : va_D A ([(h0, .inr (2, [.ref adr, .int (0), .int (0)])), (adr, .inl (ty.2.2.2, 9, .inr (.inr (.inr (.inr (va_up (va_up (va_up (va_up (va_up (fun _ => none) 0 (some (ad0 0))) 1 (some (ad1 0))) 2 (some (ad2 0))) 3 (some (ad3 0))) 4 (some (ad4 0))))))))] ++ (wC ty ad0 kC0 ++ (wC ty ad1 kC0 ++ (wC ty ad2 kC0 ++ (wC ty ad3 kC0 ++ (wC ty ad4 kC0 ++ ([(q7, .inr (0, [.int 0, .int 0, .int 0, .int 0, .int 0, .null, .null, .null, .null, .null, .null, .null]))]))))))) := hD
  refine W.widen (k := 42) (n := 641) (by omega) (by omega) ?_
  refine lv_dup hx hb dX2_init_39 rfl ?_
  have hPc := hP.sub (ws' := ([(q7, .inr (0, [.int 0, .int 0, .int 0, .int 0, .int 0, .null, .null, .null, .null, .null, .null, .null]))] : va_W)) [42] rfl
  have hDc := hD.sub (ws' := ([(q7, .inr (0, [.int 0, .int 0, .int 0, .int 0, .int 0, .null, .null, .null, .null, .null, .null, .null]))] : va_W)) [42] (by decide) rfl
  have hFc := va_free (wc := ([(q7, .inr (0, [.int 0, .int 0, .int 0, .int 0, .int 0, .null, .null, .null, .null, .null, .null, .null]))] : va_W)) hD hS hA [42] rfl
  have hc1 : 49 ≤ 73 := by decide
  have hs1 : 753 ≤ 1125 := by decide
  refine va_callv (va_runIN (As := []) (rest := [.ref q7, .int 5, .ref adr]) ⟨hx, hb, hml, hown, hts⟩ (cX0_init_ok l D ty q7 H.size) ⟨va_cnB 0 hts gX2_init_X0_init_n24 rfl rfl rfl hK.2.2.1 wf10 (by decide +kernel) ⟨Nat.le_of_ble_eq_true rfl, Nat.le_of_ble_eq_true rfl⟩, rfl, wf11⟩ ⟨kB_blind _ _ _ _ _, fun U hU hW => ⟨rfl, kB_at hPc hK hDc U hU hW⟩⟩ rfl rfl hl.1 rfl (lv_room (Nat.le_of_ble_eq_true rfl)) dX2_init_40 ⟨hc1, hs1⟩) hS (fun q _ h => hFc q h) hFc (fun u t H1 locs ht hvm hw hB hz1 hk1 hS => ?_)
  obtain ⟨hP1, hD1⟩ := hB
  rw [ht] at hP1
  obtain ⟨ad5, rfl⟩ : ∃ z, z = u := ⟨_, rfl⟩
  have hw : ad5 0 = q7 := hw
  subst hw
  obtain ⟨hP, hD⟩ := va_join (wr := [(h0, .inr (2, [.ref adr, .int (0), .int (0)])), (adr, .inl (ty.2.2.2, 9, .inr (.inr (.inr (.inr (va_up (va_up (va_up (va_up (va_up (fun _ => none) 0 (some (ad0 0))) 1 (some (ad1 0))) 2 (some (ad2 0))) 3 (some (ad3 0))) 4 (some (ad4 0))))))))] ++ (wC ty ad0 kC0 ++ (wC ty ad1 kC0 ++ (wC ty ad2 kC0 ++ (wC ty ad3 kC0 ++ (wC ty ad4 kC0)))))) (w1 := wC ty ad5 kC0) hP hD [42] [0, 1, 2, 3, 4, 5, 6, 7, 8, 9, 10, 11, 12, 13, 14, 15, 16, 17, 18, 19, 20, 21, 22, 23, 24, 25, 26, 27, 28, 29, 30, 31, 32, 33, 34, 35, 36, 37, 38, 39, 40, 41] rfl rfl (by decide) (by decide) hk1 hFc hP1 hD1
  clear hPc hDc hFc hP1 hD1 hk1
  generalize H1 = H at hP hS ⊢
  have hP : va_P D vwCl ([(h0, .inr (2, [.ref adr, .int (0), .int (0)])), (adr, .inl (ty.2.2.2, 9, .inr (.inr (.inr (.inr (va_up (va_up (va_up (va_up (va_up (fun _ => none) 0 (some (ad0 0))) 1 (some (ad1 0))) 2 (some (ad2 0))) 3 (some (ad3 0))) 4 (some (ad4 0))))))))] ++ (wC ty ad0 kC0 ++ (wC ty ad1 kC0 ++ (wC ty ad2 kC0 ++ (wC ty ad3 kC0 ++ (wC ty ad4 kC0 ++ (wC ty ad5 kC0))))))) H := hP
  have hD : va_D A ([(h0, .inr (2, [.ref adr, .int (0), .int (0)])), (adr, .inl (ty.2.2.2, 9, .inr (.inr (.inr (.inr (va_up (va_up (va_up (va_up (va_up (fun _ => none) 0 (some (ad0 0))) 1 (some (ad1 0))) 2 (some (ad2 0))) 3 (some (ad3 0))) 4 (some (ad4 0))))))))] ++ (wC ty ad0 kC0 ++ (wC ty ad1 kC0 ++ (wC ty ad2 kC0 ++ (wC ty ad3 kC0 ++ (wC ty ad4 kC0 ++ (wC ty ad5 kC0))))))) := hD
  refine va_astq (f := (va_up (va_up (va_up (va_up (va_up (fun _ => none) 0 (some (ad0 0))) 1 (some (ad1 0))) 2 (some (ad2 0))) 3 (some (ad3 0))) 4 (some (ad4 0)))) (n := 9) (r := (RX0, TX0, 12)) hx hb hK.1 hP hD hS 1 3 42 0 rfl rfl rfl rfl (kIn_ok (by decide)) dX2_init_43 (fun H locs hP hD hS => ?_)
  have hP : va_P D vwCl ([(h0, .inr (2, [.ref adr, .int (0), .int (0)])), (adr, .inl (ty.2.2.2, 9, .inr (.inr (.inr (.inr (va_up (va_up (va_up (va_up (va_up (va_up (fun _ => none) 0 (some (ad0 0))) 1 (some (ad1 0))) 2 (some (ad2 0))) 3 (some (ad3 0))) 4 (some (ad4 0))) 5 (some (ad5 0))))))))] ++ (wC ty ad0 kC0 ++ (wC ty ad1 kC0 ++ (wC ty ad2 kC0 ++ (wC ty ad3 kC0 ++ (wC ty ad4 kC0 ++ (wC ty ad5 kC0))))))) H := hP
  have hD : va_D A ([(h0, .inr (2, [.ref adr, .int (0), .int (0)])), (adr, .inl (ty.2.2.2, 9, .inr (.inr (.inr (.inr (va_up (va_up (va_up (va_up (va_up (va_up (fun _ => none) 0 (some (ad0 0))) 1 (some (ad1 0))) 2 (some (ad2 0))) 3 (some (ad3 0))) 4 (some (ad4 0))) 5 (some (ad5 0))))))))] ++ (wC ty ad0 kC0 ++ (wC ty ad1 kC0 ++ (wC ty ad2 kC0 ++ (wC ty ad3 kC0 ++ (wC ty ad4 kC0 ++ (wC ty ad5 kC0))))))) := hD
  refine lv_iinc (v := 6) (lv' := [(1, .int 6), (0, .ref h0)]) hx hb dX2_init_44 hl (k := 0) rfl rfl (by decide) rfl (fun ls hl => ?_)
  refine lv_goto (tgt := 25) hx hb dX2_init_47 (by decide) ?_
  refine lv_iload_n hx hb dX2_init_25 rfl (lv_at hl 0 rfl) ?_
  refine lv_bipush (v := 9) hx hb dX2_init_26 (by decide) ?_
  refine lv_icmp_ge (tgt := 50) hx hb dX2_init_28 (by decide) (fun z => absurd z (by decide)) (fun _ => ?_)
  refine lv_aload_n hx hb dX2_init_31 rfl (lv_at hl 1 rfl) ?_
  refine va_get (D := D) (ci := 2) (v := .ref adr) (C := RX2) (T := TX2) (N := 3) hx hb hts hinX2 hown hK.1 hP 0 rfl rfl 0 (by decide) wf4 (fun _ h9 => h9) rfl dX2_init_32 ?_
  refine lv_iload_n hx hb dX2_init_35 rfl (lv_at hl 0 rfl) ?_
  have hc1 : 49+1 ≤ 73 := by decide
  have hs1 : 753+12 ≤ 1125 := by decide
  refine va_new (ci := 0) (fs := [.int 0, .int 0, .int 0, .int 0, .int 0, .null, .null, .null, .null, .null, .null, .null]) (C := RX0) (T := TX0) (N := 12) hx hb hts hinX0 tyX0 tyX0_ok hown wf3 wf9 wf10 hK.1 hP hD hS hA rfl (fun j hj => by rcases (show j = 0 ∨ j = 1 ∨ j = 2 ∨ j = 3 ∨ j = 4 ∨ j = 5 ∨ j = 6 ∨ j = 7 ∨ j = 8 ∨ j = 9 ∨ j = 10 ∨ j = 11 by omega) with rfl | rfl | rfl | rfl | rfl | rfl | rfl | rfl | rfl | rfl | rfl | rfl <;> rfl) hc1 hs1 dX2_init_36 (fun q8 H hP hD hS => ?_)
  have hP : va_P D vwCl ([(h0, .inr (2, [.ref adr, .int (0), .int (0)])), (adr, .inl (ty.2.2.2, 9, .inr (.inr (.inr (.inr (va_up (va_up (va_up (va_up (va_up (va_up (fun _ => none) 0 (some (ad0 0))) 1 (some (ad1 0))) 2 (some (ad2 0))) 3 (some (ad3 0))) 4 (some (ad4 0))) 5 (some (ad5 0))))))))] ++ (wC ty ad0 kC0 ++ (wC ty ad1 kC0 ++ (wC ty ad2 kC0 ++ (wC ty ad3 kC0 ++ (wC ty ad4 kC0 ++ (wC ty ad5 kC0 ++ ([(q8, .inr (0, [.int 0, .int 0, .int 0, .int 0, .int 0, .null, .null, .null, .null, .null, .null, .null]))])))))))) H := hP
  have hD : va_D A ([(h0, .inr (2, [.ref adr, .int (0), .int (0)])), (adr, .inl (ty.2.2.2, 9, .inr (.inr (.inr (.inr (va_up (va_up (va_up (va_up (va_up (va_up (fun _ => none) 0 (some (ad0 0))) 1 (some (ad1 0))) 2 (some (ad2 0))) 3 (some (ad3 0))) 4 (some (ad4 0))) 5 (some (ad5 0))))))))] ++ (wC ty ad0 kC0 ++ (wC ty ad1 kC0 ++ (wC ty ad2 kC0 ++ (wC ty ad3 kC0 ++ (wC ty ad4 kC0 ++ (wC ty ad5 kC0 ++ ([(q8, .inr (0, [.int 0, .int 0, .int 0, .int 0, .int 0, .null, .null, .null, .null, .null, .null, .null]))])))))))) := hD
  refine W.widen (k := 50) (n := 765) (by omega) (by omega) ?_
  refine lv_dup hx hb dX2_init_39 rfl ?_
  have hPc := hP.sub (ws' := ([(q8, .inr (0, [.int 0, .int 0, .int 0, .int 0, .int 0, .null, .null, .null, .null, .null, .null, .null]))] : va_W)) [50] rfl
  have hDc := hD.sub (ws' := ([(q8, .inr (0, [.int 0, .int 0, .int 0, .int 0, .int 0, .null, .null, .null, .null, .null, .null, .null]))] : va_W)) [50] (by decide) rfl
  have hFc := va_free (wc := ([(q8, .inr (0, [.int 0, .int 0, .int 0, .int 0, .int 0, .null, .null, .null, .null, .null, .null, .null]))] : va_W)) hD hS hA [50] rfl
  have hc1 : 57 ≤ 73 := by decide
  have hs1 : 877 ≤ 1125 := by decide
  refine va_callv (va_runIN (As := []) (rest := [.ref q8, .int 6, .ref adr]) ⟨hx, hb, hml, hown, hts⟩ (cX0_init_ok l D ty q8 H.size) ⟨va_cnB 0 hts gX2_init_X0_init_n24 rfl rfl rfl hK.2.2.1 wf10 (by decide +kernel) ⟨Nat.le_of_ble_eq_true rfl, Nat.le_of_ble_eq_true rfl⟩, rfl, wf11⟩ ⟨kB_blind _ _ _ _ _, fun U hU hW => ⟨rfl, kB_at hPc hK hDc U hU hW⟩⟩ rfl rfl hl.1 rfl (lv_room (Nat.le_of_ble_eq_true rfl)) dX2_init_40 ⟨hc1, hs1⟩) hS (fun q _ h => hFc q h) hFc (fun u t H1 locs ht hvm hw hB hz1 hk1 hS => ?_)
  obtain ⟨hP1, hD1⟩ := hB
  rw [ht] at hP1
  obtain ⟨ad6, rfl⟩ : ∃ z, z = u := ⟨_, rfl⟩
  have hw : ad6 0 = q8 := hw
  subst hw
  obtain ⟨hP, hD⟩ := va_join (wr := [(h0, .inr (2, [.ref adr, .int (0), .int (0)])), (adr, .inl (ty.2.2.2, 9, .inr (.inr (.inr (.inr (va_up (va_up (va_up (va_up (va_up (va_up (fun _ => none) 0 (some (ad0 0))) 1 (some (ad1 0))) 2 (some (ad2 0))) 3 (some (ad3 0))) 4 (some (ad4 0))) 5 (some (ad5 0))))))))] ++ (wC ty ad0 kC0 ++ (wC ty ad1 kC0 ++ (wC ty ad2 kC0 ++ (wC ty ad3 kC0 ++ (wC ty ad4 kC0 ++ (wC ty ad5 kC0))))))) (w1 := wC ty ad6 kC0) hP hD [50] [0, 1, 2, 3, 4, 5, 6, 7, 8, 9, 10, 11, 12, 13, 14, 15, 16, 17, 18, 19, 20, 21, 22, 23, 24, 25, 26, 27, 28, 29, 30, 31, 32, 33, 34, 35, 36, 37, 38, 39, 40, 41, 42, 43, 44, 45, 46, 47, 48, 49] rfl rfl (by decide) (by decide) hk1 hFc hP1 hD1
  clear hPc hDc hFc hP1 hD1 hk1
  generalize H1 = H at hP hS ⊢
  have hP : va_P D vwCl ([(h0, .inr (2, [.ref adr, .int (0), .int (0)])), (adr, .inl (ty.2.2.2, 9, .inr (.inr (.inr (.inr (va_up (va_up (va_up (va_up (va_up (va_up (fun _ => none) 0 (some (ad0 0))) 1 (some (ad1 0))) 2 (some (ad2 0))) 3 (some (ad3 0))) 4 (some (ad4 0))) 5 (some (ad5 0))))))))] ++ (wC ty ad0 kC0 ++ (wC ty ad1 kC0 ++ (wC ty ad2 kC0 ++ (wC ty ad3 kC0 ++ (wC ty ad4 kC0 ++ (wC ty ad5 kC0 ++ (wC ty ad6 kC0)))))))) H := hP
  have hD : va_D A ([(h0, .inr (2, [.ref adr, .int (0), .int (0)])), (adr, .inl (ty.2.2.2, 9, .inr (.inr (.inr (.inr (va_up (va_up (va_up (va_up (va_up (va_up (fun _ => none) 0 (some (ad0 0))) 1 (some (ad1 0))) 2 (some (ad2 0))) 3 (some (ad3 0))) 4 (some (ad4 0))) 5 (some (ad5 0))))))))] ++ (wC ty ad0 kC0 ++ (wC ty ad1 kC0 ++ (wC ty ad2 kC0 ++ (wC ty ad3 kC0 ++ (wC ty ad4 kC0 ++ (wC ty ad5 kC0 ++ (wC ty ad6 kC0)))))))) := hD
  refine va_astq (f := (va_up (va_up (va_up (va_up (va_up (va_up (fun _ => none) 0 (some (ad0 0))) 1 (some (ad1 0))) 2 (some (ad2 0))) 3 (some (ad3 0))) 4 (some (ad4 0))) 5 (some (ad5 0)))) (n := 9) (r := (RX0, TX0, 12)) hx hb hK.1 hP hD hS 1 3 50 0 rfl rfl rfl rfl (kIn_ok (by decide)) dX2_init_43 (fun H locs hP hD hS => ?_)
  have hP : va_P D vwCl ([(h0, .inr (2, [.ref adr, .int (0), .int (0)])), (adr, .inl (ty.2.2.2, 9, .inr (.inr (.inr (.inr (va_up (va_up (va_up (va_up (va_up (va_up (va_up (fun _ => none) 0 (some (ad0 0))) 1 (some (ad1 0))) 2 (some (ad2 0))) 3 (some (ad3 0))) 4 (some (ad4 0))) 5 (some (ad5 0))) 6 (some (ad6 0))))))))] ++ (wC ty ad0 kC0 ++ (wC ty ad1 kC0 ++ (wC ty ad2 kC0 ++ (wC ty ad3 kC0 ++ (wC ty ad4 kC0 ++ (wC ty ad5 kC0 ++ (wC ty ad6 kC0)))))))) H := hP
  have hD : va_D A ([(h0, .inr (2, [.ref adr, .int (0), .int (0)])), (adr, .inl (ty.2.2.2, 9, .inr (.inr (.inr (.inr (va_up (va_up (va_up (va_up (va_up (va_up (va_up (fun _ => none) 0 (some (ad0 0))) 1 (some (ad1 0))) 2 (some (ad2 0))) 3 (some (ad3 0))) 4 (some (ad4 0))) 5 (some (ad5 0))) 6 (some (ad6 0))))))))] ++ (wC ty ad0 kC0 ++ (wC ty ad1 kC0 ++ (wC ty ad2 kC0 ++ (wC ty ad3 kC0 ++ (wC ty ad4 kC0 ++ (wC ty ad5 kC0 ++ (wC ty ad6 kC0)))))))) := hD
  refine lv_iinc (v := 7) (lv' := [(1, .int 7), (0, .ref h0)]) hx hb dX2_init_44 hl (k := 0) rfl rfl (by decide) rfl (fun ls hl => ?_)
  refine lv_goto (tgt := 25) hx hb dX2_init_47 (by decide) ?_
  refine lv_iload_n hx hb dX2_init_25 rfl (lv_at hl 0 rfl) ?_
  refine lv_bipush (v := 9) hx hb dX2_init_26 (by decide) ?_
  refine lv_icmp_ge (tgt := 50) hx hb dX2_init_28 (by decide) (fun z => absurd z (by decide)) (fun _ => ?_)
  refine lv_aload_n hx hb dX2_init_31 rfl (lv_at hl 1 rfl) ?_
  refine va_get (D := D) (ci := 2) (v := .ref adr) (C := RX2) (T := TX2) (N := 3) hx hb hts hinX2 hown hK.1 hP 0 rfl rfl 0 (by decide) wf4 (fun _ h9 => h9) rfl dX2_init_32 ?_
  refine lv_iload_n hx hb dX2_init_35 rfl (lv_at hl 0 rfl) ?_
  have hc1 : 57+1 ≤ 73 := by decide
  have hs1 : 877+12 ≤ 1125 := by decide
  refine va_new (ci := 0) (fs := [.int 0, .int 0, .int 0, .int 0, .int 0, .null, .null, .null, .null, .null, .null, .null]) (C := RX0) (T := TX0) (N := 12) hx hb hts hinX0 tyX0 tyX0_ok hown wf3 wf9 wf10 hK.1 hP hD hS hA rfl (fun j hj => by rcases (show j = 0 ∨ j = 1 ∨ j = 2 ∨ j = 3 ∨ j = 4 ∨ j = 5 ∨ j = 6 ∨ j = 7 ∨ j = 8 ∨ j = 9 ∨ j = 10 ∨ j = 11 by omega) with rfl | rfl | rfl | rfl | rfl | rfl | rfl | rfl | rfl | rfl | rfl | rfl <;> rfl) hc1 hs1 dX2_init_36 (fun q9 H hP hD hS => ?_)
  have hP : va_P D vwCl ([(h0, .inr (2, [.ref adr, .int (0), .int (0)])), (adr, .inl (ty.2.2.2, 9, .inr (.inr (.inr (.inr (va_up (va_up (va_up (va_up (va_up (va_up (va_up (fun _ => none) 0 (some (ad0 0))) 1 (some (ad1 0))) 2 (some (ad2 0))) 3 (some (ad3 0))) 4 (some (ad4 0))) 5 (some (ad5 0))) 6 (some (ad6 0))))))))] ++ (wC ty ad0 kC0 ++ (wC ty ad1 kC0 ++ (wC ty ad2 kC0 ++ (wC ty ad3 kC0 ++ (wC ty ad4 kC0 ++ (wC ty ad5 kC0 ++ (wC ty ad6 kC0 ++ ([(q9, .inr (0, [.int 0, .int 0, .int 0, .int 0, .int 0, .null, .null, .null, .null, .null, .null, .null]))]))))))))) H := hP
  have hD : va_D A ([(h0, .inr (2, [.ref adr, .int (0), .int (0)])), (adr, .inl (ty.2.2.2, 9, .inr (.inr (.inr (.inr (va_up (va_up (va_up (va_up (va_up (va_up (va_up (fun _ => none) 0 (some (ad0 0))) 1 (some (ad1 0))) 2 (some (ad2 0))) 3 (some (ad3 0))) 4 (some (ad4 0))) 5 (some (ad5 0))) 6 (some (ad6 0))))))))] ++ (wC ty ad0 kC0 ++ (wC ty ad1 kC0 ++ (wC ty ad2 kC0 ++ (wC ty ad3 kC0 ++ (wC ty ad4 kC0 ++ (wC ty ad5 kC0 ++ (wC ty ad6 kC0 ++ ([(q9, .inr (0, [.int 0, .int 0, .int 0, .int 0, .int 0, .null, .null, .null, .null, .null, .null, .null]))]))))))))) := hD
  refine W.widen (k := 58) (n := 889) (by omega) (by omega) ?_
  refine lv_dup hx hb dX2_init_39 rfl ?_
  have hPc := hP.sub (ws' := ([(q9, .inr (0, [.int 0, .int 0, .int 0, .int 0, .int 0, .null, .null, .null, .null, .null, .null, .null]))] : va_W)) [58] rfl
  have hDc := hD.sub (ws' := ([(q9, .inr (0, [.int 0, .int 0, .int 0, .int 0, .int 0, .null, .null, .null, .null, .null, .null, .null]))] : va_W)) [58] (by decide) rfl
  have hFc := va_free (wc := ([(q9, .inr (0, [.int 0, .int 0, .int 0, .int 0, .int 0, .null, .null, .null, .null, .null, .null, .null]))] : va_W)) hD hS hA [58] rfl
  have hc1 : 65 ≤ 73 := by decide
  have hs1 : 1001 ≤ 1125 := by decide
  refine va_callv (va_runIN (As := []) (rest := [.ref q9, .int 7, .ref adr]) ⟨hx, hb, hml, hown, hts⟩ (cX0_init_ok l D ty q9 H.size) ⟨va_cnB 0 hts gX2_init_X0_init_n24 rfl rfl rfl hK.2.2.1 wf10 (by decide +kernel) ⟨Nat.le_of_ble_eq_true rfl, Nat.le_of_ble_eq_true rfl⟩, rfl, wf11⟩ ⟨kB_blind _ _ _ _ _, fun U hU hW => ⟨rfl, kB_at hPc hK hDc U hU hW⟩⟩ rfl rfl hl.1 rfl (lv_room (Nat.le_of_ble_eq_true rfl)) dX2_init_40 ⟨hc1, hs1⟩) hS (fun q _ h => hFc q h) hFc (fun u t H1 locs ht hvm hw hB hz1 hk1 hS => ?_)
  obtain ⟨hP1, hD1⟩ := hB
  rw [ht] at hP1
  obtain ⟨ad7, rfl⟩ : ∃ z, z = u := ⟨_, rfl⟩
  have hw : ad7 0 = q9 := hw
  subst hw
  obtain ⟨hP, hD⟩ := va_join (wr := [(h0, .inr (2, [.ref adr, .int (0), .int (0)])), (adr, .inl (ty.2.2.2, 9, .inr (.inr (.inr (.inr (va_up (va_up (va_up (va_up (va_up (va_up (va_up (fun _ => none) 0 (some (ad0 0))) 1 (some (ad1 0))) 2 (some (ad2 0))) 3 (some (ad3 0))) 4 (some (ad4 0))) 5 (some (ad5 0))) 6 (some (ad6 0))))))))] ++ (wC ty ad0 kC0 ++ (wC ty ad1 kC0 ++ (wC ty ad2 kC0 ++ (wC ty ad3 kC0 ++ (wC ty ad4 kC0 ++ (wC ty ad5 kC0 ++ (wC ty ad6 kC0)))))))) (w1 := wC ty ad7 kC0) hP hD [58] [0, 1, 2, 3, 4, 5, 6, 7, 8, 9, 10, 11, 12, 13, 14, 15, 16, 17, 18, 19, 20, 21, 22, 23, 24, 25, 26, 27, 28, 29, 30, 31, 32, 33, 34, 35, 36, 37, 38, 39, 40, 41, 42, 43, 44, 45, 46, 47, 48, 49, 50, 51, 52, 53, 54, 55, 56, 57] rfl rfl (by decide) (by decide) hk1 hFc hP1 hD1
  clear hPc hDc hFc hP1 hD1 hk1
  generalize H1 = H at hP hS ⊢
  have hP : va_P D vwCl ([(h0, .inr (2, [.ref adr, .int (0), .int (0)])), (adr, .inl (ty.2.2.2, 9, .inr (.inr (.inr (.inr (va_up (va_up (va_up (va_up (va_up (va_up (va_up (fun _ => none) 0 (some (ad0 0))) 1 (some (ad1 0))) 2 (some (ad2 0))) 3 (some (ad3 0))) 4 (some (ad4 0))) 5 (some (ad5 0))) 6 (some (ad6 0))))))))] ++ (wC ty ad0 kC0 ++ (wC ty ad1 kC0 ++ (wC ty ad2 kC0 ++ (wC ty ad3 kC0 ++ (wC ty ad4 kC0 ++ (wC ty ad5 kC0 ++ (wC ty ad6 kC0 ++ (wC ty ad7 kC0))))))))) H := hP
  have hD : va_D A ([(h0, .inr (2, [.ref adr, .int (0), .int (0)])), (adr, .inl (ty.2.2.2, 9, .inr (.inr (.inr (.inr (va_up (va_up (va_up (va_up (va_up (va_up (va_up (fun _ => none) 0 (some (ad0 0))) 1 (some (ad1 0))) 2 (some (ad2 0))) 3 (some (ad3 0))) 4 (some (ad4 0))) 5 (some (ad5 0))) 6 (some (ad6 0))))))))] ++ (wC ty ad0 kC0 ++ (wC ty ad1 kC0 ++ (wC ty ad2 kC0 ++ (wC ty ad3 kC0 ++ (wC ty ad4 kC0 ++ (wC ty ad5 kC0 ++ (wC ty ad6 kC0 ++ (wC ty ad7 kC0))))))))) := hD
  refine va_astq (f := (va_up (va_up (va_up (va_up (va_up (va_up (va_up (fun _ => none) 0 (some (ad0 0))) 1 (some (ad1 0))) 2 (some (ad2 0))) 3 (some (ad3 0))) 4 (some (ad4 0))) 5 (some (ad5 0))) 6 (some (ad6 0)))) (n := 9) (r := (RX0, TX0, 12)) hx hb hK.1 hP hD hS 1 3 58 0 rfl rfl rfl rfl (kIn_ok (by decide)) dX2_init_43 (fun H locs hP hD hS => ?_)
  have hP : va_P D vwCl ([(h0, .inr (2, [.ref adr, .int (0), .int (0)])), (adr, .inl (ty.2.2.2, 9, .inr (.inr (.inr (.inr (va_up (va_up (va_up (va_up (va_up (va_up (va_up (va_up (fun _ => none) 0 (some (ad0 0))) 1 (some (ad1 0))) 2 (some (ad2 0))) 3 (some (ad3 0))) 4 (some (ad4 0))) 5 (some (ad5 0))) 6 (some (ad6 0))) 7 (some (ad7 0))))))))] ++ (wC ty ad0 kC0 ++ (wC ty ad1 kC0 ++ (wC ty ad2 kC0 ++ (wC ty ad3 kC0 ++ (wC ty ad4 kC0 ++ (wC ty ad5 kC0 ++ (wC ty ad6 kC0 ++ (wC ty ad7 kC0))))))))) H := hP
  have hD : va_D A ([(h0, .inr (2, [.ref adr, .int (0), .int (0)])), (adr, .inl (ty.2.2.2, 9, .inr (.inr (.inr (.inr (va_up (va_up (va_up (va_up (va_up (va_up (va_up (va_up (fun _ => none) 0 (some (ad0 0))) 1 (some (ad1 0))) 2 (some (ad2 0))) 3 (some (ad3 0))) 4 (some (ad4 0))) 5 (some (ad5 0))) 6 (some (ad6 0))) 7 (some (ad7 0))))))))] ++ (wC ty ad0 kC0 ++ (wC ty ad1 kC0 ++ (wC ty ad2 kC0 ++ (wC ty ad3 kC0 ++ (wC ty ad4 kC0 ++ (wC ty ad5 kC0 ++ (wC ty ad6 kC0 ++ (wC ty ad7 kC0))))))))) := hD
  refine lv_iinc (v := 8) (lv' := [(1, .int 8), (0, .ref h0)]) hx hb dX2_init_44 hl (k := 0) rfl rfl (by decide) rfl (fun ls hl => ?_)
  refine lv_goto (tgt := 25) hx hb dX2_init_47 (by decide) ?_
  refine lv_iload_n hx hb dX2_init_25 rfl (lv_at hl 0 rfl) ?_
  refine lv_bipush (v := 9) hx hb dX2_init_26 (by decide) ?_
  refine lv_icmp_ge (tgt := 50) hx hb dX2_init_28 (by decide) (fun z => absurd z (by decide)) (fun _ => ?_)
  refine lv_aload_n hx hb dX2_init_31 rfl (lv_at hl 1 rfl) ?_
  refine va_get (D := D) (ci := 2) (v := .ref adr) (C := RX2) (T := TX2) (N := 3) hx hb hts hinX2 hown hK.1 hP 0 rfl rfl 0 (by decide) wf4 (fun _ h9 => h9) rfl dX2_init_32 ?_
  refine lv_iload_n hx hb dX2_init_35 rfl (lv_at hl 0 rfl) ?_
  have hc1 : 65+1 ≤ 73 := by decide
  have hs1 : 1001+12 ≤ 1125 := by decide
  refine va_new (ci := 0) (fs := [.int 0, .int 0, .int 0, .int 0, .int 0, .null, .null, .null, .null, .null, .null, .null]) (C := RX0) (T := TX0) (N := 12) hx hb hts hinX0 tyX0 tyX0_ok hown wf3 wf9 wf10 hK.1 hP hD hS hA rfl (fun j hj => by rcases (show j = 0 ∨ j = 1 ∨ j = 2 ∨ j = 3 ∨ j = 4 ∨ j = 5 ∨ j = 6 ∨ j = 7 ∨ j = 8 ∨ j = 9 ∨ j = 10 ∨ j = 11 by omega) with rfl | rfl | rfl | rfl | rfl | rfl | rfl | rfl | rfl | rfl | rfl | rfl <;> rfl) hc1 hs1 dX2_init_36 (fun q10 H hP hD hS => ?_)
  have hP : va_P D vwCl ([(h0, .inr (2, [.ref adr, .int (0), .int (0)])), (adr, .inl (ty.2.2.2, 9, .inr (.inr (.inr (.inr (va_up (va_up (va_up (va_up (va_up (va_up (va_up (va_up (fun _ => none) 0 (some (ad0 0))) 1 (some (ad1 0))) 2 (some (ad2 0))) 3 (some (ad3 0))) 4 (some (ad4 0))) 5 (some (ad5 0))) 6 (some (ad6 0))) 7 (some (ad7 0))))))))] ++ (wC ty ad0 kC0 ++ (wC ty ad1 kC0 ++ (wC ty ad2 kC0 ++ (wC ty ad3 kC0 ++ (wC ty ad4 kC0 ++ (wC ty ad5 kC0 ++ (wC ty ad6 kC0 ++ (wC ty ad7 kC0 ++ ([(q10, .inr (0, [.int 0, .int 0, .int 0, .int 0, .int 0, .null, .null, .null, .null, .null, .null, .null]))])))))))))) H := hP
  have hD : va_D A ([(h0, .inr (2, [.ref adr, .int (0), .int (0)])), (adr, .inl (ty.2.2.2, 9, .inr (.inr (.inr (.inr (va_up (va_up (va_up (va_up (va_up (va_up (va_up (va_up (fun _ => none) 0 (some (ad0 0))) 1 (some (ad1 0))) 2 (some (ad2 0))) 3 (some (ad3 0))) 4 (some (ad4 0))) 5 (some (ad5 0))) 6 (some (ad6 0))) 7 (some (ad7 0))))))))] ++ (wC ty ad0 kC0 ++ (wC ty ad1 kC0 ++ (wC ty ad2 kC0 ++ (wC ty ad3 kC0 ++ (wC ty ad4 kC0 ++ (wC ty ad5 kC0 ++ (wC ty ad6 kC0 ++ (wC ty ad7 kC0 ++ ([(q10, .inr (0, [.int 0, .int 0, .int 0, .int 0, .int 0, .null, .null, .null, .null, .null, .null, .null]))])))))))))) := hD
  refine W.widen (k := 66) (n := 1013) (by omega) (by omega) ?_
  refine lv_dup hx hb dX2_init_39 rfl ?_
  have hPc := hP.sub (ws' := ([(q10, .inr (0, [.int 0, .int 0, .int 0, .int 0, .int 0, .null, .null, .null, .null, .null, .null, .null]))] : va_W)) [66] rfl
  have hDc := hD.sub (ws' := ([(q10, .inr (0, [.int 0, .int 0, .int 0, .int 0, .int 0, .null, .null, .null, .null, .null, .null, .null]))] : va_W)) [66] (by decide) rfl
  have hFc := va_free (wc := ([(q10, .inr (0, [.int 0, .int 0, .int 0, .int 0, .int 0, .null, .null, .null, .null, .null, .null, .null]))] : va_W)) hD hS hA [66] rfl
  have hc1 : 73 ≤ 73 := by decide
  have hs1 : 1125 ≤ 1125 := by decide
  refine va_callv (va_runIN (As := []) (rest := [.ref q10, .int 8, .ref adr]) ⟨hx, hb, hml, hown, hts⟩ (cX0_init_ok l D ty q10 H.size) ⟨va_cnB 0 hts gX2_init_X0_init_n24 rfl rfl rfl hK.2.2.1 wf10 (by decide +kernel) ⟨Nat.le_of_ble_eq_true rfl, Nat.le_of_ble_eq_true rfl⟩, rfl, wf11⟩ ⟨kB_blind _ _ _ _ _, fun U hU hW => ⟨rfl, kB_at hPc hK hDc U hU hW⟩⟩ rfl rfl hl.1 rfl (lv_room (Nat.le_of_ble_eq_true rfl)) dX2_init_40 ⟨hc1, hs1⟩) hS (fun q _ h => hFc q h) hFc (fun u t H1 locs ht hvm hw hB hz1 hk1 hS => ?_)
  obtain ⟨hP1, hD1⟩ := hB
  rw [ht] at hP1
  obtain ⟨ad8, rfl⟩ : ∃ z, z = u := ⟨_, rfl⟩
  have hw : ad8 0 = q10 := hw
  subst hw
  obtain ⟨hP, hD⟩ := va_join (wr := [(h0, .inr (2, [.ref adr, .int (0), .int (0)])), (adr, .inl (ty.2.2.2, 9, .inr (.inr (.inr (.inr (va_up (va_up (va_up (va_up (va_up (va_up (va_up (va_up (fun _ => none) 0 (some (ad0 0))) 1 (some (ad1 0))) 2 (some (ad2 0))) 3 (some (ad3 0))) 4 (some (ad4 0))) 5 (some (ad5 0))) 6 (some (ad6 0))) 7 (some (ad7 0))))))))] ++ (wC ty ad0 kC0 ++ (wC ty ad1 kC0 ++ (wC ty ad2 kC0 ++ (wC ty ad3 kC0 ++ (wC ty ad4 kC0 ++ (wC ty ad5 kC0 ++ (wC ty ad6 kC0 ++ (wC ty ad7 kC0))))))))) (w1 := wC ty ad8 kC0) hP hD [66] [0, 1, 2, 3, 4, 5, 6, 7, 8, 9, 10, 11, 12, 13, 14, 15, 16, 17, 18, 19, 20, 21, 22, 23, 24, 25, 26, 27, 28, 29, 30, 31, 32, 33, 34, 35, 36, 37, 38, 39, 40, 41, 42, 43, 44, 45, 46, 47, 48, 49, 50, 51, 52, 53, 54, 55, 56, 57, 58, 59, 60, 61, 62, 63, 64, 65] rfl rfl (by decide) (by decide) hk1 hFc hP1 hD1
  clear hPc hDc hFc hP1 hD1 hk1
  generalize H1 = H at hP hS ⊢
  have hP : va_P D vwCl ([(h0, .inr (2, [.ref adr, .int (0), .int (0)])), (adr, .inl (ty.2.2.2, 9, .inr (.inr (.inr (.inr (va_up (va_up (va_up (va_up (va_up (va_up (va_up (va_up (fun _ => none) 0 (some (ad0 0))) 1 (some (ad1 0))) 2 (some (ad2 0))) 3 (some (ad3 0))) 4 (some (ad4 0))) 5 (some (ad5 0))) 6 (some (ad6 0))) 7 (some (ad7 0))))))))] ++ (wC ty ad0 kC0 ++ (wC ty ad1 kC0 ++ (wC ty ad2 kC0 ++ (wC ty ad3 kC0 ++ (wC ty ad4 kC0 ++ (wC ty ad5 kC0 ++ (wC ty ad6 kC0 ++ (wC ty ad7 kC0 ++ (wC ty ad8 kC0)))))))))) H := hP
  have hD : va_D A ([(h0, .inr (2, [.ref adr, .int (0), .int (0)])), (adr, .inl (ty.2.2.2, 9, .inr (.inr (.inr (.inr (va_up (va_up (va_up (va_up (va_up (va_up (va_up (va_up (fun _ => none) 0 (some (ad0 0))) 1 (some (ad1 0))) 2 (some (ad2 0))) 3 (some (ad3 0))) 4 (some (ad4 0))) 5 (some (ad5 0))) 6 (some (ad6 0))) 7 (some (ad7 0))))))))] ++ (wC ty ad0 kC0 ++ (wC ty ad1 kC0 ++ (wC ty ad2 kC0 ++ (wC ty ad3 kC0 ++ (wC ty ad4 kC0 ++ (wC ty ad5 kC0 ++ (wC ty ad6 kC0 ++ (wC ty ad7 kC0 ++ (wC ty ad8 kC0)))))))))) := hD
  refine va_astq (f := (va_up (va_up (va_up (va_up (va_up (va_up (va_up (va_up (fun _ => none) 0 (some (ad0 0))) 1 (some (ad1 0))) 2 (some (ad2 0))) 3 (some (ad3 0))) 4 (some (ad4 0))) 5 (some (ad5 0))) 6 (some (ad6 0))) 7 (some (ad7 0)))) (n := 9) (r := (RX0, TX0, 12)) hx hb hK.1 hP hD hS 1 3 66 0 rfl rfl rfl rfl (kIn_ok (by decide)) dX2_init_43 (fun H locs hP hD hS => ?_)
  have hP : va_P D vwCl ([(h0, .inr (2, [.ref adr, .int (0), .int (0)])), (adr, .inl (ty.2.2.2, 9, .inr (.inr (.inr (.inr (va_up (va_up (va_up (va_up (va_up (va_up (va_up (va_up (va_up (fun _ => none) 0 (some (ad0 0))) 1 (some (ad1 0))) 2 (some (ad2 0))) 3 (some (ad3 0))) 4 (some (ad4 0))) 5 (some (ad5 0))) 6 (some (ad6 0))) 7 (some (ad7 0))) 8 (some (ad8 0))))))))] ++ (wC ty ad0 kC0 ++ (wC ty ad1 kC0 ++ (wC ty ad2 kC0 ++ (wC ty ad3 kC0 ++ (wC ty ad4 kC0 ++ (wC ty ad5 kC0 ++ (wC ty ad6 kC0 ++ (wC ty ad7 kC0 ++ (wC ty ad8 kC0)))))))))) H := hP
  have hD : va_D A ([(h0, .inr (2, [.ref adr, .int (0), .int (0)])), (adr, .inl (ty.2.2.2, 9, .inr (.inr (.inr (.inr (va_up (va_up (va_up (va_up (va_up (va_up (va_up (va_up (va_up (fun _ => none) 0 (some (ad0 0))) 1 (some (ad1 0))) 2 (some (ad2 0))) 3 (some (ad3 0))) 4 (some (ad4 0))) 5 (some (ad5 0))) 6 (some (ad6 0))) 7 (some (ad7 0))) 8 (some (ad8 0))))))))] ++ (wC ty ad0 kC0 ++ (wC ty ad1 kC0 ++ (wC ty ad2 kC0 ++ (wC ty ad3 kC0 ++ (wC ty ad4 kC0 ++ (wC ty ad5 kC0 ++ (wC ty ad6 kC0 ++ (wC ty ad7 kC0 ++ (wC ty ad8 kC0)))))))))) := hD
  refine lv_iinc (v := 9) (lv' := [(1, .int 9), (0, .ref h0)]) hx hb dX2_init_44 hl (k := 0) rfl rfl (by decide) rfl (fun ls hl => ?_)
  refine lv_goto (tgt := 25) hx hb dX2_init_47 (by decide) ?_
  refine lv_iload_n hx hb dX2_init_25 rfl (lv_at hl 0 rfl) ?_
  refine lv_bipush (v := 9) hx hb dX2_init_26 (by decide) ?_
  refine lv_icmp_ge (tgt := 50) hx hb dX2_init_28 (by decide) (fun _ => ?_) (fun z => absurd (by decide) z)
  have hPx : va_P D vwCl ([(h0, .inr (2, [.ref adr, .int 0, .int 0])), (adr, .inl (ty.2.2.2, 9, .inr (.inr (.inr (.inr (fun i => some ((fun i => ([ad0, ad1, ad2, ad3, ad4, ad5, ad6, ad7, ad8] : List (Nat → Nat)).getD i ad0) i 0)))))))] ++ (wC ty ad0 kC0 ++ (wC ty ad1 kC0 ++ (wC ty ad2 kC0 ++ (wC ty ad3 kC0 ++ (wC ty ad4 kC0 ++ (wC ty ad5 kC0 ++ (wC ty ad6 kC0 ++ (wC ty ad7 kC0 ++ wC ty ad8 kC0))))))))) H := kRow (f := (va_up (va_up (va_up (va_up (va_up (va_up (va_up (va_up (va_up (fun _ => none) 0 (some (ad0 0))) 1 (some (ad1 0))) 2 (some (ad2 0))) 3 (some (ad3 0))) 4 (some (ad4 0))) 5 (some (ad5 0))) 6 (some (ad6 0))) 7 (some (ad7 0))) 8 (some (ad8 0)))) (n := 9) hP rfl (fun k hk => by rcases (show k = 0 ∨ k = 1 ∨ k = 2 ∨ k = 3 ∨ k = 4 ∨ k = 5 ∨ k = 6 ∨ k = 7 ∨ k = 8 by omega) with rfl | rfl | rfl | rfl | rfl | rfl | rfl | rfl | rfl <;> rfl) rfl
  have hP9 : va_P D vwCl (wH ty (fun k => ([h0, adr] : List Nat).getD k 0) (fun i => ([ad0, ad1, ad2, ad3, ad4, ad5, ad6, ad7, ad8] : List (Nat → Nat)).getD i ad0) kH0 ++ wS ty (fun i => ([ad0, ad1, ad2, ad3, ad4, ad5, ad6, ad7, ad8] : List (Nat → Nat)).getD i ad0) (fun _ => kC0)) H := hPx
  have hD9 : va_D A (wH ty (fun k => ([h0, adr] : List Nat).getD k 0) (fun i => ([ad0, ad1, ad2, ad3, ad4, ad5, ad6, ad7, ad8] : List (Nat → Nat)).getD i ad0) kH0 ++ wS ty (fun i => ([ad0, ad1, ad2, ad3, ad4, ad5, ad6, ad7, ad8] : List (Nat → Nat)).getD i ad0) (fun _ => kC0)) := kDf hD rfl
  exact W.vret hx hb hr (fun t ht hW => ⟨⟨((fun k => ([h0, adr] : List Nat).getD k 0), (fun i => ([ad0, ad1, ad2, ad3, ad4, ad5, ad6, ad7, ad8] : List (Nat → Nat)).getD i ad0)), rfl, rfl, kEnd ht hP9, hD9⟩, hS.F ht⟩) hS.2.2 dX2_init_50
set_option maxHeartbeats 4000000 in
set_option maxRecDepth 100000 in
theorem cX4_init_ok (l : Launch) (D : va_G) (ty : kTy) (h0 : Nat) (sz : Nat) : Met l yX4_init wsX4_init { frames := 3, cells := 89, slots := 1380, locals := 61 } (va_Pc [.ref h0] (kBo D ty (([(h0, .inr (4, [.null, .null, .null, .null, .int 0, .int 0]))] : va_W)) sz)) (va_Qv (fun _ : (Nat → Nat) × (Nat → Nat) × (Nat → Nat) × (Nat → Nat) × (Nat → Nat → Nat) => True) (fun u t => va_P D vwCl (wX h0 u.1 u.2.1 u.2.2.1 u.2.2.2.1 kX0 ++ (wC ty u.1 kC0 ++ (wF ty u.2.2.1 kF0 ++ (wH ty u.2.1 u.2.2.2.2 kH0 ++ (wT ty u.2.2.2.1 kT0 ++ wS ty u.2.2.2.2 (fun _ => kC0)))))) t.heap ∧ va_D (va_A (([(h0, .inr (4, [.null, .null, .null, .null, .int 0, .int 0]))] : va_W)) sz) (wX h0 u.1 u.2.1 u.2.2.1 u.2.2.2.1 kX0 ++ (wC ty u.1 kC0 ++ (wF ty u.2.2.1 kF0 ++ (wH ty u.2.1 u.2.2.2.2 kH0 ++ (wT ty u.2.2.2.1 kT0 ++ wS ty u.2.2.2.2 (fun _ => kC0))))))) (va_A (([(h0, .inr (4, [.null, .null, .null, .null, .int 0, .int 0]))] : va_W)) sz)) 89 1380 (va_A (([(h0, .inr (4, [.null, .null, .null, .null, .int 0, .int 0]))] : va_W)) sz) := by
  refine Met.ofW (cc := cX4_init) (maxL := 1) (ret := none) (by decide) rfl ?_
  intro p e s m args below meth c s₁ B hml hv
  obtain ⟨rfl, ⟨hsz, hP, hK, hD0⟩, hov⟩ := hv
  have hx := B.exec
  have hb := B.bytes
  have hr := B.returns
  have hts := atoms_spec (ws := wsX4_init) B.pre
  have hown : s.vm.findClass RX4 = some m.cls := findClass_of_methodNamed B.named
  have hlocks := B.notSynchronized
  have hin : meth.name = "<init>" := (name_of_methodNamed B.named B.method).1
  subst hsz
  have hD := hD0.self (sz := s.heap.size)
  generalize hAe : va_A (([(h0, .inr (4, [.null, .null, .null, .null, .int 0, .int 0]))] : va_W)) s.heap.size = A at hD ⊢
  have hA : ∀ q : Nat, s.heap.size ≤ q → A q := fun q h => by rw [← hAe]; exact Or.inr h
  have hS : va_S A s.heap s.heap [] := va_S.rf
  have wf0 := hts (.methodLink RX4 1 objectInit) (by decide +kernel)
  have wf1 := hts (.instanceMethod objectInit) (by decide +kernel)
  have wf2 := hts (.code objectInit ⟨#[0xb1]⟩ 1 none) (by decide +kernel)
  have hinX0 : ∀ w ∈ wsX00, w ∈ wsX4_init := by decide +kernel
  have wf4 := hts (.classLink RX4 7 RX0) (by decide +kernel)
  have wf5 := hts (.instantiable RX0 12) (by decide +kernel)
  have wf6 := hts (.initialized RX0) (by decide +kernel)
  have wf7 := hts (.instanceMethod yX0_init) (by decide +kernel)
  have wf8 := hts (.fieldLink RX4 10 "IceCoreDater" "core" "LIceCoreDater$Core;") (by decide +kernel)
  have hinX4 : ∀ w ∈ wsX40, w ∈ wsX4_init := by decide +kernel
  have hinX2 : ∀ w ∈ wsX20, w ∈ wsX4_init := by decide +kernel
  have wf11 := hts (.classLink RX4 16 RX2) (by decide +kernel)
  have wf12 := hts (.instantiable RX2 3) (by decide +kernel)
  have wf13 := hts (.initialized RX2) (by decide +kernel)
  have wf14 := hts (.methodLink RX4 18 yX2_init) (by decide +kernel)
  have wf15 := hts (.instanceMethod yX2_init) (by decide +kernel)
  have wf16 := hts (.fieldLink RX4 19 "IceCoreDater" "log" "LIceCoreDater$Log;") (by decide +kernel)
  have hinX1 : ∀ w ∈ wsX10, w ∈ wsX4_init := by decide +kernel
  have wf18 := hts (.classLink RX4 23 RX1) (by decide +kernel)
  have wf19 := hts (.instantiable RX1 3) (by decide +kernel)
  have wf20 := hts (.initialized RX1) (by decide +kernel)
  have wf21 := hts (.instanceMethod yX1_init) (by decide +kernel)
  have wf22 := hts (.fieldLink RX4 26 "IceCoreDater" "falling" "LIceCoreDater$Falling;") (by decide +kernel)
  have hinX3 : ∀ w ∈ wsX30, w ∈ wsX4_init := by decide +kernel
  have wf24 := hts (.classLink RX4 30 RX3) (by decide +kernel)
  have wf25 := hts (.instantiable RX3 5) (by decide +kernel)
  have wf26 := hts (.initialized RX3) (by decide +kernel)
  have wf27 := hts (.instanceMethod yX3_init) (by decide +kernel)
  have wf28 := hts (.fieldLink RX4 33 "IceCoreDater" "text" "LIceCoreDater$Text;") (by decide +kernel)
  have wf29 := hts (.fieldLink RX4 37 "IceCoreDater" "acts" "I") (by decide +kernel)
  have wf30 := hts (.constant RX4 41 (-1000000005)) (by decide +kernel)
  have wf31 := hts (.fieldLink RX4 42 "IceCoreDater" "failure" "I") (by decide +kernel)
  have hl := lv_entry ([.ref h0]) (n := 1) (Nat.le_of_ble_eq_true rfl)
  rw [lg_entry_eq]
  generalize (lg_sl ([.ref h0]) ++ List.replicate (1 - (lg_sl ([.ref h0])).length) Slot.unset).toArray = ls at hl ⊢
  have hl : lv_has ls 1 [(0, .ref h0)] := hl
  refine lv_aload_n hx hb dX4_init_0 rfl (lv_at hl 0 rfl) ?_
  refine W.objInit hx hb hown wf0 wf1 wf2 rfl (by rw [hml]; exact hl.1) rfl dX4_init_1 (Nat.le_of_ble_eq_true rfl) (Nat.le_of_ble_eq_true rfl) ?_
  refine W.eq (g2 := F0 m 4 ls []) rfl ?_
  refine lv_aload_n hx hb dX4_init_4 rfl (lv_at hl 0 rfl) ?_
  have hc1 : 0+1 ≤ 89 := by decide
  have hs1 : 0+12 ≤ 1380 := by decide
  refine va_new (ci := 0) (fs := [.int 0, .int 0, .int 0, .int 0, .int 0, .null, .null, .null, .null, .null, .null, .null]) (C := RX0) (T := TX0) (N := 12) hx hb hts hinX0 tyX0 tyX0_ok hown wf4 wf5 wf6 hK.1 hP hD hS hA rfl (fun j hj => by rcases (show j = 0 ∨ j = 1 ∨ j = 2 ∨ j = 3 ∨ j = 4 ∨ j = 5 ∨ j = 6 ∨ j = 7 ∨ j = 8 ∨ j = 9 ∨ j = 10 ∨ j = 11 by omega) with rfl | rfl | rfl | rfl | rfl | rfl | rfl | rfl | rfl | rfl | rfl | rfl <;> rfl) hc1 hs1 dX4_init_5 (fun q1 H hP hD hS => ?_)
  have hP : va_P D vwCl (([(h0, .inr (4, [.null, .null, .null, .null, .int 0, .int 0])), (q1, .inr (0, [.int 0, .int 0, .int 0, .int 0, .int 0, .null, .null, .null, .null, .null, .null, .null]))] : va_W)) H := hP
  have hD : va_D A (([(h0, .inr (4, [.null, .null, .null, .null, .int 0, .int 0])), (q1, .inr (0, [.int 0, .int 0, .int 0, .int 0, .int 0, .null, .null, .null, .null, .null, .null, .null]))] : va_W)) := hD
  refine W.widen (k := 1) (n := 12) (by omega) (by omega) ?_
  refine lv_dup hx hb dX4_init_8 rfl ?_
  have hPc := hP.sub (ws' := ([(q1, .inr (0, [.int 0, .int 0, .int 0, .int 0, .int 0, .null, .null, .null, .null, .null, .null, .null]))] : va_W)) [1] rfl
  have hDc := hD.sub (ws' := ([(q1, .inr (0, [.int 0, .int 0, .int 0, .int 0, .int 0, .null, .null, .null, .null, .null, .null, .null]))] : va_W)) [1] (by decide) rfl
  have hFc := va_free (wc := ([(q1, .inr (0, [.int 0, .int 0, .int 0, .int 0, .int 0, .null, .null, .null, .null, .null, .null, .null]))] : va_W)) hD hS hA [1] rfl
  have hc1 : 8 ≤ 89 := by decide
  have hs1 : 124 ≤ 1380 := by decide
  refine va_callv (va_runIN (As := []) (rest := [.ref q1, .ref h0]) ⟨hx, hb, hml, hown, hts⟩ (cX0_init_ok l D ty q1 H.size) ⟨va_cnB 0 hts gX4_init_X0_init_n9 rfl rfl rfl hK.2.1 wf6 (by decide +kernel) ⟨Nat.le_of_ble_eq_true rfl, Nat.le_of_ble_eq_true rfl⟩, rfl, wf7⟩ ⟨kB_blind _ _ _ _ _, fun U hU hW => ⟨rfl, kB_at hPc hK hDc U hU hW⟩⟩ rfl rfl hl.1 rfl (lv_room (Nat.le_of_ble_eq_true rfl)) dX4_init_9 ⟨hc1, hs1⟩) hS (fun q _ h => hFc q h) hFc (fun u t H1 locs ht hvm hw hB hz1 hk1 hS => ?_)
  obtain ⟨hP1, hD1⟩ := hB
  rw [ht] at hP1
  obtain ⟨adC, rfl⟩ : ∃ z, z = u := ⟨_, rfl⟩
  have hw : adC 0 = q1 := hw
  subst hw
  obtain ⟨hP, hD⟩ := va_join (wr := ([(h0, .inr (4, [.null, .null, .null, .null, .int 0, .int 0]))] : va_W)) (w1 := wC ty adC kC0) hP hD [1] [0] rfl rfl (by decide) (by decide) hk1 hFc hP1 hD1
  clear hPc hDc hFc hP1 hD1 hk1
  generalize H1 = H at hP hS ⊢
  have hP : va_P D vwCl ([(h0, .inr (4, [.null, .null, .null, .null, .int 0, .int 0]))] ++ (wC ty adC kC0)) H := hP
  have hD : va_D A ([(h0, .inr (4, [.null, .null, .null, .null, .int 0, .int 0]))] ++ (wC ty adC kC0)) := hD
  refine va_putF (D := D) (ci := 4) (v := .ref (adC 0)) (ty := .object "IceCoreDater$Core") (C := RX4) (T := TX4) (N := 6) hx hb hts hinX4 tyX4 tyX4_ok nmX4 hown hK.1 hP hD hS 0 rfl rfl 0 (by decide) wf8 (fun _ h9 => h9) rfl hin rfl (by decide +kernel) rfl rfl (Nat.le_of_ble_eq_true rfl) dX4_init_12 (fun H locs hP hD hS => ?_)
  have hP : va_P D vwCl ([(h0, .inr (4, [.ref (adC 0), .null, .null, .null, .int 0, .int 0]))] ++ (wC ty adC kC0)) H := hP
  have hD : va_D A ([(h0, .inr (4, [.ref (adC 0), .null, .null, .null, .int 0, .int 0]))] ++ (wC ty adC kC0)) := hD
  refine lv_aload_n hx hb dX4_init_15 rfl (lv_at hl 0 rfl) ?_
  have hc1 : 8+1 ≤ 89 := by decide
  have hs1 : 124+3 ≤ 1380 := by decide
  refine va_new (ci := 2) (fs := [.null, .int 0, .int 0]) (C := RX2) (T := TX2) (N := 3) hx hb hts hinX2 tyX2 tyX2_ok hown wf11 wf12 wf13 hK.1 hP hD hS hA rfl (fun j hj => by rcases (show j = 0 ∨ j = 1 ∨ j = 2 by omega) with rfl | rfl | rfl <;> rfl) hc1 hs1 dX4_init_16 (fun q2 H hP hD hS => ?_)
  have hP : va_P D vwCl ([(h0, .inr (4, [.ref (adC 0), .null, .null, .null, .int 0, .int 0]))] ++ (wC ty adC kC0 ++ ([(q2, .inr (2, [.null, .int 0, .int 0]))]))) H := hP
  have hD : va_D A ([(h0, .inr (4, [.ref (adC 0), .null, .null, .null, .int 0, .int 0]))] ++ (wC ty adC kC0 ++ ([(q2, .inr (2, [.null, .int 0, .int 0]))]))) := hD
  refine W.widen (k := 9) (n := 127) (by omega) (by omega) ?_
  refine lv_dup hx hb dX4_init_19 rfl ?_
  have hPc := hP.sub (ws' := ([(q2, .inr (2, [.null, .int 0, .int 0]))] : va_W)) [9] rfl
  have hDc := hD.sub (ws' := ([(q2, .inr (2, [.null, .int 0, .int 0]))] : va_W)) [9] (by decide) rfl
  have hFc := va_free (wc := ([(q2, .inr (2, [.null, .int 0, .int 0]))] : va_W)) hD hS hA [9] rfl
  have hc1 : 82 ≤ 89 := by decide
  have hs1 : 1252 ≤ 1380 := by decide
  refine va_callv (va_runI (As := []) (rest := [.ref q2, .ref h0]) ⟨hx, hb, hml, hown, hts⟩ (cX2_init_ok l D ty q2 H.size) (cwI 0 hts gX4_init_X2_init rfl rfl rfl wf13 wf14 wf15 rfl (by decide +kernel) ⟨Nat.le_of_ble_eq_true rfl, Nat.le_of_ble_eq_true rfl⟩) ⟨kBo_blind _ _ _ _ _, fun U hU hW => ⟨rfl, kB_at hPc hK hDc U hU hW, va_AO.moved hW.alike hov⟩⟩ rfl rfl hl.1 rfl (lv_room (Nat.le_of_ble_eq_true rfl)) dX4_init_20 ⟨hc1, hs1⟩) hS (fun q _ h => hFc q h) hFc (fun u t H1 locs ht hvm hw hB hz1 hk1 hS => ?_)
  obtain ⟨hP1, hD1⟩ := hB
  rw [ht] at hP1
  obtain ⟨adH, adS⟩ := u
  have hw : adH 0 = q2 := hw
  subst hw
  obtain ⟨hP, hD⟩ := va_join (wr := [(h0, .inr (4, [.ref (adC 0), .null, .null, .null, .int 0, .int 0]))] ++ (wC ty adC kC0)) (w1 := wH ty adH adS kH0 ++ (wS ty adS (fun _ => kC0))) hP hD [9] [0, 1, 2, 3, 4, 5, 6, 7, 8] rfl rfl (by decide) (by decide) hk1 hFc hP1 hD1
  clear hPc hDc hFc hP1 hD1 hk1
  generalize H1 = H at hP hS ⊢
  have hP : va_P D vwCl ([(h0, .inr (4, [.ref (adC 0), .null, .null, .null, .int 0, .int 0]))] ++ (wC ty adC kC0 ++ (wH ty adH adS kH0 ++ (wS ty adS (fun _ => kC0))))) H := hP
  have hD : va_D A ([(h0, .inr (4, [.ref (adC 0), .null, .null, .null, .int 0, .int 0]))] ++ (wC ty adC kC0 ++ (wH ty adH adS kH0 ++ (wS ty adS (fun _ => kC0))))) := hD
  refine va_putF (D := D) (ci := 4) (v := .ref (adH 0)) (ty := .object "IceCoreDater$Log") (C := RX4) (T := TX4) (N := 6) hx hb hts hinX4 tyX4 tyX4_ok nmX4 hown hK.1 hP hD hS 0 rfl rfl 1 (by decide) wf16 (fun _ h9 => h9) rfl hin rfl (by decide +kernel) rfl rfl (Nat.le_of_ble_eq_true rfl) dX4_init_23 (fun H locs hP hD hS => ?_)
  have hP : va_P D vwCl ([(h0, .inr (4, [.ref (adC 0), .ref (adH 0), .null, .null, .int 0, .int 0]))] ++ (wC ty adC kC0 ++ (wH ty adH adS kH0 ++ (wS ty adS (fun _ => kC0))))) H := hP
  have hD : va_D A ([(h0, .inr (4, [.ref (adC 0), .ref (adH 0), .null, .null, .int 0, .int 0]))] ++ (wC ty adC kC0 ++ (wH ty adH adS kH0 ++ (wS ty adS (fun _ => kC0))))) := hD
  refine lv_aload_n hx hb dX4_init_26 rfl (lv_at hl 0 rfl) ?_
  have hc1 : 82+1 ≤ 89 := by decide
  have hs1 : 1252+3 ≤ 1380 := by decide
  refine va_new (ci := 1) (fs := [.int 0, .null, .null]) (C := RX1) (T := TX1) (N := 3) hx hb hts hinX1 tyX1 tyX1_ok hown wf18 wf19 wf20 hK.1 hP hD hS hA rfl (fun j hj => by rcases (show j = 0 ∨ j = 1 ∨ j = 2 by omega) with rfl | rfl | rfl <;> rfl) hc1 hs1 dX4_init_27 (fun q3 H hP hD hS => ?_)
  have hP : va_P D vwCl ([(h0, .inr (4, [.ref (adC 0), .ref (adH 0), .null, .null, .int 0, .int 0]))] ++ (wC ty adC kC0 ++ (wH ty adH adS kH0 ++ (wS ty adS (fun _ => kC0) ++ ([(q3, .inr (1, [.int 0, .null, .null]))]))))) H := hP
  have hD : va_D A ([(h0, .inr (4, [.ref (adC 0), .ref (adH 0), .null, .null, .int 0, .int 0]))] ++ (wC ty adC kC0 ++ (wH ty adH adS kH0 ++ (wS ty adS (fun _ => kC0) ++ ([(q3, .inr (1, [.int 0, .null, .null]))]))))) := hD
  refine W.widen (k := 83) (n := 1255) (by omega) (by omega) ?_
  refine lv_dup hx hb dX4_init_30 rfl ?_
  have hPc := hP.sub (ws' := ([(q3, .inr (1, [.int 0, .null, .null]))] : va_W)) [83] rfl
  have hDc := hD.sub (ws' := ([(q3, .inr (1, [.int 0, .null, .null]))] : va_W)) [83] (by decide) rfl
  have hFc := va_free (wc := ([(q3, .inr (1, [.int 0, .null, .null]))] : va_W)) hD hS hA [83] rfl
  have hc1 : 85 ≤ 89 := by decide
  have hs1 : 1287 ≤ 1380 := by decide
  refine va_callv (va_runIN (As := []) (rest := [.ref q3, .ref h0]) ⟨hx, hb, hml, hown, hts⟩ (cX1_init_ok l D ty q3 H.size) ⟨va_cnB 0 hts gX4_init_X1_init_n25 rfl rfl rfl hK.2.2.2.1 wf20 (by decide +kernel) ⟨Nat.le_of_ble_eq_true rfl, Nat.le_of_ble_eq_true rfl⟩, rfl, wf21⟩ ⟨kB_blind _ _ _ _ _, fun U hU hW => ⟨rfl, kB_at hPc hK hDc U hU hW⟩⟩ rfl rfl hl.1 rfl (lv_room (Nat.le_of_ble_eq_true rfl)) dX4_init_31 ⟨hc1, hs1⟩) hS (fun q _ h => hFc q h) hFc (fun u t H1 locs ht hvm hw hB hz1 hk1 hS => ?_)
  obtain ⟨hP1, hD1⟩ := hB
  rw [ht] at hP1
  obtain ⟨adF, rfl⟩ : ∃ z, z = u := ⟨_, rfl⟩
  have hw : adF 0 = q3 := hw
  subst hw
  obtain ⟨hP, hD⟩ := va_join (wr := [(h0, .inr (4, [.ref (adC 0), .ref (adH 0), .null, .null, .int 0, .int 0]))] ++ (wC ty adC kC0 ++ (wH ty adH adS kH0 ++ (wS ty adS (fun _ => kC0))))) (w1 := wF ty adF kF0) hP hD [83] [0, 1, 2, 3, 4, 5, 6, 7, 8, 9, 10, 11, 12, 13, 14, 15, 16, 17, 18, 19, 20, 21, 22, 23, 24, 25, 26, 27, 28, 29, 30, 31, 32, 33, 34, 35, 36, 37, 38, 39, 40, 41, 42, 43, 44, 45, 46, 47, 48, 49, 50, 51, 52, 53, 54, 55, 56, 57, 58, 59, 60, 61, 62, 63, 64, 65, 66, 67, 68, 69, 70, 71, 72, 73, 74, 75, 76, 77, 78, 79, 80, 81, 82] rfl rfl (by decide) (by decide) hk1 hFc hP1 hD1
  clear hPc hDc hFc hP1 hD1 hk1
  generalize H1 = H at hP hS ⊢
  have hP : va_P D vwCl ([(h0, .inr (4, [.ref (adC 0), .ref (adH 0), .null, .null, .int 0, .int 0]))] ++ (wC ty adC kC0 ++ (wH ty adH adS kH0 ++ (wS ty adS (fun _ => kC0) ++ (wF ty adF kF0))))) H := hP
  have hD : va_D A ([(h0, .inr (4, [.ref (adC 0), .ref (adH 0), .null, .null, .int 0, .int 0]))] ++ (wC ty adC kC0 ++ (wH ty adH adS kH0 ++ (wS ty adS (fun _ => kC0) ++ (wF ty adF kF0))))) := hD
  refine va_putF (D := D) (ci := 4) (v := .ref (adF 0)) (ty := .object "IceCoreDater$Falling") (C := RX4) (T := TX4) (N := 6) hx hb hts hinX4 tyX4 tyX4_ok nmX4 hown hK.1 hP hD hS 0 rfl rfl 2 (by decide) wf22 (fun _ h9 => h9) rfl hin rfl (by decide +kernel) rfl rfl (Nat.le_of_ble_eq_true rfl) dX4_init_34 (fun H locs hP hD hS => ?_)
  have hP : va_P D vwCl ([(h0, .inr (4, [.ref (adC 0), .ref (adH 0), .ref (adF 0), .null, .int 0, .int 0]))] ++ (wC ty adC kC0 ++ (wH ty adH adS kH0 ++ (wS ty adS (fun _ => kC0) ++ (wF ty adF kF0))))) H := hP
  have hD : va_D A ([(h0, .inr (4, [.ref (adC 0), .ref (adH 0), .ref (adF 0), .null, .int 0, .int 0]))] ++ (wC ty adC kC0 ++ (wH ty adH adS kH0 ++ (wS ty adS (fun _ => kC0) ++ (wF ty adF kF0))))) := hD
  refine lv_aload_n hx hb dX4_init_37 rfl (lv_at hl 0 rfl) ?_
  have hc1 : 85+1 ≤ 89 := by decide
  have hs1 : 1287+5 ≤ 1380 := by decide
  refine va_new (ci := 3) (fs := [.int 0, .int 0, .null, .null, .null]) (C := RX3) (T := TX3) (N := 5) hx hb hts hinX3 tyX3 tyX3_ok hown wf24 wf25 wf26 hK.1 hP hD hS hA rfl (fun j hj => by rcases (show j = 0 ∨ j = 1 ∨ j = 2 ∨ j = 3 ∨ j = 4 by omega) with rfl | rfl | rfl | rfl | rfl <;> rfl) hc1 hs1 dX4_init_38 (fun q4 H hP hD hS => ?_)
  have hP : va_P D vwCl ([(h0, .inr (4, [.ref (adC 0), .ref (adH 0), .ref (adF 0), .null, .int 0, .int 0]))] ++ (wC ty adC kC0 ++ (wH ty adH adS kH0 ++ (wS ty adS (fun _ => kC0) ++ (wF ty adF kF0 ++ ([(q4, .inr (3, [.int 0, .int 0, .null, .null, .null]))])))))) H := hP
  have hD : va_D A ([(h0, .inr (4, [.ref (adC 0), .ref (adH 0), .ref (adF 0), .null, .int 0, .int 0]))] ++ (wC ty adC kC0 ++ (wH ty adH adS kH0 ++ (wS ty adS (fun _ => kC0) ++ (wF ty adF kF0 ++ ([(q4, .inr (3, [.int 0, .int 0, .null, .null, .null]))])))))) := hD
  refine W.widen (k := 86) (n := 1292) (by omega) (by omega) ?_
  refine lv_dup hx hb dX4_init_41 rfl ?_
  have hPc := hP.sub (ws' := ([(q4, .inr (3, [.int 0, .int 0, .null, .null, .null]))] : va_W)) [86] rfl
  have hDc := hD.sub (ws' := ([(q4, .inr (3, [.int 0, .int 0, .null, .null, .null]))] : va_W)) [86] (by decide) rfl
  have hFc := va_free (wc := ([(q4, .inr (3, [.int 0, .int 0, .null, .null, .null]))] : va_W)) hD hS hA [86] rfl
  have hc1 : 89 ≤ 89 := by decide
  have hs1 : 1380 ≤ 1380 := by decide
  refine va_callv (va_runIN (As := []) (rest := [.ref q4, .ref h0]) ⟨hx, hb, hml, hown, hts⟩ (cX3_init_ok l D ty q4 H.size) ⟨va_cnB 0 hts gX4_init_X3_init_n32 rfl rfl rfl hK.2.2.2.2.1 wf26 (by decide +kernel) ⟨Nat.le_of_ble_eq_true rfl, Nat.le_of_ble_eq_true rfl⟩, rfl, wf27⟩ ⟨kB_blind _ _ _ _ _, fun U hU hW => ⟨rfl, kB_at hPc hK hDc U hU hW⟩⟩ rfl rfl hl.1 rfl (lv_room (Nat.le_of_ble_eq_true rfl)) dX4_init_42 ⟨hc1, hs1⟩) hS (fun q _ h => hFc q h) hFc (fun u t H1 locs ht hvm hw hB hz1 hk1 hS => ?_)
  obtain ⟨hP1, hD1⟩ := hB
  rw [ht] at hP1
  obtain ⟨adT, rfl⟩ : ∃ z, z = u := ⟨_, rfl⟩
  have hw : adT 0 = q4 := hw
  subst hw
  obtain ⟨hP, hD⟩ := va_join (wr := [(h0, .inr (4, [.ref (adC 0), .ref (adH 0), .ref (adF 0), .null, .int 0, .int 0]))] ++ (wC ty adC kC0 ++ (wH ty adH adS kH0 ++ (wS ty adS (fun _ => kC0) ++ (wF ty adF kF0))))) (w1 := wT ty adT kT0) hP hD [86] [0, 1, 2, 3, 4, 5, 6, 7, 8, 9, 10, 11, 12, 13, 14, 15, 16, 17, 18, 19, 20, 21, 22, 23, 24, 25, 26, 27, 28, 29, 30, 31, 32, 33, 34, 35, 36, 37, 38, 39, 40, 41, 42, 43, 44, 45, 46, 47, 48, 49, 50, 51, 52, 53, 54, 55, 56, 57, 58, 59, 60, 61, 62, 63, 64, 65, 66, 67, 68, 69, 70, 71, 72, 73, 74, 75, 76, 77, 78, 79, 80, 81, 82, 83, 84, 85] rfl rfl (by decide) (by decide) hk1 hFc hP1 hD1
  clear hPc hDc hFc hP1 hD1 hk1
  generalize H1 = H at hP hS ⊢
  have hP : va_P D vwCl ([(h0, .inr (4, [.ref (adC 0), .ref (adH 0), .ref (adF 0), .null, .int 0, .int 0]))] ++ (wC ty adC kC0 ++ (wH ty adH adS kH0 ++ (wS ty adS (fun _ => kC0) ++ (wF ty adF kF0 ++ (wT ty adT kT0)))))) H := hP
  have hD : va_D A ([(h0, .inr (4, [.ref (adC 0), .ref (adH 0), .ref (adF 0), .null, .int 0, .int 0]))] ++ (wC ty adC kC0 ++ (wH ty adH adS kH0 ++ (wS ty adS (fun _ => kC0) ++ (wF ty adF kF0 ++ (wT ty adT kT0)))))) := hD
  refine va_putF (D := D) (ci := 4) (v := .ref (adT 0)) (ty := .object "IceCoreDater$Text") (C := RX4) (T := TX4) (N := 6) hx hb hts hinX4 tyX4 tyX4_ok nmX4 hown hK.1 hP hD hS 0 rfl rfl 3 (by decide) wf28 (fun _ h9 => h9) rfl hin rfl (by decide +kernel) rfl rfl (Nat.le_of_ble_eq_true rfl) dX4_init_45 (fun H locs hP hD hS => ?_)
  have hP : va_P D vwCl ([(h0, .inr (4, [.ref (adC 0), .ref (adH 0), .ref (adF 0), .ref (adT 0), .int 0, .int 0]))] ++ (wC ty adC kC0 ++ (wH ty adH adS kH0 ++ (wS ty adS (fun _ => kC0) ++ (wF ty adF kF0 ++ (wT ty adT kT0)))))) H := hP
  have hD : va_D A ([(h0, .inr (4, [.ref (adC 0), .ref (adH 0), .ref (adF 0), .ref (adT 0), .int 0, .int 0]))] ++ (wC ty adC kC0 ++ (wH ty adH adS kH0 ++ (wS ty adS (fun _ => kC0) ++ (wF ty adF kF0 ++ (wT ty adT kT0)))))) := hD
  refine lv_aload_n hx hb dX4_init_48 rfl (lv_at hl 0 rfl) ?_
  refine lv_iconst (v := 0) hx hb dX4_init_49 (by decide) ?_
  refine va_put (D := D) (ci := 4) (v := .int (0)) (ty := .int) (C := RX4) (T := TX4) (N := 6) hx hb hts hinX4 tyX4 tyX4_ok nmX4 hown hK.1 hP hD hS 0 rfl rfl 4 (by decide) wf29 (fun _ h9 => h9) rfl (by decide +kernel) rfl rfl (Nat.le_of_ble_eq_true rfl) dX4_init_50 (fun H locs hP hD hS => ?_)
  have hP : va_P D vwCl ([(h0, .inr (4, [.ref (adC 0), .ref (adH 0), .ref (adF 0), .ref (adT 0), .int (0), .int 0]))] ++ (wC ty adC kC0 ++ (wH ty adH adS kH0 ++ (wS ty adS (fun _ => kC0) ++ (wF ty adF kF0 ++ (wT ty adT kT0)))))) H := hP
  have hD : va_D A ([(h0, .inr (4, [.ref (adC 0), .ref (adH 0), .ref (adF 0), .ref (adT 0), .int (0), .int 0]))] ++ (wC ty adC kC0 ++ (wH ty adH adS kH0 ++ (wS ty adS (fun _ => kC0) ++ (wF ty adF kF0 ++ (wT ty adT kT0)))))) := hD
  refine lv_aload_n hx hb dX4_init_53 rfl (lv_at hl 0 rfl) ?_
  refine lv_ldc hx hb hown wf30 dX4_init_54 ?_
  refine va_put (D := D) (ci := 4) (v := .int (-1000000005)) (ty := .int) (C := RX4) (T := TX4) (N := 6) hx hb hts hinX4 tyX4 tyX4_ok nmX4 hown hK.1 hP hD hS 0 rfl rfl 5 (by decide) wf31 (fun _ h9 => h9) rfl (by decide +kernel) rfl rfl (Nat.le_of_ble_eq_true rfl) dX4_init_56 (fun H locs hP hD hS => ?_)
  have hP : va_P D vwCl ([(h0, .inr (4, [.ref (adC 0), .ref (adH 0), .ref (adF 0), .ref (adT 0), .int (0), .int (-1000000005)]))] ++ (wC ty adC kC0 ++ (wH ty adH adS kH0 ++ (wS ty adS (fun _ => kC0) ++ (wF ty adF kF0 ++ (wT ty adT kT0)))))) H := hP
  have hD : va_D A ([(h0, .inr (4, [.ref (adC 0), .ref (adH 0), .ref (adF 0), .ref (adT 0), .int (0), .int (-1000000005)]))] ++ (wC ty adC kC0 ++ (wH ty adH adS kH0 ++ (wS ty adS (fun _ => kC0) ++ (wF ty adF kF0 ++ (wT ty adT kT0)))))) := hD
  have hP9 : va_P D vwCl (wX h0 adC adH adF adT kX0 ++ (wC ty adC kC0 ++ (wF ty adF kF0 ++ (wH ty adH adS kH0 ++ (wT ty adT kT0 ++ wS ty adS (fun _ => kC0)))))) H := hP.sub [0, 1, 2, 3, 4, 5, 6, 7, 8, 83, 84, 85, 9, 10, 86, 87, 88, 89, 11, 12, 13, 14, 15, 16, 17, 18, 19, 20, 21, 22, 23, 24, 25, 26, 27, 28, 29, 30, 31, 32, 33, 34, 35, 36, 37, 38, 39, 40, 41, 42, 43, 44, 45, 46, 47, 48, 49, 50, 51, 52, 53, 54, 55, 56, 57, 58, 59, 60, 61, 62, 63, 64, 65, 66, 67, 68, 69, 70, 71, 72, 73, 74, 75, 76, 77, 78, 79, 80, 81, 82] rfl
  have hD9 : va_D A (wX h0 adC adH adF adT kX0 ++ (wC ty adC kC0 ++ (wF ty adF kF0 ++ (wH ty adH adS kH0 ++ (wT ty adT kT0 ++ wS ty adS (fun _ => kC0)))))) := hD.sub [0, 1, 2, 3, 4, 5, 6, 7, 8, 83, 84, 85, 9, 10, 86, 87, 88, 89, 11, 12, 13, 14, 15, 16, 17, 18, 19, 20, 21, 22, 23, 24, 25, 26, 27, 28, 29, 30, 31, 32, 33, 34, 35, 36, 37, 38, 39, 40, 41, 42, 43, 44, 45, 46, 47, 48, 49, 50, 51, 52, 53, 54, 55, 56, 57, 58, 59, 60, 61, 62, 63, 64, 65, 66, 67, 68, 69, 70, 71, 72, 73, 74, 75, 76, 77, 78, 79, 80, 81, 82] (by decide) rfl
  exact W.vret hx hb hr (fun t ht hW => ⟨⟨(adC, adH, adF, adT, adS), rfl, trivial, kEnd ht hP9, hD9⟩, hS.F ht⟩) hS.2.2 dX4_init_59
