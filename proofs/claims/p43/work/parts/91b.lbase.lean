/-! ===== the law's methods: what their walks stand on ===== -/
theorem k_tab13 {x : Int32} (h0 : ¬ x = (0 : Int32)) (h1 : ¬ x = (1 : Int32)) (h2 : ¬ x = (2 : Int32)) (h3 : ¬ x = (3 : Int32)) (h4 : ¬ x = (4 : Int32)) (h5 : ¬ x = (5 : Int32)) (h6 : ¬ x = (6 : Int32)) (h7 : ¬ x = (7 : Int32)) (h8 : ¬ x = (8 : Int32)) (h9 : ¬ x = (9 : Int32)) (h10 : ¬ x = (10 : Int32)) (h11 : ¬ x = (11 : Int32)) (h12 : ¬ x = (12 : Int32)) : x.toInt < 0 ∨ 12 < x.toInt := by
  rcases Int.lt_or_le x.toInt 0 with h | h
  · exact Or.inl h
  · rcases Int.lt_or_le 12 x.toInt with g | g
    · exact Or.inr g
    · have e : ∀ n : Nat, n ≤ 12 → x.toInt = (n : Int) → x = nI n := fun n hn z => Int32.toInt_inj.mp (by rw [z, nI_toInt (by omega)])
      rcases (show x.toInt = 0 ∨ x.toInt = 1 ∨ x.toInt = 2 ∨ x.toInt = 3 ∨ x.toInt = 4 ∨ x.toInt = 5 ∨ x.toInt = 6 ∨ x.toInt = 7 ∨ x.toInt = 8 ∨ x.toInt = 9 ∨ x.toInt = 10 ∨ x.toInt = 11 ∨ x.toInt = 12 by omega) with q | q | q | q | q | q | q | q | q | q | q | q | q
      · exact absurd (e 0 (by omega) (by omega)) h0
      · exact absurd (e 1 (by omega) (by omega)) h1
      · exact absurd (e 2 (by omega) (by omega)) h2
      · exact absurd (e 3 (by omega) (by omega)) h3
      · exact absurd (e 4 (by omega) (by omega)) h4
      · exact absurd (e 5 (by omega) (by omega)) h5
      · exact absurd (e 6 (by omega) (by omega)) h6
      · exact absurd (e 7 (by omega) (by omega)) h7
      · exact absurd (e 8 (by omega) (by omega)) h8
      · exact absurd (e 9 (by omega) (by omega)) h9
      · exact absurd (e 10 (by omega) (by omega)) h10
      · exact absurd (e 11 (by omega) (by omega)) h11
      · exact absurd (e 12 (by omega) (by omega)) h12
section KLCALL
variable {p : Program} {l : Launch} {e : Env} {R : Room} {s : State} {m : MethodId} {args : Array Value} {below : List Frame} {meth : Method} {c : Code} {H H0 : Heap} {locs : List Loc} {cells slots : Nat} {Q : State → Prop}
variable {y : MethodName} {bytes cc : ByteArray} {maxL nL n index pc : Nat} {ret : Option FieldType} {wsy : List Cond} {rm : Room} {Ts : List Cond} {own C host : String} {As rest st0 : List Value} {ls : Array Slot} {D : va_G} {ty : kTy} {ws : va_W} {sg sc s1 sn : List va_W} {A0 : Nat → Prop}
/-- a static call of a method that is handed cells -/
theorem kCallTI {r : Int32} (S : CallFix p m c cc nL s args Ts own) (hM : kMI l y wsy rm As D ty (kFl sc) H.size r (kFl s1)) (cw : CallB R s args own index y bytes maxL ret wsy rm 0 0 n ∧ (Cond.static y).before args s = true)
    (hP : va_P D vwCl (kFl sg) H) (hK : kK D ty s) (hD : va_D A0 (kFl sg)) (hS : va_S A0 H0 H locs) (hA : ∀ q, H0.size ≤ q → A0 q) (is : List Nat) (hnd : va_nd is = true) (hC : is.map (fun i => sg[i]?) = sc.map some)
    (hn : As.length = n) (hsize : ls.size = nL) (hstack : st0 = As.reverse ++ rest) (hW : (rest.map fun v => v.category).sum ≤ 8) (hdg : decode cc pc = .ok (.invokestatic index, 3)) (hf : cells ≤ R.cells ∧ slots ≤ R.slots)
    (ha : s1.map (List.map Prod.fst) = sc.map (List.map Prod.fst)) (hr : kRepG sg is s1 = sn)
    (kk : ∀ (H1 : Heap) (locs1 : List Loc), va_P D vwCl (kFl sn) H1 → va_D A0 (kFl sn) → va_S A0 H0 H1 locs1 → W p l e R s m args below meth c H1 locs1 cells slots Q (F0 m (pc + 3) ls (.int r :: rest))) : W p l e R s m args below meth c H locs cells slots Q (F0 m pc ls st0) := by
  have hPc := kSegP hP hC
  have hDc := kSegD hD hnd hC
  have hFc := kSegF hD hS hA hnd hC
  subst hstack
  refine va_calli (va_runS S hM cw ⟨kB_blind _ _ _ _ _, fun U hU hW => ⟨rfl, kB_at hPc hK hDc U hU hW⟩⟩ rfl hn hsize rfl (lv_room hW) hdg hf) hS (fun q _ h => hFc q h) hFc (fun r' u t H1 locs1 ht hvm hw hB hz hk hS' => ?_)
  cases hw
  rw [ht] at hB
  obtain ⟨a1, a2⟩ := kSegJoin hP hD is hC hk hB ha hr
  exact kk H1 locs1 a1 a2 hS'
end KLCALL
def fL_cell (L : Nat) (xs : Nat → Int32) (k : Int32) : Option Int32 := if Int32.ofNat L ≤ k then some ((747796405 : Int32) * (k + (1 : Int32))) else if kIn k L = true then some (xs k.toNatClampNeg) else none
def kBX (D : va_G) (ty : kTy) (b L : Nat) (xs : Nat → Int32) (sz : Nat) (U : State) : Prop := kB D ty [] sz U ∧ va_X b L xs U U.heap ∧ b < sz
theorem kBX_blind (av : List Value) (D : va_G) (ty : kTy) (b L : Nat) (xs : Nat → Int32) (sz : Nat) : FrameBlind (va_Pc av (kBX D ty b L xs sz)) := fun a U g mk q => by
  obtain ⟨q0, q1, q2, q3⟩ := q
  exact ⟨q0, (kB_blind av D ty [] sz a U g mk ⟨q0, q1⟩).2, va_X.moved (u := U) (U := U.calling g mk a) (Vm.Alike.refl U.vm) q2, q3⟩
abbrev kCellM (l : Launch) (D : va_G) (ty : kTy) (b L : Nat) (xs : Nat → Int32) : Prop := ∀ (sz : Nat) (k r : Int32), fL_cell L xs k = some r → Met l yL_cell wsL_cell { frames := 0, cells := 0, slots := 0, locals := 0 } (va_Pc [.ref b, .int k] (kBX D ty b L xs sz)) (kQI D r [] (va_A [] sz)) 0 0 (va_A [] sz)
set_option maxHeartbeats 4000000 in
theorem cL_cell_ok (l : Launch) (D : va_G) (ty : kTy) (b L : Nat) (xs : Nat → Int32) : kCellM l D ty b L xs := by
  intro sz k r h
  refine Met.ofW (cc := cL_cell) (maxL := 2) (ret := (some .int)) (by decide) rfl ?_
  intro p e s m args below meth c s₁ B hml hv
  obtain ⟨rfl, ⟨hsz, hP, hK, hD0⟩, hX, hbl⟩ := hv
  have hx := B.exec
  have hb := B.bytes
  have hr := B.returns
  have hts := atoms_spec (ws := wsL_cell) B.pre
  have hown : s.vm.findClass RL = some m.cls := findClass_of_methodNamed B.named
  have hlocks := B.notSynchronized
  subst hsz
  have hD := hD0.self (sz := s.heap.size)
  have hbA : ¬ va_A ([] : va_W) s.heap.size b := fun z => by
    rcases z with ⟨k2, e, z⟩ | z
    · simp at z
    · omega
  generalize hAe : va_A (([] : va_W)) s.heap.size = A at hD hbA ⊢
  have hA : ∀ q : Nat, s.heap.size ≤ q → A q := fun q h => by rw [← hAe]; exact Or.inr h
  have hS : va_S A s.heap s.heap [] := va_S.rf
  refine kGenW (fun Q hQ => ?_)
  have wf0 := hts (.constant RL 7 (747796405)) (by decide +kernel)
  have hl := lv_entry ([.ref b, .int k]) (n := 2) (Nat.le_of_ble_eq_true rfl)
  rw [lg_entry_eq]
  generalize (lg_sl ([.ref b, .int k]) ++ List.replicate (2 - (lg_sl ([.ref b, .int k])).length) Slot.unset).toArray = ls at hl ⊢
  have hl : lv_has ls 2 [(0, .ref b), (1, .int k)] := hl
  unfold fL_cell at h
  refine lv_iload_n hx hb dL_cell_0 rfl (lv_at hl 1 rfl) ?_
  refine lv_aload_n hx hb dL_cell_1 rfl (lv_at hl 0 rfl) ?_
  refine va_slen hx hb hX hbl hbA hS dL_cell_2 ?_
  refine lv_icmp_ge (tgt := 12) hx hb dL_cell_3 (by decide) (fun c3 => ?_) (fun c3 => ?_)
  · have h := kT h c3
    refine lv_ldc hx hb hown wf0 dL_cell_12 ?_
    refine lv_iload_n hx hb dL_cell_14 rfl (lv_at hl 1 rfl) ?_
    refine lv_iconst (v := 1) hx hb dL_cell_15 (by decide) ?_
    refine lv_iadd hx hb dL_cell_16 ?_
    refine lv_imul hx hb dL_cell_17 ?_
    obtain rfl := Option.some.inj h
    subst hQ
    exact W.iret (v := ((747796405 : Int32) * (k + (1 : Int32)))) hx hb hr (fun t ht hW => ⟨⟨((747796405 : Int32) * (k + (1 : Int32))), (), rfl, rfl, kEnd ht hP⟩, hS.F ht⟩) hS.2.2 dL_cell_18
  · have h := kF h c3
    obtain ⟨b8, h⟩ := kIf h
    refine lv_aload_n hx hb dL_cell_6 rfl (lv_at hl 0 rfl) ?_
    refine lv_iload_n hx hb dL_cell_7 rfl (lv_at hl 1 rfl) ?_
    refine va_sld hx hb hX hbl hbA hS (kIn_ok b8) dL_cell_8 ?_
    refine lv_goto (tgt := 18) hx hb dL_cell_9 (by decide) ?_
    obtain rfl := Option.some.inj h
    subst hQ
    exact W.iret (v := (xs k.toNatClampNeg)) hx hb hr (fun t ht hW => ⟨⟨(xs k.toNatClampNeg), (), rfl, rfl, kEnd ht hP⟩, hS.F ht⟩) hS.2.2 dL_cell_18
section KCELL
variable {p : Program} {l : Launch} {e : Env} {R : Room} {s : State} {m : MethodId} {args : Array Value} {below : List Frame} {meth : Method} {c : Code} {H H0 : Heap} {locs : List Loc} {cells slots : Nat} {Q : State → Prop}
variable {bytes cc : ByteArray} {maxL nL index pc : Nat} {ret : Option FieldType} {Ts : List Cond} {own : String} {rest st0 : List Value} {ls : Array Slot} {D : va_G} {ty : kTy} {ws : va_W} {A0 : Nat → Prop} {b L : Nat} {xs : Nat → Int32}
theorem kCallCell (hcell : kCellM l D ty b L xs) (S : CallFix p m c cc nL s args Ts own) (r k : Int32) (he : fL_cell L xs k = some r) (cw : CallB R s args own index yL_cell bytes maxL ret wsL_cell { frames := 0, cells := 0, slots := 0, locals := 0 } 0 0 2 ∧ (Cond.static yL_cell).before args s = true)
    (hP : va_P D vwCl ws H) (hK : kK D ty s) (hD : va_D A0 ws) (hS : va_S A0 H0 H locs) (hA : ∀ q, H0.size ≤ q → A0 q) (hX : va_X b L xs s H0) (hbl : b < H0.size) (hbA : ¬ A0 b) (hstack : st0 = ([.ref b, .int k] : List Value).reverse ++ rest) (hsize : ls.size = nL) (hW : (rest.map fun v => v.category).sum ≤ 8) (hdg : decode cc pc = .ok (.invokestatic index, 3)) (hf : cells ≤ R.cells ∧ slots ≤ R.slots)
    (kk : ∀ (H1 : Heap) (locs1 : List Loc), va_P D vwCl ws H1 → va_S A0 H0 H1 locs1 → W p l e R s m args below meth c H1 locs1 cells slots Q (F0 m (pc + 3) ls (.int r :: rest))) : W p l e R s m args below meth c H locs cells slots Q (F0 m pc ls st0) := by
  have hPc : va_P D vwCl [] H := hP.sub [] rfl
  have hDc : va_D A0 [] := hD.sub [] rfl rfl
  have hFc := va_free (wc := []) hD hS hA [] rfl
  have hX1 : va_X b L xs s H := hX.kept (hS.2.1 b hbl hbA)
  have hb1 : b < H.size := Nat.lt_of_lt_of_le hbl hS.1
  subst hstack
  refine va_calli (va_runS S (hcell H.size k r he) cw ⟨kBX_blind _ _ _ _ _ _ _, fun U hU hW => ⟨rfl, kB_at hPc hK hDc U hU hW, by rw [hU]; exact hX1.moved hW.alike, hb1⟩⟩ rfl rfl hsize rfl (lv_room hW) hdg hf) hS (fun q _ h => hFc q h) hFc (fun r' u t H1 locs1 ht hvm hw hB hz hk hS' => ?_)
  cases hw
  exact kk H1 locs1 (kStay hP hk) hS'
end KCELL
