/-! ===== BASE: function-side words, the worlds, one row a call ===== -/
def kIn (i : Int32) (n : Nat) : Bool := !(decide (i < 0)) && decide (i.toNatClampNeg < n)
theorem kIn_ok {i : Int32} {n : Nat} (h : kIn i n = true) : vp_in i n := by
  simp only [kIn, Bool.and_eq_true, Bool.not_eq_true', decide_eq_false_iff_not, decide_eq_true_eq] at h
  intro q
  rcases q with q | q
  · exact h.1 q
  · omega
theorem kIn_of {i : Int32} {n : Nat} (h : vp_in i n) : kIn i n = true := by
  simp only [kIn, Bool.and_eq_true, Bool.not_eq_true', decide_eq_false_iff_not, decide_eq_true_eq]
  exact ⟨fun q => h (Or.inl q), Nat.lt_of_not_le (fun q => h (Or.inr q))⟩
def kCh (v : Int32) : Bool := decide (0 ≤ v.toInt) && decide (v.toInt < 65536)
theorem kCh_ok {v : Int32} (h : kCh v = true) : narrow .char (.int v) = .int v := by
  simp only [kCh, Bool.and_eq_true, decide_eq_true_eq] at h
  obtain ⟨n, hn⟩ : ∃ n : Nat, v.toInt = n := ⟨v.toInt.toNat, by omega⟩
  have hv : v = nI n := by
    apply Int32.toInt_inj.mp
    rw [nI_toInt (by omega), hn]
  rw [hv]
  exact (pk_charN (by omega)).1
theorem kIn_lt {i : Int32} {n : Nat} (h : kIn i n = true) : i.toNatClampNeg < n := by
  simp only [kIn, Bool.and_eq_true, decide_eq_true_eq] at h
  exact h.2
def kZb (v : Int32) : Bool := decide (v = 0) || decide (v = 1)
theorem kZ_ok {v : Int32} (h : kZb v = true) : narrow .boolean (.int v) = .int v := by
  simp only [kZb, Bool.or_eq_true, decide_eq_true_eq] at h
  rcases h with rfl | rfl <;> rfl
theorem kIf {α : Type} {c : Prop} [Decidable c] {A : Option α} {r : α} (h : (if c then A else none) = some r) : c ∧ A = some r := by
  by_cases hc : c
  · exact ⟨hc, by rwa [if_pos hc] at h⟩
  · rw [if_neg hc] at h
    cases h
theorem kT {α : Type} {c : Prop} [Decidable c] {A B : Option α} {r : α} (h : (if c then A else B) = some r) (hc : c) : A = some r := by rwa [if_pos hc] at h
theorem kF {α : Type} {c : Prop} [Decidable c] {A B : Option α} {r : α} (h : (if c then A else B) = some r) (hc : ¬ c) : B = some r := by rwa [if_neg hc] at h
theorem kBd {α β : Type} {x : Option α} {f : α → Option β} {r : β} (h : x.bind f = some r) : ∃ a, x = some a ∧ f a = some r := by
  cases x with
  | none => cases h
  | some a => exact ⟨a, rfl, h⟩
theorem kBs {α β : Type} {x y : α} {f : α → Option β} {r : β} (h : (some x).bind f = some r) (e : y = x) : f y = some r := e ▸ h
def kLoopC {σ R : Type} : Nat → (σ → (σ → Option R) → Option R) → σ → Option R
  | 0, _, _ => none
  | n + 1, b, s => b s (kLoopC n b)
def kFu : Nat := 100000
/-- the array classes: int, long, char, Core -/
abbrev kTy : Type := ClassId × ClassId × ClassId × ClassId
def kTys (ty : kTy) : List (ClassId × FieldType) := [(ty.1, .int), (ty.2.1, .long), (ty.2.2.1, .char), (ty.2.2.2, .object "IceCoreDater$Core")]
def kNw (U : State) : Prop := va_Nw (.methodLinkNest RX4 9 yX0_init "IceCoreDater") U ∧ va_Nw (.methodLinkNest RX2 24 yX0_init "IceCoreDater") U ∧ va_Nw (.methodLinkNest RX4 25 yX1_init "IceCoreDater") U ∧ va_Nw (.methodLinkNest RX4 32 yX3_init "IceCoreDater") U ∧ va_Nw (.methodLinkNest RX0 67 yX4_isBetween "IceCoreDater") U ∧ va_Nw (.methodLinkNest RX0 98 yX4_quotient "IceCoreDater") U
theorem kNw_warm {s U : State} (hW : s.WarmedH U.vm) (h : kNw s) : kNw U := by
  obtain ⟨a, b, c, d, e, f⟩ := h
  exact ⟨va_Nw.warmM hW a, va_Nw.warmM hW b, va_Nw.warmM hW c, va_Nw.warmM hW d, va_Nw.warmM hW e, va_Nw.warmM hW f⟩
theorem kNw_same {s U : State} (hv : s.vm = U.vm) (h : kNw s) : kNw U := by
  obtain ⟨a, b, c, d, e, f⟩ := h
  exact ⟨va_Nw.same rfl hv a, va_Nw.same rfl hv b, va_Nw.same rfl hv c, va_Nw.same rfl hv d, va_Nw.same rfl hv e, va_Nw.same rfl hv f⟩
def kK (D : va_G) (ty : kTy) (U : State) : Prop := va_K D vwCl (kTys ty) U ∧ kNw U
def kB (D : va_G) (ty : kTy) (w : va_W) (sz : Nat) (U : State) : Prop := U.heap.size = sz ∧ va_P D vwCl w U.heap ∧ kK D ty U ∧ va_D (fun _ => True) w
theorem kB_blind (av : List Value) (D : va_G) (ty : kTy) (w : va_W) (sz : Nat) : FrameBlind (va_Pc av (kB D ty w sz)) := fun a U g mk q => by
  obtain ⟨q0, q1, qP, ⟨qK, qN⟩, qD⟩ := q
  exact ⟨q0, q1, qP, ⟨va_K.moved (u := U) (U := U.calling g mk a) (Vm.Alike.refl U.vm) qK, kNw_same (U := U.calling g mk a) rfl qN⟩, qD⟩
theorem kB_at {D : va_G} {ty : kTy} {w : va_W} {H : Heap} {s : State} {A : Nat → Prop} (hP : va_P D vwCl w H) (hK : kK D ty s) (hD : va_D A w) : ∀ U : State, U.heap = H → s.WarmedH U.vm → kB D ty w H.size U :=
  fun U hU hW => ⟨by rw [hU], by rw [hU]; exact hP, ⟨va_K.moved hW.alike hK.1, kNw_warm hW hK.2⟩, hD.weaken (fun _ _ _ _ => trivial)⟩
abbrev kQI (D : va_G) (r : Int32) (w1 : va_W) (A : Nat → Prop) : Array Value → State → Outcome → State → Prop := va_Qi (fun (r' : Int32) (_ : Unit) => r' = r) (fun _ t => va_P D vwCl w1 t.heap) A
abbrev kQL (D : va_G) (r : Int64) (w1 : va_W) (A : Nat → Prop) : Array Value → State → Outcome → State → Prop := va_Ql (fun (r' : Int64) (_ : Unit) => r' = r) (fun _ t => va_P D vwCl w1 t.heap) A
abbrev kQV (D : va_G) (w1 : va_W) (A : Nat → Prop) : Array Value → State → Outcome → State → Prop := va_Qv (fun (_ : Unit) => True) (fun _ t => va_P D vwCl w1 t.heap) A
abbrev kMI (l : Launch) (y : MethodName) (ws : List Cond) (rm : Room) (av : List Value) (D : va_G) (ty : kTy) (w : va_W) (sz : Nat) (r : Int32) (w1 : va_W) : Prop := Met l y ws rm (va_Pc av (kB D ty w sz)) (kQI D r w1 (va_A w sz)) 0 0 (va_A w sz)
abbrev kML (l : Launch) (y : MethodName) (ws : List Cond) (rm : Room) (av : List Value) (D : va_G) (ty : kTy) (w : va_W) (sz : Nat) (r : Int64) (w1 : va_W) : Prop := Met l y ws rm (va_Pc av (kB D ty w sz)) (kQL D r w1 (va_A w sz)) 0 0 (va_A w sz)
abbrev kMV (l : Launch) (y : MethodName) (ws : List Cond) (rm : Room) (av : List Value) (D : va_G) (ty : kTy) (w : va_W) (sz : Nat) (w1 : va_W) : Prop := Met l y ws rm (va_Pc av (kB D ty w sz)) (kQV D w1 (va_A w sz)) 0 0 (va_A w sz)
/-! cells replaced at their places -/
def kRep (ws : va_W) : List Nat → va_W → va_W
  | i :: is, e :: w => kRep (ws.set i e) is w
  | _, _ => ws
theorem kRep_at : ∀ (is : List Nat) (w ws : va_W) (k : Nat) (q : Nat × va_E), (kRep ws is w)[k]? = some q → (∃ j : Nat, is[j]? = some k ∧ w[j]? = some q) ∨ ((∀ (j : Nat) (e : Nat × va_E), w[j]? = some e → is[j]? ≠ some k) ∧ ws[k]? = some q) := by
  intro is
  induction is with
  | nil => exact fun w ws k q h => Or.inr ⟨fun j e _ z => by simp at z, by simpa [kRep] using h⟩
  | cons i is ih =>
    intro w ws k q h
    cases w with
    | nil => exact Or.inr ⟨fun j e z => by simp at z, by simpa [kRep] using h⟩
    | cons e w =>
      rcases ih w (ws.set i e) k q h with ⟨j, h1, h2⟩ | ⟨h1, h2⟩
      · exact Or.inl ⟨j + 1, by simpa using h1, by simpa using h2⟩
      · by_cases hik : i = k
        · subst hik
          have hl : i < ws.length := by
            rcases Nat.lt_or_ge i ws.length with z | z
            · exact z
            · rw [List.getElem?_eq_none (by simpa using z)] at h2
              cases h2
          rw [List.getElem?_set_self hl] at h2
          cases h2
          exact Or.inl ⟨0, rfl, rfl⟩
        · rw [List.getElem?_set_ne hik] at h2
          refine Or.inr ⟨fun j e' z => ?_, h2⟩
          cases j with
          | zero => simpa using hik
          | succ j => simpa using h1 j e' (by simpa using z)
theorem kPlace {ws wc : va_W} {is : List Nat} (hs : is.map (fun i => ws[i]?) = wc.map some) {k : Nat} {q : Nat × va_E} (hq : wc[k]? = some q) : ∃ i, is[k]? = some i ∧ ws[i]? = some q := by
  have h1 : (is.map (fun i => ws[i]?))[k]? = some (some q) := by rw [hs, List.getElem?_map, hq]; rfl
  rw [List.getElem?_map] at h1
  cases hi : is[k]? with
  | none => rw [hi] at h1; cases h1
  | some i => rw [hi] at h1; exact ⟨i, rfl, Option.some.inj h1⟩
theorem kFst {w1 wc : va_W} (ha : w1.map Prod.fst = wc.map Prod.fst) {k : Nat} {q : Nat × va_E} (hq : w1[k]? = some q) : ∃ q0, wc[k]? = some q0 ∧ q0.1 = q.1 := by
  have h1 : (wc.map Prod.fst)[k]? = some q.1 := by rw [← ha, List.getElem?_map, hq]; rfl
  rw [List.getElem?_map] at h1
  cases hi : wc[k]? with
  | none => rw [hi] at h1; cases h1
  | some q0 => rw [hi] at h1; exact ⟨q0, rfl, Option.some.inj h1⟩
theorem kJoin {A0 : Nat → Prop} {D : va_G} {ws wc w1 wn : va_W} {H H1 : Heap} (hP : va_P D vwCl ws H) (hD : va_D A0 ws) (is : List Nat) (hC : is.map (fun i => ws[i]?) = wc.map some) (hk : ∀ q : Nat, q < H.size → ¬ va_A wc H.size q → H1[q]? = H[q]?) (hP1 : va_P D vwCl w1 H1) (ha : w1.map Prod.fst = wc.map Prod.fst) (hn : kRep ws is w1 = wn) : va_P D vwCl wn H1 ∧ va_D A0 wn := by
  subst hn
  have key : ∀ (k : Nat) (q : Nat × va_E), (kRep ws is w1)[k]? = some q → ∃ q0, ws[k]? = some q0 ∧ q0.1 = q.1 := by
    intro k q h
    rcases kRep_at is w1 ws k q h with ⟨j, h1, h2⟩ | ⟨-, h2⟩
    · obtain ⟨q0, h3, h4⟩ := kFst ha h2
      obtain ⟨i, h5, h6⟩ := kPlace hC h3
      rw [h1] at h5
      cases h5
      exact ⟨q0, h6, h4⟩
    · exact ⟨q, h2, rfl⟩
  refine ⟨fun k q h => ?_, fun i j x y hi hj hxy => ?_, fun k q h => ?_⟩
  · rcases kRep_at is w1 ws k q h with ⟨j, h1, h2⟩ | ⟨h1, h2⟩
    · exact hP1 j q h2
    · have hl := (hP k q h2).lt
      refine (hP k q h2).kept (hk q.1 hl (fun z => ?_))
      rcases z with ⟨j, e, z⟩ | z
      · obtain ⟨i, h5, h6⟩ := kPlace hC z
        have hik : i = k := hD.1 i k (q.1, e) q h6 h2 rfl
        subst hik
        have hlen : w1.length = wc.length := by simpa using congrArg List.length ha
        have hj : j < w1.length := by
          rw [hlen]
          exact (List.getElem?_eq_some_iff.mp z).1
        exact h1 j _ (List.getElem?_eq_getElem hj) h5
      · omega
  · obtain ⟨x0, h1, h2⟩ := key i x hi
    obtain ⟨y0, h3, h4⟩ := key j y hj
    exact hD.1 i j x0 y0 h1 h3 (h2.trans (hxy.trans h4.symm))
  · obtain ⟨q0, h1, h2⟩ := key k q h
    rw [← h2]
    exact hD.2 k q0 h1
theorem kFm {ws wc : va_W} {is : List Nat} (hC : is.map (fun i => ws[i]?) = wc.map some) : is.filterMap (fun i => ws[i]?) = wc := by
  induction is generalizing wc with
  | nil => cases wc with
    | nil => rfl
    | cons a l => cases hC
  | cons i is ih => cases wc with
    | nil => cases hC
    | cons a l =>
      simp only [List.map_cons, List.cons.injEq] at hC
      rw [List.filterMap_cons, hC.1, ih hC.2]
/-- what a callee of no cells leaves -/
theorem kStay {D : va_G} {ws : va_W} {H H1 : Heap} (hP : va_P D vwCl ws H) (hk : ∀ q : Nat, q < H.size → ¬ va_A [] H.size q → H1[q]? = H[q]?) : va_P D vwCl ws H1 := by
  refine hP.kept (fun k q h => hk q.1 (hP k q h).lt (fun z => ?_))
  rcases z with ⟨k2, e, z⟩ | z
  · simp at z
  · have := (hP k q h).lt
    omega
theorem kEnd {D : va_G} {w : va_W} {H : Heap} {t : State} (ht : t.heap = H) (hP : va_P D vwCl w H) : va_P D vwCl w t.heap := by
  rw [ht]
  exact hP
section KCALL
variable {p : Program} {l : Launch} {e : Env} {R : Room} {s : State} {m : MethodId} {args : Array Value} {below : List Frame} {meth : Method} {c : Code} {H H0 : Heap} {locs : List Loc} {cells slots : Nat} {Q : State → Prop}
variable {y : MethodName} {bytes cc : ByteArray} {maxL nL n index pc : Nat} {ret : Option FieldType} {wsy : List Cond} {rm : Room} {Ts : List Cond} {own C host : String} {b : Addr} {As rest st0 : List Value} {ls : Array Slot} {D : va_G} {ty : kTy} {ws wc w1 wn : va_W} {A0 : Nat → Prop}
theorem kGenW {g : JFrame} (h : ∀ Q', Q' = Q → W p l e R s m args below meth c H locs cells slots Q' g) : W p l e R s m args below meth c H locs cells slots Q g := h Q rfl
/-- a virtual call -/
theorem kCallVI {r : Int32} (S : CallFix p m c cc nL s args Ts own) (hM : kMI l y wsy rm (.ref b :: As) D ty wc H.size r w1) (cw : CallW R s args own C index y bytes maxL ret wsy rm 0 0 n)
    (hP : va_P D vwCl ws H) (hK : kK D ty s) (hD : va_D A0 ws) (hS : va_S A0 H0 H locs) (hA : ∀ q, H0.size ≤ q → A0 q) (is : List Nat) (hnd : va_nd is = true) (hC : is.map (fun i => ws[i]?) = wc.map some)
    (ci q0 : Nat) {q : vw_C} {fs : List Value} (hq : vwCl[ci]? = some q) (hqC : q.1 = C) (he : ws[q0]? = some (b, .inr (ci, fs))) (hn : As.length = n) (hsize : ls.size = nL) (hstack : st0 = As.reverse ++ .ref b :: rest) (hW : (rest.map fun v => v.category).sum ≤ 8) (hdg : decode cc pc = .ok (.invokevirtual index, 3)) (hf : cells ≤ R.cells ∧ slots ≤ R.slots)
    (ha : w1.map Prod.fst = wc.map Prod.fst) (hr : kRep ws is w1 = wn)
    (kk : ∀ (H1 : Heap) (locs1 : List Loc), va_P D vwCl wn H1 → va_D A0 wn → va_S A0 H0 H1 locs1 → W p l e R s m args below meth c H1 locs1 cells slots Q (F0 m (pc + 3) ls (.int r :: rest))) : W p l e R s m args below meth c H locs cells slots Q (F0 m pc ls st0) := by
  have hPc : va_P D vwCl wc H := hP.sub is (kFm hC)
  have hDc := hD.sub is hnd hC
  have hFc := va_free hD hS hA is hC
  subst hstack
  have hrecv := va_recv hK.1 hP hq he
  rw [hqC] at hrecv
  refine va_calli (va_runV S hM cw ⟨kB_blind _ _ _ _ _, hrecv, fun U hU hW => ⟨rfl, kB_at hPc hK hDc U hU hW⟩⟩ rfl hn hsize rfl (lv_room hW) hdg hf) hS (fun q _ h => hFc q h) hFc (fun r' u t H1 locs1 ht hvm hw hB hz hk hS' => ?_)
  cases hw
  rw [ht] at hB
  obtain ⟨a1, a2⟩ := kJoin hP hD is hC hk hB ha hr
  exact kk H1 locs1 a1 a2 hS'
theorem kCallVL {r : Int64} (S : CallFix p m c cc nL s args Ts own) (hM : kML l y wsy rm (.ref b :: As) D ty wc H.size r w1) (cw : CallW R s args own C index y bytes maxL ret wsy rm 0 0 n)
    (hP : va_P D vwCl ws H) (hK : kK D ty s) (hD : va_D A0 ws) (hS : va_S A0 H0 H locs) (hA : ∀ q, H0.size ≤ q → A0 q) (is : List Nat) (hnd : va_nd is = true) (hC : is.map (fun i => ws[i]?) = wc.map some)
    (ci q0 : Nat) {q : vw_C} {fs : List Value} (hq : vwCl[ci]? = some q) (hqC : q.1 = C) (he : ws[q0]? = some (b, .inr (ci, fs))) (hn : As.length = n) (hsize : ls.size = nL) (hstack : st0 = As.reverse ++ .ref b :: rest) (hW : (rest.map fun v => v.category).sum ≤ 8) (hdg : decode cc pc = .ok (.invokevirtual index, 3)) (hf : cells ≤ R.cells ∧ slots ≤ R.slots)
    (ha : w1.map Prod.fst = wc.map Prod.fst) (hr : kRep ws is w1 = wn)
    (kk : ∀ (H1 : Heap) (locs1 : List Loc), va_P D vwCl wn H1 → va_D A0 wn → va_S A0 H0 H1 locs1 → W p l e R s m args below meth c H1 locs1 cells slots Q (F0 m (pc + 3) ls (.long r :: rest))) : W p l e R s m args below meth c H locs cells slots Q (F0 m pc ls st0) := by
  have hPc : va_P D vwCl wc H := hP.sub is (kFm hC)
  have hDc := hD.sub is hnd hC
  have hFc := va_free hD hS hA is hC
  subst hstack
  have hrecv := va_recv hK.1 hP hq he
  rw [hqC] at hrecv
  refine va_calll (va_runV S hM cw ⟨kB_blind _ _ _ _ _, hrecv, fun U hU hW => ⟨rfl, kB_at hPc hK hDc U hU hW⟩⟩ rfl hn hsize rfl (lv_room hW) hdg hf) hS (fun q _ h => hFc q h) hFc (fun r' u t H1 locs1 ht hvm hw hB hz hk hS' => ?_)
  cases hw
  rw [ht] at hB
  obtain ⟨a1, a2⟩ := kJoin hP hD is hC hk hB ha hr
  exact kk H1 locs1 a1 a2 hS'
theorem kCallVV (S : CallFix p m c cc nL s args Ts own) (hM : kMV l y wsy rm (.ref b :: As) D ty wc H.size w1) (cw : CallW R s args own C index y bytes maxL ret wsy rm 0 0 n)
    (hP : va_P D vwCl ws H) (hK : kK D ty s) (hD : va_D A0 ws) (hS : va_S A0 H0 H locs) (hA : ∀ q, H0.size ≤ q → A0 q) (is : List Nat) (hnd : va_nd is = true) (hC : is.map (fun i => ws[i]?) = wc.map some)
    (ci q0 : Nat) {q : vw_C} {fs : List Value} (hq : vwCl[ci]? = some q) (hqC : q.1 = C) (he : ws[q0]? = some (b, .inr (ci, fs))) (hn : As.length = n) (hsize : ls.size = nL) (hstack : st0 = As.reverse ++ .ref b :: rest) (hW : (rest.map fun v => v.category).sum ≤ 8) (hdg : decode cc pc = .ok (.invokevirtual index, 3)) (hf : cells ≤ R.cells ∧ slots ≤ R.slots)
    (ha : w1.map Prod.fst = wc.map Prod.fst) (hr : kRep ws is w1 = wn)
    (kk : ∀ (H1 : Heap) (locs1 : List Loc), va_P D vwCl wn H1 → va_D A0 wn → va_S A0 H0 H1 locs1 → W p l e R s m args below meth c H1 locs1 cells slots Q (F0 m (pc + 3) ls rest)) : W p l e R s m args below meth c H locs cells slots Q (F0 m pc ls st0) := by
  have hPc : va_P D vwCl wc H := hP.sub is (kFm hC)
  have hDc := hD.sub is hnd hC
  have hFc := va_free hD hS hA is hC
  subst hstack
  have hrecv := va_recv hK.1 hP hq he
  rw [hqC] at hrecv
  refine va_callv (va_runV S hM cw ⟨kB_blind _ _ _ _ _, hrecv, fun U hU hW => ⟨rfl, kB_at hPc hK hDc U hU hW⟩⟩ rfl hn hsize rfl (lv_room hW) hdg hf) hS (fun q _ h => hFc q h) hFc (fun u t H1 locs1 ht hvm hw hB hz hk hS' => ?_)
  rw [ht] at hB
  obtain ⟨a1, a2⟩ := kJoin hP hD is hC hk hB ha hr
  exact kk H1 locs1 a1 a2 hS'
/-- a static call of a method of no cells -/
theorem kCallSI {r : Int32} (S : CallFix p m c cc nL s args Ts own) (hM : kMI l y wsy rm As D ty [] H.size r []) (cw : CallB R s args own index y bytes maxL ret wsy rm 0 0 n ∧ (Cond.static y).before args s = true)
    (hP : va_P D vwCl ws H) (hK : kK D ty s) (hD : va_D A0 ws) (hS : va_S A0 H0 H locs) (hA : ∀ q, H0.size ≤ q → A0 q) (hn : As.length = n) (hsize : ls.size = nL) (hstack : st0 = As.reverse ++ rest) (hW : (rest.map fun v => v.category).sum ≤ 8) (hdg : decode cc pc = .ok (.invokestatic index, 3)) (hf : cells ≤ R.cells ∧ slots ≤ R.slots)
    (kk : ∀ (H1 : Heap) (locs1 : List Loc), va_P D vwCl ws H1 → va_S A0 H0 H1 locs1 → W p l e R s m args below meth c H1 locs1 cells slots Q (F0 m (pc + 3) ls (.int r :: rest))) : W p l e R s m args below meth c H locs cells slots Q (F0 m pc ls st0) := by
  have hPc : va_P D vwCl [] H := hP.sub [] rfl
  have hDc : va_D A0 [] := hD.sub [] rfl rfl
  have hFc := va_free (wc := []) hD hS hA [] rfl
  subst hstack
  refine va_calli (va_runS S hM cw ⟨kB_blind _ _ _ _ _, fun U hU hW => ⟨rfl, kB_at hPc hK hDc U hU hW⟩⟩ rfl hn hsize rfl (lv_room hW) hdg hf) hS (fun q _ h => hFc q h) hFc (fun r' u t H1 locs1 ht hvm hw hB hz hk hS' => ?_)
  cases hw
  exact kk H1 locs1 (kStay hP hk) hS'
theorem kCallSL {r : Int64} (S : CallFix p m c cc nL s args Ts own) (hM : kML l y wsy rm As D ty [] H.size r []) (cw : CallB R s args own index y bytes maxL ret wsy rm 0 0 n ∧ (Cond.static y).before args s = true)
    (hP : va_P D vwCl ws H) (hK : kK D ty s) (hD : va_D A0 ws) (hS : va_S A0 H0 H locs) (hA : ∀ q, H0.size ≤ q → A0 q) (hn : As.length = n) (hsize : ls.size = nL) (hstack : st0 = As.reverse ++ rest) (hW : (rest.map fun v => v.category).sum ≤ 8) (hdg : decode cc pc = .ok (.invokestatic index, 3)) (hf : cells ≤ R.cells ∧ slots ≤ R.slots)
    (kk : ∀ (H1 : Heap) (locs1 : List Loc), va_P D vwCl ws H1 → va_S A0 H0 H1 locs1 → W p l e R s m args below meth c H1 locs1 cells slots Q (F0 m (pc + 3) ls (.long r :: rest))) : W p l e R s m args below meth c H locs cells slots Q (F0 m pc ls st0) := by
  have hPc : va_P D vwCl [] H := hP.sub [] rfl
  have hDc : va_D A0 [] := hD.sub [] rfl rfl
  have hFc := va_free (wc := []) hD hS hA [] rfl
  subst hstack
  refine va_calll (va_runS S hM cw ⟨kB_blind _ _ _ _ _, fun U hU hW => ⟨rfl, kB_at hPc hK hDc U hU hW⟩⟩ rfl hn hsize rfl (lv_room hW) hdg hf) hS (fun q _ h => hFc q h) hFc (fun r' u t H1 locs1 ht hvm hw hB hz hk hS' => ?_)
  cases hw
  exact kk H1 locs1 (kStay hP hk) hS'
theorem kCallNI {r : Int32} (S : CallFix p m c cc nL s args Ts own) (hM : kMI l y wsy rm As D ty [] H.size r []) (cw : va_CN R s args own index y host bytes maxL ret wsy rm 0 0 n ∧ (Cond.static y).before args s = true ∧ True)
    (hP : va_P D vwCl ws H) (hK : kK D ty s) (hD : va_D A0 ws) (hS : va_S A0 H0 H locs) (hA : ∀ q, H0.size ≤ q → A0 q) (hn : As.length = n) (hsize : ls.size = nL) (hstack : st0 = As.reverse ++ rest) (hW : (rest.map fun v => v.category).sum ≤ 8) (hdg : decode cc pc = .ok (.invokestatic index, 3)) (hf : cells ≤ R.cells ∧ slots ≤ R.slots)
    (kk : ∀ (H1 : Heap) (locs1 : List Loc), va_P D vwCl ws H1 → va_S A0 H0 H1 locs1 → W p l e R s m args below meth c H1 locs1 cells slots Q (F0 m (pc + 3) ls (.int r :: rest))) : W p l e R s m args below meth c H locs cells slots Q (F0 m pc ls st0) := by
  have hPc : va_P D vwCl [] H := hP.sub [] rfl
  have hDc : va_D A0 [] := hD.sub [] rfl rfl
  have hFc := va_free (wc := []) hD hS hA [] rfl
  subst hstack
  refine va_calli (va_runSN S hM cw ⟨kB_blind _ _ _ _ _, fun U hU hW => ⟨rfl, kB_at hPc hK hDc U hU hW⟩⟩ rfl hn hsize rfl (lv_room hW) hdg hf) hS (fun q _ h => hFc q h) hFc (fun r' u t H1 locs1 ht hvm hw hB hz hk hS' => ?_)
  cases hw
  exact kk H1 locs1 (kStay hP hk) hS'
theorem kCallNL {r : Int64} (S : CallFix p m c cc nL s args Ts own) (hM : kML l y wsy rm As D ty [] H.size r []) (cw : va_CN R s args own index y host bytes maxL ret wsy rm 0 0 n ∧ (Cond.static y).before args s = true ∧ True)
    (hP : va_P D vwCl ws H) (hK : kK D ty s) (hD : va_D A0 ws) (hS : va_S A0 H0 H locs) (hA : ∀ q, H0.size ≤ q → A0 q) (hn : As.length = n) (hsize : ls.size = nL) (hstack : st0 = As.reverse ++ rest) (hW : (rest.map fun v => v.category).sum ≤ 8) (hdg : decode cc pc = .ok (.invokestatic index, 3)) (hf : cells ≤ R.cells ∧ slots ≤ R.slots)
    (kk : ∀ (H1 : Heap) (locs1 : List Loc), va_P D vwCl ws H1 → va_S A0 H0 H1 locs1 → W p l e R s m args below meth c H1 locs1 cells slots Q (F0 m (pc + 3) ls (.long r :: rest))) : W p l e R s m args below meth c H locs cells slots Q (F0 m pc ls st0) := by
  have hPc : va_P D vwCl [] H := hP.sub [] rfl
  have hDc : va_D A0 [] := hD.sub [] rfl rfl
  have hFc := va_free (wc := []) hD hS hA [] rfl
  subst hstack
  refine va_calll (va_runSN S hM cw ⟨kB_blind _ _ _ _ _, fun U hU hW => ⟨rfl, kB_at hPc hK hDc U hU hW⟩⟩ rfl hn hsize rfl (lv_room hW) hdg hf) hS (fun q _ h => hFc q h) hFc (fun r' u t H1 locs1 ht hvm hw hB hz hk hS' => ?_)
  cases hw
  exact kk H1 locs1 (kStay hP hk) hS'
end KCALL
/-! the worlds -/
abbrev KC : Type := Int32 × Int32 × Int32 × Int32 × Int32 × (Nat → Int32) × (Nat → Int32) × (Nat → Int32) × (Nat → Int32) × (Nat → Int32) × (Nat → Int32) × (Nat → Int32)
def wC (ty : kTy) (ad : Nat → Nat) (u : KC) : va_W := [(ad 0, .inr (0, [.int u.1, .int u.2.1, .int u.2.2.1, .int u.2.2.2.1, .int u.2.2.2.2.1, .ref (ad 1), .ref (ad 2), .ref (ad 3), .ref (ad 4), .ref (ad 5), .ref (ad 6), .ref (ad 7)])), (ad 1, .inl (ty.1, 16, .inl u.2.2.2.2.2.1)), (ad 2, .inl (ty.1, 16, .inl u.2.2.2.2.2.2.1)), (ad 3, .inl (ty.1, 16, .inl u.2.2.2.2.2.2.2.1)), (ad 4, .inl (ty.1, 16, .inl u.2.2.2.2.2.2.2.2.1)), (ad 5, .inl (ty.1, 16, .inl u.2.2.2.2.2.2.2.2.2.1)), (ad 6, .inl (ty.1, 16, .inl u.2.2.2.2.2.2.2.2.2.2.1)), (ad 7, .inl (ty.1, 16, .inl u.2.2.2.2.2.2.2.2.2.2.2))]
abbrev KF : Type := Int32 × (Nat → Int64) × (Nat → Int64)
def wF (ty : kTy) (ad : Nat → Nat) (u : KF) : va_W := [(ad 0, .inr (1, [.int u.1, .ref (ad 1), .ref (ad 2)])), (ad 1, .inl (ty.2.1, 16, .inr (.inl u.2.1))), (ad 2, .inl (ty.2.1, 16, .inr (.inl u.2.2)))]
abbrev KT : Type := Int32 × Int32 × (Nat → Int32) × (Nat → Int32) × (Nat → Int32)
def wT (ty : kTy) (ad : Nat → Nat) (u : KT) : va_W := [(ad 0, .inr (3, [.int u.1, .int u.2.1, .ref (ad 1), .ref (ad 2), .ref (ad 3)])), (ad 1, .inl (ty.2.2.1, 80, .inl u.2.2.1)), (ad 2, .inl (ty.1, 4, .inl u.2.2.2.1)), (ad 3, .inl (ty.1, 4, .inl u.2.2.2.2))]
abbrev KX : Type := Int32 × Int32
def wX (aX : Nat) (adC adH adF adT : Nat → Nat) (u : KX) : va_W := [(aX, .inr (4, [.ref (adC 0), .ref (adH 0), .ref (adF 0), .ref (adT 0), .int u.1, .int u.2]))]
abbrev KH : Type := Int32 × Int32
def wH (ty : kTy) (ad : Nat → Nat) (adS : Nat → Nat → Nat) (u : KH) : va_W := [(ad 0, .inr (2, [.ref (ad 1), .int u.1, .int u.2])), (ad 1, .inl (ty.2.2.2, 9, .inr (.inr (.inr (.inr (fun i => some (adS i 0)))))))]
abbrev KS : Type := Nat → KC
def wS (ty : kTy) (adS : Nat → Nat → Nat) (u : KS) : va_W := wC ty (adS 0) (u 0) ++ (wC ty (adS 1) (u 1) ++ (wC ty (adS 2) (u 2) ++ (wC ty (adS 3) (u 3) ++ (wC ty (adS 4) (u 4) ++ (wC ty (adS 5) (u 5) ++ (wC ty (adS 6) (u 6) ++ (wC ty (adS 7) (u 7) ++ wC ty (adS 8) (u 8))))))))
abbrev KG : Type := Nat → Int32
def wG (ty : kTy) (a : Nat) (u : KG) : va_W := [(a, .inl (ty.1, 1, .inl u))]
