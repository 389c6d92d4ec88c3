/-! ===== worlds of several segments ===== -/
def kFl : List va_W → va_W
  | [] => []
  | [a] => a
  | a :: b :: l => a ++ kFl (b :: l)
theorem kFl_eq : ∀ sg : List va_W, kFl sg = sg.flatten
  | [] => rfl
  | [a] => by simp [kFl]
  | a :: b :: l => by
    rw [kFl, kFl_eq (b :: l)]
    rfl
theorem kDf {A : Nat → Prop} {ws wn : va_W} (hD : va_D A ws) (h : wn.map Prod.fst = ws.map Prod.fst) : va_D A wn := by
  refine ⟨fun i j x y hi hj hxy => ?_, fun k q hk => ?_⟩
  · obtain ⟨x0, h1, h2⟩ := kFst h hi
    obtain ⟨y0, h3, h4⟩ := kFst h hj
    exact hD.1 i j x0 y0 h1 h3 (h2.trans (hxy.trans h4.symm))
  · obtain ⟨q0, h1, h2⟩ := kFst h hk
    rw [← h2]
    exact hD.2 k q0 h1
def kRepG {α : Type} (ws : List α) : List Nat → List α → List α
  | i :: is, e :: w => kRepG (ws.set i e) is w
  | _, _ => ws
theorem kRepG_at {α : Type} : ∀ (is : List Nat) (w ws : List α) (k : Nat) (q : α), (kRepG ws is w)[k]? = some q → (∃ j : Nat, is[j]? = some k ∧ w[j]? = some q) ∨ ((∀ (j : Nat) (e : α), w[j]? = some e → is[j]? ≠ some k) ∧ ws[k]? = some q) := by
  intro is
  induction is with
  | nil => exact fun w ws k q h => Or.inr ⟨fun j e _ z => by simp at z, by simpa [kRepG] using h⟩
  | cons i is ih =>
    intro w ws k q h
    cases w with
    | nil => exact Or.inr ⟨fun j e z => by simp at z, by simpa [kRepG] using h⟩
    | cons e w =>
      rcases ih w (ws.set i e) k q h with ⟨j, h1, h2⟩ | ⟨h1, h2⟩
      · exact Or.inl ⟨j + 1, by simpa using h1, by simpa using h2⟩
      · by_cases hik : i = k
        · subst hik
          have hl : i < ws.length := by
            rcases Nat.lt_or_ge i ws.length with z | z
            · exact z
            · rw [List.getElem?_eq_none (by simpa using z)] at h2
              cases h2
          rw [List.getElem?_set_self hl] at h2
          cases h2
          exact Or.inl ⟨0, rfl, rfl⟩
        · rw [List.getElem?_set_ne hik] at h2
          refine Or.inr ⟨fun j e' z => ?_, h2⟩
          cases j with
          | zero => simpa using hik
          | succ j => simpa using h1 j e' (by simpa using z)
theorem kPlaceG {α : Type} {ws wc : List α} {is : List Nat} (hs : is.map (fun i => ws[i]?) = wc.map some) {k : Nat} {q : α} (hq : wc[k]? = some q) : ∃ i, is[k]? = some i ∧ ws[i]? = some q := by
  have h1 : (is.map (fun i => ws[i]?))[k]? = some (some q) := by rw [hs, List.getElem?_map, hq]; rfl
  rw [List.getElem?_map] at h1
  cases hi : is[k]? with
  | none => rw [hi] at h1; cases h1
  | some i => rw [hi] at h1; exact ⟨i, rfl, Option.some.inj h1⟩
theorem kP_mem {D : va_G} {ws : va_W} {H : Heap} : va_P D vwCl ws H ↔ ∀ q ∈ ws, va_at D vwCl q H := by
  constructor
  · intro h q hq
    obtain ⟨k, hk⟩ := List.getElem?_of_mem hq
    exact h k q hk
  · intro h k q hk
    exact h q (List.mem_of_getElem? hk)
theorem kD_mem {A : Nat → Prop} {ws : va_W} : va_D A ws ↔ (ws.map Prod.fst).Pairwise (fun a b => a ≠ b) ∧ ∀ q ∈ ws, A q.1 := by
  constructor
  · intro h
    refine ⟨?_, fun q hq => ?_⟩
    · rw [List.pairwise_iff_getElem]
      intro i j hi hj hij hx
      simp only [List.length_map] at hi hj
      simp only [List.getElem_map] at hx
      have := h.1 i j _ _ (List.getElem?_eq_getElem hi) (List.getElem?_eq_getElem hj) hx
      omega
    · obtain ⟨k, hk⟩ := List.getElem?_of_mem hq
      exact h.2 k q hk
  · intro ⟨h1, h2⟩
    refine ⟨fun i j p q hi hj hpq => ?_, fun k q hk => h2 q (List.mem_of_getElem? hk)⟩
    obtain ⟨li, ei⟩ := List.getElem?_eq_some_iff.mp hi
    obtain ⟨lj, ej⟩ := List.getElem?_eq_some_iff.mp hj
    rw [List.pairwise_iff_getElem] at h1
    rcases Nat.lt_trichotomy i j with z | z | z
    · have h3 := h1 i j (by simpa using li) (by simpa using lj) z
      simp only [List.getElem_map, ei, ej] at h3
      exact absurd hpq h3
    · exact z
    · have h3 := h1 j i (by simpa using lj) (by simpa using li) z
      simp only [List.getElem_map, ei, ej] at h3
      exact absurd hpq.symm h3
theorem kSegA {sg : List va_W} (h : ((kFl sg).map Prod.fst).Pairwise (fun a b => a ≠ b)) {i j : Nat} {v w : va_W} (hi : sg[i]? = some v) (hj : sg[j]? = some w) (hij : i ≠ j) {p q : Nat × va_E} (hp : p ∈ v) (hq : q ∈ w) : p.1 ≠ q.1 := by
  rw [kFl_eq, List.map_flatten, List.pairwise_flatten] at h
  have h2 := h.2
  rw [List.pairwise_iff_getElem] at h2
  obtain ⟨li, ei⟩ := List.getElem?_eq_some_iff.mp hi
  obtain ⟨lj, ej⟩ := List.getElem?_eq_some_iff.mp hj
  rcases Nat.lt_trichotomy i j with z | z | z
  · exact h2 i j (by simpa using li) (by simpa using lj) z p.1 (by rw [List.getElem_map, ei]; exact List.mem_map_of_mem hp) q.1 (by rw [List.getElem_map, ej]; exact List.mem_map_of_mem hq)
  · exact absurd z hij
  · exact fun e => h2 j i (by simpa using lj) (by simpa using li) z q.1 (by rw [List.getElem_map, ej]; exact List.mem_map_of_mem hq) p.1 (by rw [List.getElem_map, ei]; exact List.mem_map_of_mem hp) e.symm
theorem kSegP {D : va_G} {sg sc : List va_W} {H : Heap} {is : List Nat} (hP : va_P D vwCl (kFl sg) H) (hC : is.map (fun i => sg[i]?) = sc.map some) : va_P D vwCl (kFl sc) H := by
  rw [kP_mem] at hP ⊢
  intro q hq
  rw [kFl_eq, List.mem_flatten] at hq
  obtain ⟨w, hw, hq⟩ := hq
  obtain ⟨k, hk⟩ := List.getElem?_of_mem hw
  obtain ⟨i, -, hi⟩ := kPlaceG hC hk
  exact hP q (by rw [kFl_eq, List.mem_flatten]; exact ⟨w, List.mem_of_getElem? hi, hq⟩)
theorem kSegD {A : Nat → Prop} {sg sc : List va_W} {is : List Nat} (hD : va_D A (kFl sg)) (hnd : va_nd is = true) (hC : is.map (fun i => sg[i]?) = sc.map some) : va_D A (kFl sc) := by
  rw [kD_mem] at hD ⊢
  refine ⟨?_, fun q hq => ?_⟩
  · rw [kFl_eq, List.map_flatten, List.pairwise_flatten]
    refine ⟨fun l hl => ?_, ?_⟩
    · obtain ⟨w, hw, rfl⟩ := List.mem_map.mp hl
      obtain ⟨k, hk⟩ := List.getElem?_of_mem hw
      obtain ⟨i, -, hi⟩ := kPlaceG hC hk
      have h := hD.1
      rw [kFl_eq, List.map_flatten, List.pairwise_flatten] at h
      exact h.1 _ (List.mem_map_of_mem (List.mem_of_getElem? hi))
    · rw [List.pairwise_iff_getElem]
      intro i j hi hj hij x hx y hy
      simp only [List.length_map] at hi hj
      simp only [List.getElem_map] at hx hy
      obtain ⟨p, hp, rfl⟩ := List.mem_map.mp hx
      obtain ⟨q, hq, rfl⟩ := List.mem_map.mp hy
      obtain ⟨a, ha, ha2⟩ := kPlaceG hC (List.getElem?_eq_getElem hi)
      obtain ⟨b, hb, hb2⟩ := kPlaceG hC (List.getElem?_eq_getElem hj)
      refine kSegA hD.1 ha2 hb2 (fun e => ?_) hp hq
      subst e
      have := va_nd_inj is hnd i j a ha hb
      omega
  · rw [kFl_eq, List.mem_flatten] at hq
    obtain ⟨w, hw, hq⟩ := hq
    obtain ⟨k, hk⟩ := List.getElem?_of_mem hw
    obtain ⟨i, -, hi⟩ := kPlaceG hC hk
    exact hD.2 q (by rw [kFl_eq, List.mem_flatten]; exact ⟨w, List.mem_of_getElem? hi, hq⟩)
theorem kSegF {A0 : Nat → Prop} {sg sc : List va_W} {is : List Nat} {H0 H : Heap} {locs : List Loc} (hD : va_D A0 (kFl sg)) (hS : va_S A0 H0 H locs) (hA : ∀ q, H0.size ≤ q → A0 q) (hnd : va_nd is = true) (hC : is.map (fun i => sg[i]?) = sc.map some) : ∀ q, va_A (kFl sc) H.size q → A0 q := by
  intro q h
  rcases h with ⟨k, e, h⟩ | h
  · exact (kSegD hD hnd hC).2 k (q, e) h
  · exact hA q (Nat.le_trans hS.1 h)
theorem kSegJoin {A0 : Nat → Prop} {D : va_G} {sg sc s1 sn : List va_W} {H H1 : Heap} (hP : va_P D vwCl (kFl sg) H) (hD : va_D A0 (kFl sg)) (is : List Nat) (hC : is.map (fun i => sg[i]?) = sc.map some) (hk : ∀ q : Nat, q < H.size → ¬ va_A (kFl sc) H.size q → H1[q]? = H[q]?) (hP1 : va_P D vwCl (kFl s1) H1) (ha : s1.map (List.map Prod.fst) = sc.map (List.map Prod.fst)) (hn : kRepG sg is s1 = sn) : va_P D vwCl (kFl sn) H1 ∧ va_D A0 (kFl sn) := by
  subst hn
  have hlen : s1.length = sc.length := by simpa using congrArg List.length ha
  have fst1 : ∀ (j : Nat) (w : va_W), s1[j]? = some w → ∃ v, sc[j]? = some v ∧ v.map Prod.fst = w.map Prod.fst := by
    intro j w h
    have h1 : (sc.map (List.map Prod.fst))[j]? = some (w.map Prod.fst) := by rw [← ha, List.getElem?_map, h]; rfl
    rw [List.getElem?_map] at h1
    cases hi : sc[j]? with
    | none => rw [hi] at h1; cases h1
    | some v => rw [hi] at h1; exact ⟨v, rfl, Option.some.inj h1⟩
  have lenR : ∀ (is : List Nat) (w ws : List va_W), (kRepG ws is w).length = ws.length := by
    intro is
    induction is with
    | nil => intro w ws; cases w <;> rfl
    | cons i is ih =>
      intro w ws
      cases w with
      | nil => rfl
      | cons e w =>
        show (kRepG (ws.set i e) is w).length = ws.length
        rw [ih, List.length_set]
  refine ⟨?_, ?_⟩
  · rw [kP_mem]
    intro q hq
    rw [kFl_eq, List.mem_flatten] at hq
    obtain ⟨w, hw, hq⟩ := hq
    obtain ⟨k, hk2⟩ := List.getElem?_of_mem hw
    rcases kRepG_at is s1 sg k w hk2 with ⟨j, h1, h2⟩ | ⟨h1, h2⟩
    · rw [kP_mem] at hP1
      exact hP1 q (by rw [kFl_eq, List.mem_flatten]; exact ⟨w, List.mem_of_getElem? h2, hq⟩)
    · have hPq : va_at D vwCl q H := (kP_mem.mp hP) q (by rw [kFl_eq, List.mem_flatten]; exact ⟨w, List.mem_of_getElem? h2, hq⟩)
      have hl := hPq.lt
      refine hPq.kept (hk q.1 hl (fun z => ?_))
      rcases z with ⟨k2, e, z⟩ | z
      · have hz := List.mem_of_getElem? z
        rw [kFl_eq, List.mem_flatten] at hz
        obtain ⟨v, hv, hz⟩ := hz
        obtain ⟨j, hj⟩ := List.getElem?_of_mem hv
        obtain ⟨i, hi1, hi2⟩ := kPlaceG hC hj
        have hjl : j < s1.length := by
          rw [hlen]
          exact (List.getElem?_eq_some_iff.mp hj).1
        refine kSegA (kD_mem.mp hD).1 h2 hi2 (fun e => ?_) hq hz rfl
        subst e
        exact h1 j _ (List.getElem?_eq_getElem hjl) hi1
      · omega
  · refine kDf hD ?_
    rw [kFl_eq, kFl_eq, List.map_flatten, List.map_flatten]
    congr 1
    apply List.ext_getElem?
    intro k
    rw [List.getElem?_map, List.getElem?_map]
    cases hx : (kRepG sg is s1)[k]? with
    | none =>
      have : sg.length ≤ k := by
        rw [← lenR is s1 sg]
        exact List.getElem?_eq_none_iff.mp hx
      rw [List.getElem?_eq_none this]
    | some w =>
      rcases kRepG_at is s1 sg k w hx with ⟨j, h1, h2⟩ | ⟨-, h2⟩
      · obtain ⟨v, h3, h4⟩ := fst1 j w h2
        obtain ⟨i, h5, h6⟩ := kPlaceG hC h3
        rw [h1] at h5
        cases h5
        rw [h6]
        simp [h4]
      · rw [h2]
section KSEG
variable {p : Program} {l : Launch} {e : Env} {R : Room} {s : State} {m : MethodId} {args : Array Value} {below : List Frame} {meth : Method} {c : Code} {H H0 : Heap} {locs : List Loc} {cells slots : Nat} {Q : State → Prop}
variable {y : MethodName} {bytes cc : ByteArray} {maxL nL n index pc : Nat} {ret : Option FieldType} {wsy : List Cond} {rm : Room} {Ts : List Cond} {own C host : String} {b : Addr} {As rest st0 : List Value} {ls : Array Slot} {D : va_G} {ty : kTy} {sg sc s1 sn : List va_W} {A0 : Nat → Prop}
theorem kCallWI {r : Int32} (S : CallFix p m c cc nL s args Ts own) (hM : kMI l y wsy rm (.ref b :: As) D ty (kFl sc) H.size r (kFl s1)) (cw : CallW R s args own C index y bytes maxL ret wsy rm 0 0 n)
    (hP : va_P D vwCl (kFl sg) H) (hK : kK D ty s) (hD : va_D A0 (kFl sg)) (hS : va_S A0 H0 H locs) (hA : ∀ q, H0.size ≤ q → A0 q) (is : List Nat) (hnd : va_nd is = true) (hC : is.map (fun i => sg[i]?) = sc.map some)
    (ci q0 : Nat) {q : vw_C} {fs : List Value} (hq : vwCl[ci]? = some q) (hqC : q.1 = C) (he : (kFl sg)[q0]? = some (b, .inr (ci, fs))) (hn : As.length = n) (hsize : ls.size = nL) (hstack : st0 = As.reverse ++ .ref b :: rest) (hW : (rest.map fun v => v.category).sum ≤ 8) (hdg : decode cc pc = .ok (.invokevirtual index, 3)) (hf : cells ≤ R.cells ∧ slots ≤ R.slots)
    (ha : s1.map (List.map Prod.fst) = sc.map (List.map Prod.fst)) (hr : kRepG sg is s1 = sn)
    (kk : ∀ (H1 : Heap) (locs1 : List Loc), va_P D vwCl (kFl sn) H1 → va_D A0 (kFl sn) → va_S A0 H0 H1 locs1 → W p l e R s m args below meth c H1 locs1 cells slots Q (F0 m (pc + 3) ls (.int r :: rest))) : W p l e R s m args below meth c H locs cells slots Q (F0 m pc ls st0) := by
  have hPc := kSegP hP hC
  have hDc := kSegD hD hnd hC
  have hFc := kSegF hD hS hA hnd hC
  subst hstack
  have hrecv := va_recv hK.1 hP hq he
  rw [hqC] at hrecv
  refine va_calli (va_runV S hM cw ⟨kB_blind _ _ _ _ _, hrecv, fun U hU hW => ⟨rfl, kB_at hPc hK hDc U hU hW⟩⟩ rfl hn hsize rfl (lv_room hW) hdg hf) hS (fun q _ h => hFc q h) hFc (fun r' u t H1 locs1 ht hvm hw hB hz hk hS' => ?_)
  cases hw
  rw [ht] at hB
  obtain ⟨a1, a2⟩ := kSegJoin hP hD is hC hk hB ha hr
  exact kk H1 locs1 a1 a2 hS'
theorem kCallWV (S : CallFix p m c cc nL s args Ts own) (hM : kMV l y wsy rm (.ref b :: As) D ty (kFl sc) H.size (kFl s1)) (cw : CallW R s args own C index y bytes maxL ret wsy rm 0 0 n)
    (hP : va_P D vwCl (kFl sg) H) (hK : kK D ty s) (hD : va_D A0 (kFl sg)) (hS : va_S A0 H0 H locs) (hA : ∀ q, H0.size ≤ q → A0 q) (is : List Nat) (hnd : va_nd is = true) (hC : is.map (fun i => sg[i]?) = sc.map some)
    (ci q0 : Nat) {q : vw_C} {fs : List Value} (hq : vwCl[ci]? = some q) (hqC : q.1 = C) (he : (kFl sg)[q0]? = some (b, .inr (ci, fs))) (hn : As.length = n) (hsize : ls.size = nL) (hstack : st0 = As.reverse ++ .ref b :: rest) (hW : (rest.map fun v => v.category).sum ≤ 8) (hdg : decode cc pc = .ok (.invokevirtual index, 3)) (hf : cells ≤ R.cells ∧ slots ≤ R.slots)
    (ha : s1.map (List.map Prod.fst) = sc.map (List.map Prod.fst)) (hr : kRepG sg is s1 = sn)
    (kk : ∀ (H1 : Heap) (locs1 : List Loc), va_P D vwCl (kFl sn) H1 → va_D A0 (kFl sn) → va_S A0 H0 H1 locs1 → W p l e R s m args below meth c H1 locs1 cells slots Q (F0 m (pc + 3) ls rest)) : W p l e R s m args below meth c H locs cells slots Q (F0 m pc ls st0) := by
  have hPc := kSegP hP hC
  have hDc := kSegD hD hnd hC
  have hFc := kSegF hD hS hA hnd hC
  subst hstack
  have hrecv := va_recv hK.1 hP hq he
  rw [hqC] at hrecv
  refine va_callv (va_runV S hM cw ⟨kB_blind _ _ _ _ _, hrecv, fun U hU hW => ⟨rfl, kB_at hPc hK hDc U hU hW⟩⟩ rfl hn hsize rfl (lv_room hW) hdg hf) hS (fun q _ h => hFc q h) hFc (fun u t H1 locs1 ht hvm hw hB hz hk hS' => ?_)
  rw [ht] at hB
  obtain ⟨a1, a2⟩ := kSegJoin hP hD is hC hk hB ha hr
  exact kk H1 locs1 a1 a2 hS'
end KSEG
