set_option maxHeartbeats 4000000 in
set_option maxRecDepth 100000 in
theorem lw_kK {s : State} {b : Nat} (hts0 : ∀ w ∈ lw_tbl, w.before #[Value.ref b] s = true) : ∃ (D : va_G) (ty : kTy), kK D ty s := by
  obtain ⟨c0, i0, hk0⟩ := u_known (C := RX0) (T := TX0) (N := 12) (n := 12) hts0 wsLi_X0 (hts0 (.instantiable RX0 12) (List.mem_of_getElem? (i := 25) (by decide +kernel)))
  obtain ⟨c1, i1, hk1⟩ := u_known (C := RX1) (T := TX1) (N := 3) (n := 3) hts0 wsLi_X1 (hts0 (.instantiable RX1 3) (List.mem_of_getElem? (i := 93) (by decide +kernel)))
  obtain ⟨c2, i2, hk2⟩ := u_known (C := RX2) (T := TX2) (N := 3) (n := 3) hts0 wsLi_X2 (hts0 (.instantiable RX2 3) (List.mem_of_getElem? (i := 74) (by decide +kernel)))
  obtain ⟨c3, i3, hk3⟩ := u_known (C := RX3) (T := TX3) (N := 5) (n := 5) hts0 wsLi_X3 (hts0 (.instantiable RX3 5) (List.mem_of_getElem? (i := 110) (by decide +kernel)))
  obtain ⟨c4, i4, hk4⟩ := u_known (C := RX4) (T := TX4) (N := 6) (n := 6) hts0 wsLi_X4 (hts0 (.instantiable RX4 6) (List.mem_of_getElem? (i := 17) (by decide +kernel)))
  obtain ⟨a1, k1, m1, h11, h12, h13⟩ := Cond.arrayClass_spec (type := .int) (first := s) (o := none) (idx := []) (hts0 (.arrayClass .int) (List.mem_of_getElem? (i := 72) (by decide +kernel)))
  obtain ⟨a2, k2, m2, h21, h22, h23⟩ := Cond.arrayClass_spec (type := .long) (first := s) (o := none) (idx := []) (hts0 (.arrayClass .long) (List.mem_of_getElem? (i := 108) (by decide +kernel)))
  obtain ⟨a3, k3, m3, h31, h32, h33⟩ := Cond.arrayClass_spec (type := .char) (first := s) (o := none) (idx := []) (hts0 (.arrayClass .char) (List.mem_of_getElem? (i := 131) (by decide +kernel)))
  obtain ⟨m4, a4, k4, h41, -, h43, h44, h45⟩ := Cond.arrayOver_spec (n := "IceCoreDater$Core") (first := s) (o := none) (idx := []) (hts0 (.arrayOver (.object "IceCoreDater$Core")) (List.mem_of_getElem? (i := 80) (by decide +kernel)))
  refine ⟨(fun k => if k = 0 then c0 else if k = 1 then c1 else if k = 2 then c2 else if k = 3 then c3 else c4, fun k => if k = 0 then i0 else if k = 1 then i1 else if k = 2 then i2 else if k = 3 then i3 else i4), (a1, a2, a3, a4), ⟨?_, ?_⟩, ?_⟩
  · intro k q hq
    match k, hq with
    | 0, hq => cases hq; exact hk0
    | 1, hq => cases hq; exact hk1
    | 2, hq => cases hq; exact hk2
    | 3, hq => cases hq; exact hk3
    | 4, hq => cases hq; exact hk4
    | k + 5, hq => simp [vwCl] at hq
  · intro k q hq
    match k, hq with
    | 0, hq => cases hq; exact ⟨fun n z => ⟨fun k h => (by cases h), k1, h12, m1, h13⟩, h11⟩
    | 1, hq => cases hq; exact ⟨fun n z => ⟨fun k h => (by cases h), k2, h22, m2, h23⟩, h21⟩
    | 2, hq => cases hq; exact ⟨fun n z => ⟨fun k h => (by cases h), k3, h32, m3, h33⟩, h31⟩
    | 3, hq => cases hq; exact ⟨fun n z => ⟨fun k h => (by cases h), k4, h43, m4, h44⟩, ⟨k4, m4, h43, h44, h41, h45⟩⟩
    | k + 4, hq => simp [kTys] at hq
  · exact ⟨va_Nw.of rfl (hts0 (.methodLinkNest RX4 9 yX0_init "IceCoreDater") (List.mem_of_getElem? (i := 26) (by decide +kernel))), va_Nw.of rfl (hts0 (.methodLinkNest RX2 24 yX0_init "IceCoreDater") (List.mem_of_getElem? (i := 81) (by decide +kernel))), va_Nw.of rfl (hts0 (.methodLinkNest RX4 25 yX1_init "IceCoreDater") (List.mem_of_getElem? (i := 94) (by decide +kernel))), va_Nw.of rfl (hts0 (.methodLinkNest RX4 32 yX3_init "IceCoreDater") (List.mem_of_getElem? (i := 111) (by decide +kernel))), va_Nw.of rfl (hts0 (.methodLinkNest RX0 67 yX4_isBetween "IceCoreDater") (List.mem_of_getElem? (i := 270) (by decide +kernel))), va_Nw.of rfl (hts0 (.methodLinkNest RX0 98 yX4_quotient "IceCoreDater") (List.mem_of_getElem? (i := 209) (by decide +kernel)))⟩
set_option maxHeartbeats 4000000 in
set_option maxRecDepth 100000 in
theorem lw_all {p : Program} {e : Env} {s : State} {m : MethodId} {below : List Frame} {meth : Method} {c : Code} (l : Launch) {b L : Nat} {xs : Nat → Int32} (C0 : lw_At p s m meth c b L xs) (hf : fL_law L xs kX0 kC0 kF0 kH0 (fun _ => kC0) (fun _ => 0) 0 = some 1) : W p l e room_1 s m #[Value.ref b] below meth c s.heap [] 0 0 (lw_Z below #[Value.ref b] s) (entryFrame m ([Value.ref b] : List Value).toArray 9) := by
  obtain ⟨hx, hb, hr, hml, hown, hts0, hX, hbl, hlocks, hgv⟩ := id C0
  have hts : ∀ w ∈ wsL_law, w.before #[Value.ref b] s = true := fun w h => hts0 w (wsL_law_in w h)
  have hA : ∀ q : Nat, s.heap.size ≤ q → (fun q : Nat => s.heap.size ≤ q) q := fun _ h => h
  obtain ⟨D, ty, hK⟩ := lw_kK hts0
  have hov : va_AO RX0 s := (hts0 (.arrayOver (.object "IceCoreDater$Core")) (List.mem_of_getElem? (i := 80) (by decide +kernel)))
  have hac := (hts0 (.arrayClass .int) (List.mem_of_getElem? (i := 72) (by decide +kernel)))
  have hS : va_S (fun q : Nat => s.heap.size ≤ q) s.heap s.heap [] := va_S.rf
  have hP : va_P D vwCl ([] : va_W) s.heap := fun k q h => by simp at h
  have hD : va_D (fun q : Nat => s.heap.size ≤ q) ([] : va_W) := ⟨fun i j p q h => by simp at h, fun k q h => by simp at h⟩
  have hl := lv_entry ([.ref b]) (n := 9) (Nat.le_of_ble_eq_true rfl)
  rw [lg_entry_eq]
  generalize (lg_sl ([.ref b]) ++ List.replicate (9 - (lg_sl ([.ref b])).length) Slot.unset).toArray = ls at hl ⊢
  have hl : lv_has ls 9 [(0, .ref b)] := hl
  refine va_new (ci := 4) (fs := [.null, .null, .null, .null, .int 0, .int 0]) (C := RX4) (T := TX4) (N := 6) hx hb hts0 wsLi_X4 tyX4 tyX4_ok hown (hts0 (.classLink RL 10 RX4) (List.mem_of_getElem? (i := 16) (by decide +kernel))) (hts0 (.instantiable RX4 6) (List.mem_of_getElem? (i := 17) (by decide +kernel))) (hts0 (.initialized RX4) (List.mem_of_getElem? (i := 9) (by decide +kernel))) hK.1 hP hD hS hA rfl (fun j hj => by rcases (show j = 0 ∨ j = 1 ∨ j = 2 ∨ j = 3 ∨ j = 4 ∨ j = 5 by omega) with rfl | rfl | rfl | rfl | rfl | rfl <;> rfl) (Nat.le_of_ble_eq_true rfl) (Nat.le_of_ble_eq_true rfl) dL_law_0 (fun q1 H hP hD hS => ?_)
  have hP : va_P D vwCl ([(q1, .inr (4, [.null, .null, .null, .null, .int 0, .int 0]))] : va_W) H := hP
  have hD : va_D (fun q : Nat => s.heap.size ≤ q) ([(q1, .inr (4, [.null, .null, .null, .null, .int 0, .int 0]))] : va_W) := hD
  refine W.widen (k := 1) (n := 6) (by omega) (by omega) ?_
  refine lv_dup hx hb dL_law_3 rfl ?_
  have hFc := va_free (wc := ([(q1, .inr (4, [.null, .null, .null, .null, .int 0, .int 0]))] : va_W)) hD hS hA [0] rfl
  refine va_callv (va_runI (As := []) (rest := [.ref q1]) ⟨hx, hb, hml, hown, hts⟩ (cX4_init_ok l D ty q1 H.size) (cwI 0 hts gL_law_X4_init rfl rfl rfl (hts0 (.initialized RX4) (List.mem_of_getElem? (i := 9) (by decide +kernel))) (hts0 (.methodLink RL 126 yX4_init) (List.mem_of_getElem? (i := 18) (by decide +kernel))) (hts0 (.instanceMethod yX4_init) (List.mem_of_getElem? (i := 19) (by decide +kernel))) rfl (by decide +kernel) ⟨Nat.le_of_ble_eq_true rfl, Nat.le_of_ble_eq_true rfl⟩) ⟨kBo_blind _ _ _ _ _, fun U hU hW => ⟨rfl, kB_at hP hK hD U hU hW, va_AO.moved hW.alike hov⟩⟩ rfl rfl hl.1 rfl (lv_room (Nat.le_of_ble_eq_true rfl)) dL_law_4 ⟨Nat.le_of_ble_eq_true rfl, Nat.le_of_ble_eq_true rfl⟩) hS (fun q _ h => hFc q h) hFc (fun u t H1 locs ht hvm hw hB hz1 hk1 hS => ?_)
  obtain ⟨adC, adH, adF, adT, adS⟩ := u
  obtain ⟨hP1, hD1⟩ := hB
  rw [ht] at hP1
  have hP1 : va_P D vwCl (wX q1 adC adH adF adT kX0 ++ (wC ty adC kC0 ++ (wF ty adF kF0 ++ (wH ty adH adS kH0 ++ (wT ty adT kT0 ++ wS ty adS (fun _ => kC0)))))) H1 := hP1
  have hD1 : va_D (va_A ([(q1, .inr (4, [.null, .null, .null, .null, .int 0, .int 0]))] : va_W) H.size) (wX q1 adC adH adF adT kX0 ++ (wC ty adC kC0 ++ (wF ty adF kF0 ++ (wH ty adH adS kH0 ++ (wT ty adT kT0 ++ wS ty adS (fun _ => kC0)))))) := hD1
  obtain ⟨hP, hD⟩ := va_join (wr := []) (w1 := wX q1 adC adH adF adT kX0 ++ (wC ty adC kC0 ++ (wF ty adF kF0 ++ (wH ty adH adS kH0 ++ (wT ty adT kT0 ++ wS ty adS (fun _ => kC0)))))) hP hD [0] [] rfl rfl (by decide) (by decide) hk1 hFc hP1 hD1
  clear hP1 hD1 hk1 hFc
  generalize H1 = H at hP hS ⊢
  have hP : va_P D vwCl (wX q1 adC adH adF adT kX0 ++ (wC ty adC kC0 ++ (wF ty adF kF0 ++ (wH ty adH adS kH0 ++ (wT ty adT kT0 ++ wS ty adS (fun _ => kC0)))))) H := hP
  have hD : va_D (fun q : Nat => s.heap.size ≤ q) (wX q1 adC adH adF adT kX0 ++ (wC ty adC kC0 ++ (wF ty adF kF0 ++ (wH ty adH adS kH0 ++ (wT ty adT kT0 ++ wS ty adS (fun _ => kC0)))))) := hD
  refine W.widen (k := 90) (n := 1386) (by omega) (by omega) ?_
  refine lv_astore_n (lv' := [(1, .ref q1), (0, .ref b)]) hx hb dL_law_7 rfl hl (by decide) rfl (fun ls hl => ?_)
  refine lv_iconst (v := 1) hx hb dL_law_8 (by decide) ?_
  refine kNewa (ty := ty) (a0 := (1, (.inl (fun _ => 0)))) (N' := 1) (fty := .int) hx hb hac rfl 0 rfl (fun _ h => h) hK hP hD hS hA (fun _ => rfl) (by decide) (by decide) (by decide) (Nat.le_of_ble_eq_true rfl) (Nat.le_of_ble_eq_true rfl) dL_law_9 (fun aG H hP hD hS => ?_)
  refine W.widen (k := 600000) (n := 7302250) (Nat.le_of_ble_eq_true rfl) (Nat.le_of_ble_eq_true rfl) ?_
  refine lv_astore_n (lv' := [(2, .ref aG), (1, .ref q1), (0, .ref b)]) hx hb dL_law_11 rfl hl (by decide) rfl (fun ls hl => ?_)
  refine lv_iconst (v := 0) hx hb dL_law_12 (by decide) ?_
  refine lv_istore_n (lv' := [(3, .int 0), (2, .ref aG), (1, .ref q1), (0, .ref b)]) hx hb dL_law_13 rfl hl (by decide) rfl (fun ls hl => ?_)
  have hP9 := kSegP (sg := [wX q1 adC adH adF adT kX0, wC ty adC kC0, wF ty adF kF0, wH ty adH adS kH0, wT ty adT kT0, wS ty adS (fun _ => kC0), wG ty aG (fun _ => 0)]) (sc := [wX q1 adC adH adF adT kX0, wC ty adC kC0, wF ty adF kF0, wH ty adH adS kH0, wS ty adS (fun _ => kC0), wG ty aG (fun _ => 0)]) (is := [0, 1, 2, 3, 5, 6]) (H := H) (by simpa only [kFl, wG, List.append_assoc] using hP) rfl
  have hD9 := kSegD (sg := [wX q1 adC adH adF adT kX0, wC ty adC kC0, wF ty adF kF0, wH ty adH adS kH0, wT ty adT kT0, wS ty adS (fun _ => kC0), wG ty aG (fun _ => 0)]) (sc := [wX q1 adC adH adF adT kX0, wC ty adC kC0, wF ty adF kF0, wH ty adH adS kH0, wS ty adS (fun _ => kC0), wG ty aG (fun _ => 0)]) (is := [0, 1, 2, 3, 5, 6]) (by simpa only [kFl, wG, List.append_assoc] using hD) (by decide) rfl
  exact lw_run l C0 D ty q1 adC adF adH adT adS aG hK kX0 kC0 kF0 kH0 (fun _ => kC0) (fun _ => 0) 0 1 rfl hf (fun q : Nat => s.heap.size ≤ q) rfl H _ ls hP9 hD9 hS hl
