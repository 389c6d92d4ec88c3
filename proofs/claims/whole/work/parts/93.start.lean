def kTm (i : Nat) : Term := Term.string "IceCoreDater" ([215, 224, 226, 228, 230, 232, 233, 235, 243, 249, 251, 253].getD i 0)
def kFlat : List Cond := flatC (Jvm.Cond.and given_1 narrow_1)
theorem kf_1 : ∀ i : Nat, i < 12 → Cond.exactly (kTm i) "java/lang/String" ∈ kFlat := by decide +kernel
theorem kf_2 : ∀ i : Nat, i < 12 → Cond.eq (.field (kTm i) "java/lang/String" "coder" "B") (.int 0) ∈ kFlat := by decide +kernel
theorem kf_3 : ∀ i : Nat, i < 12 → Cond.arrayOf (.field (kTm i) "java/lang/String" "value" "[B") .byte ∈ kFlat := by decide +kernel
theorem kf_4 : ∀ i : Nat, i < 12 → Cond.eq (.length (.field (kTm i) "java/lang/String" "value" "[B")) (.int (Int32.ofNat (kLen.getD i 0))) ∈ kFlat := by decide +kernel
theorem kf_5 : ∀ i : Nat, i < 12 → ∀ j : Nat, j < kLen.getD i 0 → Cond.eq (.elem (.field (kTm i) "java/lang/String" "value" "[B") (.int (Int32.ofNat j))) (.int ((kByt.getD i []).getD j 0)) ∈ kFlat := by decide +kernel
theorem kf_6 : ∀ i : Nat, i < 12 → ∀ j : Nat, j < 12 → i ≠ j → (Cond.not (Cond.eq (kTm i) (kTm j)) ∈ kFlat ∨ Cond.not (Cond.eq (kTm j) (kTm i)) ∈ kFlat) := by decide +kernel
theorem kf_7 : Cond.eq (Term.static "java/lang/String" "COMPACT_STRINGS" "Z") (.int 1) ∈ kFlat := by decide +kernel
theorem kf_8 : Cond.isRef (Term.static "jdk/internal/util/Preconditions" "SIOOBE_FORMATTER" "Ljava/util/function/BiFunction;") ∈ kFlat := by decide +kernel
set_option maxHeartbeats 4000000 in
set_option maxRecDepth 100000 in
theorem lw_str {s : State} {b : Nat} (hts0 : ∀ w ∈ lw_tbl, w.before #[Value.ref b] s = true) (hgv : (Jvm.Cond.and given_1 narrow_1).before #[Value.ref b] s = true) : ∃ adK adV : Nat → Nat, kStr adK adV (fun q : Nat => s.heap.size ≤ q) s s.heap := by
  have hs : ∀ w ∈ kFlat, w.before #[Value.ref b] s = true := flat_of_before _ hgv
  have hA : ∀ a : Nat, a < s.heap.size → ¬ (fun q : Nat => s.heap.size ≤ q) a := fun a h => Nat.not_le.mpr h
  obtain ⟨adK, adV, h1, h2⟩ := vk_Sof (tm := kTm) (len := kLen) (byt := kByt) (A := (fun q : Nat => s.heap.size ≤ q)) kLen_lt (fun i hi => hs _ (kf_1 i hi)) (fun i hi => hs _ (kf_2 i hi)) (fun i hi => hs _ (kf_3 i hi)) (fun i hi => hs _ (kf_4 i hi)) (fun i hi j hj => hs _ (kf_5 i hi j hj)) (fun i j hi hj hij => (kf_6 i hi j hj hij).elim (fun h => Or.inl (hs _ h)) (fun h => Or.inr (hs _ h))) hA
  refine ⟨adK, adV, h1, va_Zof (hts0 (.laysStatic "java/lang/String" "COMPACT_STRINGS" "Z") (List.mem_of_getElem? (i := 495) (by decide +kernel))) (hts0 (.initialized "java/lang/String") (List.mem_of_getElem? (i := 51) (by decide +kernel))) (va_eqt (hs _ kf_7)) hA, va_Zqof (hts0 (.laysStatic "jdk/internal/util/Preconditions" "SIOOBE_FORMATTER" "Ljava/util/function/BiFunction;") (List.mem_of_getElem? (i := 511) (by decide +kernel))) (hts0 (.initialized "jdk/internal/util/Preconditions") (List.mem_of_getElem? (i := 53) (by decide +kernel))) (hs _ kf_8) hA, ?_⟩
  exact ⟨vk_R.of (hts0 (.stringRef "IceCoreDater" 215 "layer") (List.mem_of_getElem? (i := 473) (by decide +kernel))) (h2 0 (by decide)), vk_R.of (hts0 (.stringRef "IceCoreDater" 224 "ash") (List.mem_of_getElem? (i := 542) (by decide +kernel))) (h2 1 (by decide)), vk_R.of (hts0 (.stringRef "IceCoreDater" 226 "count") (List.mem_of_getElem? (i := 543) (by decide +kernel))) (h2 2 (by decide)), vk_R.of (hts0 (.stringRef "IceCoreDater" 228 "fix") (List.mem_of_getElem? (i := 544) (by decide +kernel))) (h2 3 (by decide)), vk_R.of (hts0 (.stringRef "IceCoreDater" 230 "bed") (List.mem_of_getElem? (i := 545) (by decide +kernel))) (h2 4 (by decide)), vk_R.of (hts0 (.stringRef "IceCoreDater" 232 "kink") (List.mem_of_getElem? (i := 546) (by decide +kernel))) (h2 5 (by decide)), vk_R.of (hts0 (.stringRef "IceCoreDater" 233 "close") (List.mem_of_getElem? (i := 547) (by decide +kernel))) (h2 6 (by decide)), vk_R.of (hts0 (.stringRef "IceCoreDater" 235 "tune") (List.mem_of_getElem? (i := 548) (by decide +kernel))) (h2 7 (by decide)), vk_R.of (hts0 (.stringRef "IceCoreDater" 243 "use") (List.mem_of_getElem? (i := 553) (by decide +kernel))) (h2 8 (by decide)), vk_R.of (hts0 (.stringRef "IceCoreDater" 249 "linear") (List.mem_of_getElem? (i := 556) (by decide +kernel))) (h2 9 (by decide)), vk_R.of (hts0 (.stringRef "IceCoreDater" 251 "kinked") (List.mem_of_getElem? (i := 557) (by decide +kernel))) (h2 10 (by decide)), vk_R.of (hts0 (.stringRef "IceCoreDater" 253 "told") (List.mem_of_getElem? (i := 558) (by decide +kernel))) (h2 11 (by decide))⟩
set_option maxHeartbeats 4000000 in
set_option maxRecDepth 100000 in
theorem lw_kK {s : State} {b : Nat} (hts0 : ∀ w ∈ lw_tbl, w.before #[Value.ref b] s = true) : ∃ (D : va_G) (ty : kTy), kK D ty s := by
  obtain ⟨c0, i0, hk0⟩ := u_known (C := RX0) (T := TX0) (N := 12) (n := 12) hts0 wsLi_X0 (hts0 (.instantiable RX0 12) (List.mem_of_getElem? (i := 64) (by decide +kernel)))
  obtain ⟨c1, i1, hk1⟩ := u_known (C := RX1) (T := TX1) (N := 3) (n := 3) hts0 wsLi_X1 (hts0 (.instantiable RX1 3) (List.mem_of_getElem? (i := 134) (by decide +kernel)))
  obtain ⟨c2, i2, hk2⟩ := u_known (C := RX2) (T := TX2) (N := 3) (n := 3) hts0 wsLi_X2 (hts0 (.instantiable RX2 3) (List.mem_of_getElem? (i := 115) (by decide +kernel)))
  obtain ⟨c3, i3, hk3⟩ := u_known (C := RX3) (T := TX3) (N := 5) (n := 5) hts0 wsLi_X3 (hts0 (.instantiable RX3 5) (List.mem_of_getElem? (i := 151) (by decide +kernel)))
  obtain ⟨c4, i4, hk4⟩ := u_known (C := RX4) (T := TX4) (N := 6) (n := 6) hts0 wsLi_X4 (hts0 (.instantiable RX4 6) (List.mem_of_getElem? (i := 56) (by decide +kernel)))
  obtain ⟨c5, i5, hk5⟩ := u_known (C := RX5) (T := TX5) (N := 12) (n := 12) hts0 wsLi_X5 (hts0 (.instantiable RX5 12) (List.mem_of_getElem? (i := 723) (by decide +kernel)))
  obtain ⟨a1, k1, m1, h11, h12, h13⟩ := Cond.arrayClass_spec (type := .int) (first := s) (o := none) (idx := []) (hts0 (.arrayClass .int) (List.mem_of_getElem? (i := 113) (by decide +kernel)))
  obtain ⟨a2, k2, m2, h21, h22, h23⟩ := Cond.arrayClass_spec (type := .long) (first := s) (o := none) (idx := []) (hts0 (.arrayClass .long) (List.mem_of_getElem? (i := 149) (by decide +kernel)))
  obtain ⟨a3, k3, m3, h31, h32, h33⟩ := Cond.arrayClass_spec (type := .char) (first := s) (o := none) (idx := []) (hts0 (.arrayClass .char) (List.mem_of_getElem? (i := 174) (by decide +kernel)))
  obtain ⟨m4, a4, k4, h41, -, h43, h44, h45⟩ := Cond.arrayOver_spec (n := "IceCoreDater$Core") (first := s) (o := none) (idx := []) (hts0 (.arrayOver (.object "IceCoreDater$Core")) (List.mem_of_getElem? (i := 121) (by decide +kernel)))
  refine ⟨(fun k => if k = 0 then c0 else if k = 1 then c1 else if k = 2 then c2 else if k = 3 then c3 else if k = 4 then c4 else c5, fun k => if k = 0 then i0 else if k = 1 then i1 else if k = 2 then i2 else if k = 3 then i3 else if k = 4 then i4 else i5), (a1, a2, a3, a4), ⟨?_, ?_⟩, ?_⟩
  · intro k q hq
    match k, hq with
    | 0, hq => cases hq; exact hk0
    | 1, hq => cases hq; exact hk1
    | 2, hq => cases hq; exact hk2
    | 3, hq => cases hq; exact hk3
    | 4, hq => cases hq; exact hk4
    | 5, hq => cases hq; exact hk5
    | k + 6, hq => simp [vwCl] at hq
  · intro k q hq
    match k, hq with
    | 0, hq => cases hq; exact ⟨fun n z => ⟨fun k h => (by cases h), k1, h12, m1, h13⟩, h11⟩
    | 1, hq => cases hq; exact ⟨fun n z => ⟨fun k h => (by cases h), k2, h22, m2, h23⟩, h21⟩
    | 2, hq => cases hq; exact ⟨fun n z => ⟨fun k h => (by cases h), k3, h32, m3, h33⟩, h31⟩
    | 3, hq => cases hq; exact ⟨fun n z => ⟨fun k h => (by cases h), k4, h43, m4, h44⟩, ⟨k4, m4, h43, h44, h41, h45⟩⟩
    | k + 4, hq => simp [kTys] at hq
  · exact ⟨va_Nw.of rfl (hts0 (.methodLinkNest RX4 9 yX0_init "IceCoreDater") (List.mem_of_getElem? (i := 65) (by decide +kernel))), va_Nw.of rfl (hts0 (.methodLinkNest RX2 24 yX0_init "IceCoreDater") (List.mem_of_getElem? (i := 122) (by decide +kernel))), va_Nw.of rfl (hts0 (.methodLinkNest RX4 25 yX1_init "IceCoreDater") (List.mem_of_getElem? (i := 135) (by decide +kernel))), va_Nw.of rfl (hts0 (.methodLinkNest RX4 32 yX3_init "IceCoreDater") (List.mem_of_getElem? (i := 152) (by decide +kernel))), va_Nw.of rfl (hts0 (.methodLinkNest RX0 67 yX4_isBetween "IceCoreDater") (List.mem_of_getElem? (i := 214) (by decide +kernel))), va_Nw.of rfl (hts0 (.methodLinkNest RX0 98 yX4_quotient "IceCoreDater") (List.mem_of_getElem? (i := 366) (by decide +kernel))), va_Nw.of rfl (hts0 (.methodLinkNest RX3 29 yX4_isBetween "IceCoreDater") (List.mem_of_getElem? (i := 437) (by decide +kernel)))⟩
theorem lw_cmp {i L : Nat} (hi : i ≤ 4096) (hL : L ≤ 2048) (h : ¬ Int32.ofNat L - 4 < nI i) : i + 4 ≤ L := by
  rcases Nat.lt_or_ge L (i + 4) with z | z
  · refine absurd ?_ h
    show nI L - nI 4 < nI i
    rw [Int32.lt_iff_toInt_lt, pk_sub_toInt (by omega) (by omega), nI_toInt (by omega)]
    omega
  · exact z
set_option maxHeartbeats 4000000 in
set_option maxRecDepth 100000 in
theorem lw_loop {p : Program} {l : Launch} {e : Env} {s : State} {m : MethodId} {below : List Frame} {meth : Method} {c : Code} {b L : Nat} {xs : Nat → Int32} {D : va_G} {ty : kTy} {adK adV : Nat → Nat} {RR : KX → KM → KC → KF → KH → KT → KS → Prop} {aX : Nat} {adM adC adF adH adT : Nat → Nat} {adS : Nat → Nat → Nat} (hL : L ≤ 2048) (C0 : lw_At p s m meth c b L xs) (hK : kK D ty s) (hE : kStr adK adV (fun q : Nat => s.heap.size ≤ q) s s.heap) (o_addLayer : hop_addLayer RR) (o_removeLowest : hop_removeLowest RR) (o_divide : hop_divide RR) (o_setBed : hop_setBed RR) (o_setFunction : hop_setFunction RR) (o_setKink : hop_setKink RR) (o_tellThinning : hop_tellThinning RR) (o_correct : hop_correct RR) (o_setCloseOff : hop_setCloseOff RR) (o_setAsh : hop_setAsh RR) (o_removeAsh : hop_removeAsh RR) (o_setCount : hop_setCount RR) (o_tune : hop_tune RR) (o_undo : hop_undo RR) (o_type : hop_type RR) (o_clearText : hop_clearText RR) (o_run : hop_run RR) (o_failure : hop_failure RR) (o_layers : hop_layers RR) (o_depth : hop_depth RR) (o_thickness : hop_thickness RR) (o_accumulation : hop_accumulation RR) (o_correction : hop_correction RR) (o_thinning : hop_thinning RR) (o_years : hop_years RR) (o_delay : hop_delay RR) (o_residual : hop_residual RR) (o_countError : hop_countError RR) (o_fitting : hop_fitting RR) (o_age : hop_age RR) (o_gasAge : hop_gasAge RR) (o_depthOf : hop_depthOf RR) (o_gasDepthOf : hop_gasDepthOf RR) (o_lead : hop_lead RR) (o_inversions : hop_inversions RR) (o_acts : hop_acts RR) (o_seal : hop_seal RR) (o_bestFunction : hop_bestFunction RR) (o_bestKink : hop_bestKink RR) (o_neededAccumulation : hop_neededAccumulation RR) : ∀ (n i : Nat), i ≤ L + 3 → L + 4 ≤ i + n → ∀ x3 : Int32, x3 = nI i → lwK p l e s m below meth c b D ty RR aX adM adC adF adH adT adS x3 18 := by
  intro n
  induction n with
  | zero =>
    intro i h1 h2 x3 ex
    exact absurd h1 (by omega)
  | succ n ih =>
    intro i hi hn x3 ex X M C F H T S hR Hh locs ls hP hD hS hl
    obtain ⟨hx, hb, hr, hml, hown, hts0, hX, hbl, hlocks, hgv⟩ := id C0
    have hbA : ¬ (fun q : Nat => s.heap.size ≤ q) b := Nat.not_le.mpr hbl
    refine lv_iload_n hx hb dL_law_18 rfl (lv_at hl 3 rfl) ?_
    refine lv_aload_n hx hb dL_law_19 rfl (lv_at hl 0 rfl) ?_
    refine va_slen hx hb hX hbl hbA hS dL_law_20 ?_
    refine lv_iconst (v := 4) hx hb dL_law_21 (by decide) ?_
    refine lv_isub hx hb dL_law_22 ?_
    refine lv_icmp_gt (tgt := 1074) hx hb dL_law_23 (by decide) (fun _ => ?_) (fun c23 => ?_)
    · refine lv_iconst (v := 1) hx hb dL_law_1074 (by decide) ?_
      refine va_forget (fun q hq => hS.2.2 q hq) ?_
      exact lw_ret hx hb hr hlocks dL_law_1075
    · rw [ex] at c23
      have hlt := lw_cmp (by omega) hL c23
      have h0 : vp_in x3 L := by rw [ex]; exact vp_in_nI (by omega) (by omega)
      have h1 : vp_in (x3 + 1) L := by
        have e : x3 + 1 = nI (i + 1) := by rw [ex]; exact nI_add i 1
        rw [e]; exact vp_in_nI (by omega) (by omega)
      have h2 : vp_in (x3 + 2) L := by
        have e : x3 + 2 = nI (i + 2) := by rw [ex]; exact nI_add i 2
        rw [e]; exact vp_in_nI (by omega) (by omega)
      have h3 : vp_in (x3 + 3) L := by
        have e : x3 + 3 = nI (i + 3) := by rw [ex]; exact nI_add i 3
        rw [e]; exact vp_in_nI (by omega) (by omega)
      have K : lwK p l e s m below meth c b D ty RR aX adM adC adF adH adT adS x3 1068 := by
        intro X M C F H T S hR Hh locs ls hP hD hS hl
        obtain ⟨y3, ey3⟩ : ∃ y : Int32, y = x3 + 4 := ⟨_, rfl⟩
        refine lv_iinc (v := y3) (lv' := [(3, .int y3), (0, .ref b), (1, .ref aX), (2, .ref (adM 0))]) hx hb dL_law_1068 hl (k := 3) rfl (by rw [ey3]; rfl) (by decide) rfl (fun ls hl => ?_)
        refine lv_goto (tgt := 18) hx hb dL_law_1071 (by decide) ?_
        exact ih (i + 4) (by omega) (by omega) y3 (by rw [ey3, ex]; exact nI_add i 4) X M C F H T S hR Hh locs ls hP hD hS (lv_sub hl [1, 2, 3, 0] rfl)
      refine lv_aload_n hx hb dL_law_26 rfl (lv_at hl 0 rfl) ?_
      refine lv_iload_n hx hb dL_law_27 rfl (lv_at hl 3 rfl) ?_
      refine va_sld hx hb hX hbl hbA hS h0 dL_law_28 ?_
      refine lv_bipush (v := 63) hx hb dL_law_29 (by decide) ?_
      refine lv_iand hx hb dL_law_31 ?_
      obtain ⟨j, hj, ej⟩ := pk_andE (xs x3.toNatClampNeg) (m := 63) 6 (by decide)
      refine lv_topi (fun z ez => ?_)
      rw [ej] at ez
      rcases Nat.lt_or_ge j 40 with hj40 | hj40
      · subst ez
        rcases (show j = 0 ∨ j = 1 ∨ j = 2 ∨ j = 3 ∨ j = 4 ∨ j = 5 ∨ j = 6 ∨ j = 7 ∨ j = 8 ∨ j = 9 ∨ j = 10 ∨ j = 11 ∨ j = 12 ∨ j = 13 ∨ j = 14 ∨ j = 15 ∨ j = 16 ∨ j = 17 ∨ j = 18 ∨ j = 19 ∨ j = 20 ∨ j = 21 ∨ j = 22 ∨ j = 23 ∨ j = 24 ∨ j = 25 ∨ j = 26 ∨ j = 27 ∨ j = 28 ∨ j = 29 ∨ j = 30 ∨ j = 31 ∨ j = 32 ∨ j = 33 ∨ j = 34 ∨ j = 35 ∨ j = 36 ∨ j = 37 ∨ j = 38 ∨ j = 39 by omega) with ej | ej | ej | ej | ej | ej | ej | ej | ej | ej | ej | ej | ej | ej | ej | ej | ej | ej | ej | ej | ej | ej | ej | ej | ej | ej | ej | ej | ej | ej | ej | ej | ej | ej | ej | ej | ej | ej | ej | ej <;> subst ej
        · refine lv_tableIn (off := 176) (tgt := 208) hx hb dL_law_32 (by decide) (by decide) (by decide) (by decide) ?_
          exact lwk_addLayer C0 hK hE o_addLayer h1 h2 K X M C F H T S hR Hh locs ls hP hD hS hl
        · refine lv_tableIn (off := 209) (tgt := 241) hx hb dL_law_32 (by decide) (by decide) (by decide) (by decide) ?_
          exact lwk_removeLowest C0 hK hE o_removeLowest  K X M C F H T S hR Hh locs ls hP hD hS hl
        · refine lv_tableIn (off := 222) (tgt := 254) hx hb dL_law_32 (by decide) (by decide) (by decide) (by decide) ?_
          exact lwk_divide C0 hK hE o_divide h1 h2 K X M C F H T S hR Hh locs ls hP hD hS hl
        · refine lv_tableIn (off := 255) (tgt := 287) hx hb dL_law_32 (by decide) (by decide) (by decide) (by decide) ?_
          exact lwk_setBed C0 hK hE o_setBed h1 K X M C F H T S hR Hh locs ls hP hD hS hl
        · refine lv_tableIn (off := 278) (tgt := 310) hx hb dL_law_32 (by decide) (by decide) (by decide) (by decide) ?_
          exact lwk_setFunction C0 hK hE o_setFunction h1 K X M C F H T S hR Hh locs ls hP hD hS hl
        · refine lv_tableIn (off := 301) (tgt := 333) hx hb dL_law_32 (by decide) (by decide) (by decide) (by decide) ?_
          exact lwk_setKink C0 hK hE o_setKink h1 K X M C F H T S hR Hh locs ls hP hD hS hl
        · refine lv_tableIn (off := 324) (tgt := 356) hx hb dL_law_32 (by decide) (by decide) (by decide) (by decide) ?_
          exact lwk_tellThinning C0 hK hE o_tellThinning h1 h2 K X M C F H T S hR Hh locs ls hP hD hS hl
        · refine lv_tableIn (off := 357) (tgt := 389) hx hb dL_law_32 (by decide) (by decide) (by decide) (by decide) ?_
          exact lwk_correct C0 hK hE o_correct h1 h2 K X M C F H T S hR Hh locs ls hP hD hS hl
        · refine lv_tableIn (off := 390) (tgt := 422) hx hb dL_law_32 (by decide) (by decide) (by decide) (by decide) ?_
          exact lwk_setCloseOff C0 hK hE o_setCloseOff h1 K X M C F H T S hR Hh locs ls hP hD hS hl
        · refine lv_tableIn (off := 413) (tgt := 445) hx hb dL_law_32 (by decide) (by decide) (by decide) (by decide) ?_
          exact lwk_setAsh C0 hK hE o_setAsh h1 h2 h3 K X M C F H T S hR Hh locs ls hP hD hS hl
        · refine lv_tableIn (off := 456) (tgt := 488) hx hb dL_law_32 (by decide) (by decide) (by decide) (by decide) ?_
          exact lwk_removeAsh C0 hK hE o_removeAsh h1 K X M C F H T S hR Hh locs ls hP hD hS hl
        · refine lv_tableIn (off := 479) (tgt := 511) hx hb dL_law_32 (by decide) (by decide) (by decide) (by decide) ?_
          exact lwk_setCount C0 hK hE o_setCount h1 h2 K X M C F H T S hR Hh locs ls hP hD hS hl
        · refine lv_tableIn (off := 512) (tgt := 544) hx hb dL_law_32 (by decide) (by decide) (by decide) (by decide) ?_
          exact lwk_tune C0 hK hE o_tune  K X M C F H T S hR Hh locs ls hP hD hS hl
        · refine lv_tableIn (off := 525) (tgt := 557) hx hb dL_law_32 (by decide) (by decide) (by decide) (by decide) ?_
          exact lwk_undo C0 hK hE o_undo  K X M C F H T S hR Hh locs ls hP hD hS hl
        · refine lv_tableIn (off := 538) (tgt := 570) hx hb dL_law_32 (by decide) (by decide) (by decide) (by decide) ?_
          exact lwk_type C0 hK hE o_type h1 K X M C F H T S hR Hh locs ls hP hD hS hl
        · refine lv_tableIn (off := 561) (tgt := 593) hx hb dL_law_32 (by decide) (by decide) (by decide) (by decide) ?_
          exact lwk_clearText C0 hK hE o_clearText  K X M C F H T S hR Hh locs ls hP hD hS hl
        · refine lv_tableIn (off := 574) (tgt := 606) hx hb dL_law_32 (by decide) (by decide) (by decide) (by decide) ?_
          exact lwk_run C0 hK hE o_run  K X M C F H T S hR Hh locs ls hP hD hS hl
        · refine lv_tableIn (off := 587) (tgt := 619) hx hb dL_law_32 (by decide) (by decide) (by decide) (by decide) ?_
          exact lwk_failure C0 hK hE o_failure  K X M C F H T S hR Hh locs ls hP hD hS hl
        · refine lv_tableIn (off := 600) (tgt := 632) hx hb dL_law_32 (by decide) (by decide) (by decide) (by decide) ?_
          exact lwk_layers C0 hK hE o_layers  K X M C F H T S hR Hh locs ls hP hD hS hl
        · refine lv_tableIn (off := 613) (tgt := 645) hx hb dL_law_32 (by decide) (by decide) (by decide) (by decide) ?_
          exact lwk_depth C0 hK hE o_depth  K X M C F H T S hR Hh locs ls hP hD hS hl
        · refine lv_tableIn (off := 626) (tgt := 658) hx hb dL_law_32 (by decide) (by decide) (by decide) (by decide) ?_
          exact lwk_thickness C0 hK hE o_thickness h1 K X M C F H T S hR Hh locs ls hP hD hS hl
        · refine lv_tableIn (off := 649) (tgt := 681) hx hb dL_law_32 (by decide) (by decide) (by decide) (by decide) ?_
          exact lwk_accumulation C0 hK hE o_accumulation h1 K X M C F H T S hR Hh locs ls hP hD hS hl
        · refine lv_tableIn (off := 672) (tgt := 704) hx hb dL_law_32 (by decide) (by decide) (by decide) (by decide) ?_
          exact lwk_correction C0 hK hE o_correction h1 K X M C F H T S hR Hh locs ls hP hD hS hl
        · refine lv_tableIn (off := 695) (tgt := 727) hx hb dL_law_32 (by decide) (by decide) (by decide) (by decide) ?_
          exact lwk_thinning C0 hK hE o_thinning h1 K X M C F H T S hR Hh locs ls hP hD hS hl
        · refine lv_tableIn (off := 718) (tgt := 750) hx hb dL_law_32 (by decide) (by decide) (by decide) (by decide) ?_
          exact lwk_years C0 hK hE o_years h1 K X M C F H T S hR Hh locs ls hP hD hS hl
        · refine lv_tableIn (off := 741) (tgt := 773) hx hb dL_law_32 (by decide) (by decide) (by decide) (by decide) ?_
          exact lwk_delay C0 hK hE o_delay h1 K X M C F H T S hR Hh locs ls hP hD hS hl
        · refine lv_tableIn (off := 764) (tgt := 796) hx hb dL_law_32 (by decide) (by decide) (by decide) (by decide) ?_
          exact lwk_residual C0 hK hE o_residual h1 K X M C F H T S hR Hh locs ls hP hD hS hl
        · refine lv_tableIn (off := 787) (tgt := 819) hx hb dL_law_32 (by decide) (by decide) (by decide) (by decide) ?_
          exact lwk_countError C0 hK hE o_countError h1 K X M C F H T S hR Hh locs ls hP hD hS hl
        · refine lv_tableIn (off := 810) (tgt := 842) hx hb dL_law_32 (by decide) (by decide) (by decide) (by decide) ?_
          exact lwk_fitting C0 hK hE o_fitting  K X M C F H T S hR Hh locs ls hP hD hS hl
        · refine lv_tableIn (off := 823) (tgt := 855) hx hb dL_law_32 (by decide) (by decide) (by decide) (by decide) ?_
          exact lwk_age C0 hK hE o_age h1 K X M C F H T S hR Hh locs ls hP hD hS hl
        · refine lv_tableIn (off := 846) (tgt := 878) hx hb dL_law_32 (by decide) (by decide) (by decide) (by decide) ?_
          exact lwk_gasAge C0 hK hE o_gasAge h1 K X M C F H T S hR Hh locs ls hP hD hS hl
        · refine lv_tableIn (off := 869) (tgt := 901) hx hb dL_law_32 (by decide) (by decide) (by decide) (by decide) ?_
          exact lwk_depthOf C0 hK hE o_depthOf h1 K X M C F H T S hR Hh locs ls hP hD hS hl
        · refine lv_tableIn (off := 892) (tgt := 924) hx hb dL_law_32 (by decide) (by decide) (by decide) (by decide) ?_
          exact lwk_gasDepthOf C0 hK hE o_gasDepthOf h1 K X M C F H T S hR Hh locs ls hP hD hS hl
        · refine lv_tableIn (off := 915) (tgt := 947) hx hb dL_law_32 (by decide) (by decide) (by decide) (by decide) ?_
          exact lwk_lead C0 hK hE o_lead h1 h2 K X M C F H T S hR Hh locs ls hP hD hS hl
        · refine lv_tableIn (off := 948) (tgt := 980) hx hb dL_law_32 (by decide) (by decide) (by decide) (by decide) ?_
          exact lwk_inversions C0 hK hE o_inversions  K X M C F H T S hR Hh locs ls hP hD hS hl
        · refine lv_tableIn (off := 961) (tgt := 993) hx hb dL_law_32 (by decide) (by decide) (by decide) (by decide) ?_
          exact lwk_acts C0 hK hE o_acts  K X M C F H T S hR Hh locs ls hP hD hS hl
        · refine lv_tableIn (off := 974) (tgt := 1006) hx hb dL_law_32 (by decide) (by decide) (by decide) (by decide) ?_
          exact lwk_seal C0 hK hE o_seal  K X M C F H T S hR Hh locs ls hP hD hS hl
        · refine lv_tableIn (off := 987) (tgt := 1019) hx hb dL_law_32 (by decide) (by decide) (by decide) (by decide) ?_
          exact lwk_bestFunction C0 hK hE o_bestFunction  K X M C F H T S hR Hh locs ls hP hD hS hl
        · refine lv_tableIn (off := 1000) (tgt := 1032) hx hb dL_law_32 (by decide) (by decide) (by decide) (by decide) ?_
          exact lwk_bestKink C0 hK hE o_bestKink  K X M C F H T S hR Hh locs ls hP hD hS hl
        · refine lv_tableIn (off := 1013) (tgt := 1045) hx hb dL_law_32 (by decide) (by decide) (by decide) (by decide) ?_
          exact lwk_neededAccumulation C0 hK hE o_neededAccumulation h1 K X M C F H T S hR Hh locs ls hP hD hS hl
      · refine lv_tableOut (tgt := 1068) hx hb dL_law_32 (Or.inr ?_) (by decide) ?_
        · rw [ez, nI_toInt (by omega)]
          omega
        · exact K X M C F H T S hR Hh locs ls hP hD hS hl
set_option maxHeartbeats 4000000 in
set_option maxRecDepth 100000 in
theorem lw_all {p : Program} {e : Env} {s : State} {m : MethodId} {below : List Frame} {meth : Method} {c : Code} (l : Launch) {b L : Nat} {xs : Nat → Int32} (hL : L ≤ 2048) (C0 : lw_At p s m meth c b L xs) (RR : KX → KM → KC → KF → KH → KT → KS → Prop) (hR0 : RR kX0 kM0 kC0 kF0 kH0 kT0 (fun _ => kC0)) (o_addLayer : hop_addLayer RR) (o_removeLowest : hop_removeLowest RR) (o_divide : hop_divide RR) (o_setBed : hop_setBed RR) (o_setFunction : hop_setFunction RR) (o_setKink : hop_setKink RR) (o_tellThinning : hop_tellThinning RR) (o_correct : hop_correct RR) (o_setCloseOff : hop_setCloseOff RR) (o_setAsh : hop_setAsh RR) (o_removeAsh : hop_removeAsh RR) (o_setCount : hop_setCount RR) (o_tune : hop_tune RR) (o_undo : hop_undo RR) (o_type : hop_type RR) (o_clearText : hop_clearText RR) (o_run : hop_run RR) (o_failure : hop_failure RR) (o_layers : hop_layers RR) (o_depth : hop_depth RR) (o_thickness : hop_thickness RR) (o_accumulation : hop_accumulation RR) (o_correction : hop_correction RR) (o_thinning : hop_thinning RR) (o_years : hop_years RR) (o_delay : hop_delay RR) (o_residual : hop_residual RR) (o_countError : hop_countError RR) (o_fitting : hop_fitting RR) (o_age : hop_age RR) (o_gasAge : hop_gasAge RR) (o_depthOf : hop_depthOf RR) (o_gasDepthOf : hop_gasDepthOf RR) (o_lead : hop_lead RR) (o_inversions : hop_inversions RR) (o_acts : hop_acts RR) (o_seal : hop_seal RR) (o_bestFunction : hop_bestFunction RR) (o_bestKink : hop_bestKink RR) (o_neededAccumulation : hop_neededAccumulation RR) : W p l e room_1 s m #[Value.ref b] below meth c s.heap [] 0 0 (lw_Z below #[Value.ref b] s) (entryFrame m ([Value.ref b] : List Value).toArray 4) := by
  obtain ⟨hx, hb, hr, hml, hown, hts0, hX, hbl, hlocks, hgv⟩ := id C0
  have hts : ∀ w ∈ wsL_law, w.before #[Value.ref b] s = true := fun w h => hts0 w (wsL_law_in w h)
  have hA : ∀ q : Nat, s.heap.size ≤ q → (fun q : Nat => s.heap.size ≤ q) q := fun _ h => h
  obtain ⟨adK, adV, hE⟩ := lw_str hts0 hgv
  obtain ⟨D, ty, hK⟩ := lw_kK hts0
  have hov : va_AO RX0 s := (hts0 (.arrayOver (.object "IceCoreDater$Core")) (List.mem_of_getElem? (i := 121) (by decide +kernel)))
  have hS : va_S (fun q : Nat => s.heap.size ≤ q) s.heap s.heap [] := va_S.rf
  have hP : va_P D vwCl ([] : va_W) s.heap := fun k q h => by simp at h
  have hD : va_D (fun q : Nat => s.heap.size ≤ q) ([] : va_W) := ⟨fun i j p q h => by simp at h, fun k q h => by simp at h⟩
  have hl := lv_entry ([.ref b]) (n := 4) (Nat.le_of_ble_eq_true rfl)
  rw [lg_entry_eq]
  generalize (lg_sl ([.ref b]) ++ List.replicate (4 - (lg_sl ([.ref b])).length) Slot.unset).toArray = ls at hl ⊢
  have hl : lv_has ls 4 [(0, .ref b)] := hl
  refine va_new (ci := 4) (fs := [.null, .null, .null, .null, .int 0, .int 0]) (C := RX4) (T := TX4) (N := 6) hx hb hts0 wsLi_X4 tyX4 tyX4_ok hown (hts0 (.classLink RL 7 RX4) (List.mem_of_getElem? (i := 55) (by decide +kernel))) (hts0 (.instantiable RX4 6) (List.mem_of_getElem? (i := 56) (by decide +kernel))) (hts0 (.initialized RX4) (List.mem_of_getElem? (i := 43) (by decide +kernel))) hK.1 hP hD hS hA rfl (fun j hj => by rcases (show j = 0 ∨ j = 1 ∨ j = 2 ∨ j = 3 ∨ j = 4 ∨ j = 5 by omega) with rfl | rfl | rfl | rfl | rfl | rfl <;> rfl) (Nat.le_of_ble_eq_true rfl) (Nat.le_of_ble_eq_true rfl) dL_law_0 (fun q1 H hP hD hS => ?_)
  have hP : va_P D vwCl ([(q1, .inr (4, [.null, .null, .null, .null, .int 0, .int 0]))] : va_W) H := hP
  have hD : va_D (fun q : Nat => s.heap.size ≤ q) ([(q1, .inr (4, [.null, .null, .null, .null, .int 0, .int 0]))] : va_W) := hD
  refine W.widen (k := 1) (n := 6) (by omega) (by omega) ?_
  refine lv_dup hx hb dL_law_3 rfl ?_
  have hFc := va_free (wc := ([(q1, .inr (4, [.null, .null, .null, .null, .int 0, .int 0]))] : va_W)) hD hS hA [0] rfl
  refine va_callv (va_runI (As := []) (rest := [.ref q1]) ⟨hx, hb, hml, hown, hts⟩ (cX4_init_ok l D ty q1 H.size) (cwI 0 hts gL_law_X4_init rfl rfl rfl (hts0 (.initialized RX4) (List.mem_of_getElem? (i := 43) (by decide +kernel))) (hts0 (.methodLink RL 9 yX4_init) (List.mem_of_getElem? (i := 57) (by decide +kernel))) (hts0 (.instanceMethod yX4_init) (List.mem_of_getElem? (i := 58) (by decide +kernel))) rfl (by decide +kernel) ⟨Nat.le_of_ble_eq_true rfl, Nat.le_of_ble_eq_true rfl⟩) ⟨kBo_blind _ _ _ _ _, fun U hU hW => ⟨rfl, kB_at hP hK hD U hU hW, va_AO.moved hW.alike hov⟩⟩ rfl rfl hl.1 rfl (lv_room (Nat.le_of_ble_eq_true rfl)) dL_law_4 ⟨Nat.le_of_ble_eq_true rfl, Nat.le_of_ble_eq_true rfl⟩) hS (fun q _ h => hFc q h) hFc (fun u t H1 locs ht hvm hw hB hz1 hk1 hS => ?_)
  obtain ⟨adC, adH, adF, adT, adS⟩ := u
  obtain ⟨hP1, hD1⟩ := hB
  rw [ht] at hP1
  have hP1 : va_P D vwCl (wX q1 adC adH adF adT kX0 ++ (wC ty adC kC0 ++ (wF ty adF kF0 ++ (wH ty adH adS kH0 ++ (wT ty adT kT0 ++ wS ty adS (fun _ => kC0)))))) H1 := hP1
  have hD1 : va_D (va_A ([(q1, .inr (4, [.null, .null, .null, .null, .int 0, .int 0]))] : va_W) H.size) (wX q1 adC adH adF adT kX0 ++ (wC ty adC kC0 ++ (wF ty adF kF0 ++ (wH ty adH adS kH0 ++ (wT ty adT kT0 ++ wS ty adS (fun _ => kC0)))))) := hD1
  obtain ⟨hP, hD⟩ := va_join (wr := []) (w1 := wX q1 adC adH adF adT kX0 ++ (wC ty adC kC0 ++ (wF ty adF kF0 ++ (wH ty adH adS kH0 ++ (wT ty adT kT0 ++ wS ty adS (fun _ => kC0)))))) hP hD [0] [] rfl rfl (by decide) (by decide) hk1 hFc hP1 hD1
  clear hP1 hD1 hk1 hFc
  generalize H1 = H at hP hS ⊢
  have hP : va_P D vwCl (wX q1 adC adH adF adT kX0 ++ (wC ty adC kC0 ++ (wF ty adF kF0 ++ (wH ty adH adS kH0 ++ (wT ty adT kT0 ++ wS ty adS (fun _ => kC0)))))) H := hP
  have hD : va_D (fun q : Nat => s.heap.size ≤ q) (wX q1 adC adH adF adT kX0 ++ (wC ty adC kC0 ++ (wF ty adF kF0 ++ (wH ty adH adS kH0 ++ (wT ty adT kT0 ++ wS ty adS (fun _ => kC0)))))) := hD
  refine W.widen (k := 90) (n := 1386) (by omega) (by omega) ?_
  refine lv_astore_n (lv' := [(1, .ref q1), (0, .ref b)]) hx hb dL_law_7 rfl hl (by decide) rfl (fun ls hl => ?_)
  refine va_new (ci := 5) (fs := [.null, .int 0, .null, .int 0, .int 0, .null, .null, .int 0, .int 0, .int 0, .null, .null]) (C := RX5) (T := TX5) (N := 12) hx hb hts0 wsLi_X5 tyX5 tyX5_ok hown (hts0 (.classLink RL 10 RX5) (List.mem_of_getElem? (i := 722) (by decide +kernel))) (hts0 (.instantiable RX5 12) (List.mem_of_getElem? (i := 723) (by decide +kernel))) (hts0 (.initialized RX5) (List.mem_of_getElem? (i := 48) (by decide +kernel))) hK.1 hP hD hS hA rfl (fun j hj => by rcases (show j = 0 ∨ j = 1 ∨ j = 2 ∨ j = 3 ∨ j = 4 ∨ j = 5 ∨ j = 6 ∨ j = 7 ∨ j = 8 ∨ j = 9 ∨ j = 10 ∨ j = 11 by omega) with rfl | rfl | rfl | rfl | rfl | rfl | rfl | rfl | rfl | rfl | rfl | rfl <;> rfl) (Nat.le_of_ble_eq_true rfl) (Nat.le_of_ble_eq_true rfl) dL_law_8 (fun q2 H hP hD hS => ?_)
  have hP : va_P D vwCl ((wX q1 adC adH adF adT kX0 ++ (wC ty adC kC0 ++ (wF ty adF kF0 ++ (wH ty adH adS kH0 ++ (wT ty adT kT0 ++ wS ty adS (fun _ => kC0)))))) ++ [(q2, .inr (5, [.null, .int 0, .null, .int 0, .int 0, .null, .null, .int 0, .int 0, .int 0, .null, .null]))]) H := hP
  have hD : va_D (fun q : Nat => s.heap.size ≤ q) ((wX q1 adC adH adF adT kX0 ++ (wC ty adC kC0 ++ (wF ty adF kF0 ++ (wH ty adH adS kH0 ++ (wT ty adT kT0 ++ wS ty adS (fun _ => kC0)))))) ++ [(q2, .inr (5, [.null, .int 0, .null, .int 0, .int 0, .null, .null, .int 0, .int 0, .int 0, .null, .null]))]) := hD
  refine W.widen (k := 91) (n := 1398) (by omega) (by omega) ?_
  refine lv_dup hx hb dL_law_11 rfl ?_
  have hPc := hP.sub (ws' := ([(q2, .inr (5, [.null, .int 0, .null, .int 0, .int 0, .null, .null, .int 0, .int 0, .int 0, .null, .null]))] : va_W)) [90] rfl
  have hDc := hD.sub (ws' := ([(q2, .inr (5, [.null, .int 0, .null, .int 0, .int 0, .null, .null, .int 0, .int 0, .int 0, .null, .null]))] : va_W)) [90] (by decide) rfl
  have hFc := va_free (wc := ([(q2, .inr (5, [.null, .int 0, .null, .int 0, .int 0, .null, .null, .int 0, .int 0, .int 0, .null, .null]))] : va_W)) hD hS hA [90] rfl
  refine va_callv (va_runI (As := []) (rest := [.ref q2]) ⟨hx, hb, hml, hown, hts⟩ (cX5_init_ok l D ty q2 H.size) (cwI 0 hts gL_law_X5_init rfl rfl rfl (hts0 (.initialized RX5) (List.mem_of_getElem? (i := 48) (by decide +kernel))) (hts0 (.methodLink RL 12 yX5_init) (List.mem_of_getElem? (i := 724) (by decide +kernel))) (hts0 (.instanceMethod yX5_init) (List.mem_of_getElem? (i := 725) (by decide +kernel))) rfl (by decide +kernel) ⟨Nat.le_of_ble_eq_true rfl, Nat.le_of_ble_eq_true rfl⟩) ⟨kB_blind _ _ _ _ _, fun U hU hW => ⟨rfl, kB_at hPc hK hDc U hU hW⟩⟩ rfl rfl hl.1 rfl (lv_room (Nat.le_of_ble_eq_true rfl)) dL_law_12 ⟨Nat.le_of_ble_eq_true rfl, Nat.le_of_ble_eq_true rfl⟩) hS (fun q _ h => hFc q h) hFc (fun u t H1 locs ht hvm hw hB hz1 hk1 hS => ?_)
  obtain ⟨adM, rfl⟩ : ∃ z, z = u := ⟨_, rfl⟩
  obtain ⟨hP1, hD1⟩ := hB
  rw [ht] at hP1
  have hw : adM 0 = q2 := hw
  subst hw
  obtain ⟨hP, hD⟩ := va_join (wr := wX q1 adC adH adF adT kX0 ++ (wC ty adC kC0 ++ (wF ty adF kF0 ++ (wH ty adH adS kH0 ++ (wT ty adT kT0 ++ wS ty adS (fun _ => kC0)))))) (w1 := wM ty adM kM0) hP hD [90] [0, 1, 2, 3, 4, 5, 6, 7, 8, 9, 10, 11, 12, 13, 14, 15, 16, 17, 18, 19, 20, 21, 22, 23, 24, 25, 26, 27, 28, 29, 30, 31, 32, 33, 34, 35, 36, 37, 38, 39, 40, 41, 42, 43, 44, 45, 46, 47, 48, 49, 50, 51, 52, 53, 54, 55, 56, 57, 58, 59, 60, 61, 62, 63, 64, 65, 66, 67, 68, 69, 70, 71, 72, 73, 74, 75, 76, 77, 78, 79, 80, 81, 82, 83, 84, 85, 86, 87, 88, 89] rfl rfl (by decide +kernel) (by decide +kernel) hk1 hFc hP1 hD1
  clear hPc hDc hP1 hD1 hk1 hFc
  generalize H1 = H at hP hS ⊢
  refine W.widen (k := 600000) (n := 7302250) (Nat.le_of_ble_eq_true rfl) (Nat.le_of_ble_eq_true rfl) ?_
  refine lv_astore_n (lv' := [(2, .ref (adM 0)), (1, .ref q1), (0, .ref b)]) hx hb dL_law_15 rfl hl (by decide) rfl (fun ls hl => ?_)
  refine lv_iconst (v := 0) hx hb dL_law_16 (by decide) ?_
  refine lv_istore_n (lv' := [(3, .int 0), (2, .ref (adM 0)), (1, .ref q1), (0, .ref b)]) hx hb dL_law_17 rfl hl (by decide) rfl (fun ls hl => ?_)
  have hP9 := kSegP (sg := [wX q1 adC adH adF adT kX0, wC ty adC kC0, wF ty adF kF0, wH ty adH adS kH0, wT ty adT kT0, wS ty adS (fun _ => kC0), wM ty adM kM0]) (sc := [wX q1 adC adH adF adT kX0, wM ty adM kM0, wC ty adC kC0, wF ty adF kF0, wH ty adH adS kH0, wT ty adT kT0, wS ty adS (fun _ => kC0)]) (is := [0, 6, 1, 2, 3, 4, 5]) (H := H) (by simpa only [kFl, List.append_assoc] using hP) rfl
  have hD9 := kSegD (sg := [wX q1 adC adH adF adT kX0, wC ty adC kC0, wF ty adF kF0, wH ty adH adS kH0, wT ty adT kT0, wS ty adS (fun _ => kC0), wM ty adM kM0]) (sc := [wX q1 adC adH adF adT kX0, wM ty adM kM0, wC ty adC kC0, wF ty adF kF0, wH ty adH adS kH0, wT ty adT kT0, wS ty adS (fun _ => kC0)]) (is := [0, 6, 1, 2, 3, 4, 5]) (by simpa only [kFl, List.append_assoc] using hD) (by decide) rfl
  exact lw_loop hL C0 hK hE o_addLayer o_removeLowest o_divide o_setBed o_setFunction o_setKink o_tellThinning o_correct o_setCloseOff o_setAsh o_removeAsh o_setCount o_tune o_undo o_type o_clearText o_run o_failure o_layers o_depth o_thickness o_accumulation o_correction o_thinning o_years o_delay o_residual o_countError o_fitting o_age o_gasAge o_depthOf o_gasDepthOf o_lead o_inversions o_acts o_seal o_bestFunction o_bestKink o_neededAccumulation (L + 4) 0 (by omega) (by omega) 0 nI_0.symm kX0 kM0 kC0 kF0 kH0 kT0 (fun _ => kC0) hR0 H locs ls hP9 hD9 hS (lv_sub hl [3, 2, 1, 0] rfl)
