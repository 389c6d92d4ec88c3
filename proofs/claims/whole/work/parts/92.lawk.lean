section KLAW
variable {p : Program} {l : Launch} {e : Env} {s : State} {m : MethodId} {below : List Frame} {meth : Method} {c : Code} {b L : Nat} {xs : Nat → Int32} {D : va_G} {ty : kTy} {adK adV : Nat → Nat} {RR : KX → KM → KC → KF → KH → KT → KS → Prop} {aX : Nat} {adM adC adF adH adT : Nat → Nat} {adS : Nat → Nat → Nat} {x3 : Int32}
/-- the law, at a place, with any states that are tied -/
def lwK (p : Program) (l : Launch) (e : Env) (s : State) (m : MethodId) (below : List Frame) (meth : Method) (c : Code) (b : Nat) (D : va_G) (ty : kTy) (RR : KX → KM → KC → KF → KH → KT → KS → Prop) (aX : Nat) (adM adC adF adH adT : Nat → Nat) (adS : Nat → Nat → Nat) (x3 : Int32) (pc : Nat) : Prop := ∀ (X : KX) (M : KM) (C : KC) (F : KF) (H : KH) (T : KT) (S : KS), RR X M C F H T S → ∀ (Hh : Heap) (locs : List Loc) (ls : Array Slot), va_P D vwCl (kFl [wX aX adC adH adF adT X, wM ty adM M, wC ty adC C, wF ty adF F, wH ty adH adS H, wT ty adT T, wS ty adS S]) Hh → va_D (fun q : Nat => s.heap.size ≤ q) (kFl [wX aX adC adH adF adT X, wM ty adM M, wC ty adC C, wF ty adF F, wH ty adH adS H, wT ty adT T, wS ty adS S]) → va_S (fun q : Nat => s.heap.size ≤ q) s.heap Hh locs → lv_has ls 4 [(0, .ref b), (1, .ref aX), (2, .ref (adM 0)), (3, .int x3)] → W p l e room_1 s m #[Value.ref b] below meth c Hh locs 600000 7302250 (lw_Z below #[Value.ref b] s) (F0 m pc ls [])
abbrev hop_addLayer (RR : KX → KM → KC → KF → KH → KT → KS → Prop) : Prop := ∀ (X : KX) (M : KM) (C : KC) (F : KF) (H : KH) (T : KT) (S : KS), RR X M C F H T S → ∀ a1 a2 : Int32, ∃ r X' M' C' H' S', fX4_addLayer X C H S a1 a2 = some (r, X', C', H', S') ∧ fX5_addLayer M a1 a2 = some (r, M') ∧ RR X' M' C' F H' T S'
set_option maxHeartbeats 4000000 in
set_option maxRecDepth 100000 in
theorem lwk_addLayer (C0 : lw_At p s m meth c b L xs) (hK : kK D ty s) (hE : kStr adK adV (fun q : Nat => s.heap.size ≤ q) s s.heap) (hop : hop_addLayer RR) (h1 : vp_in (x3 + 1) L) (h2 : vp_in (x3 + 2) L) (K : lwK p l e s m below meth c b D ty RR aX adM adC adF adH adT adS x3 1068) : lwK p l e s m below meth c b D ty RR aX adM adC adF adH adT adS x3 208 := by
  intro X M C F H T S hR Hh locs ls hP hD hS hl
  obtain ⟨hx, hb, hr, hml, hown, hts0, hX, hbl, hlocks, hgv⟩ := id C0
  have hts : ∀ w ∈ wsL_law, w.before #[Value.ref b] s = true := fun w h => hts0 w (wsL_law_in w h)
  have hA : ∀ q : Nat, s.heap.size ≤ q → (fun q : Nat => s.heap.size ≤ q) q := fun _ h => h
  have hbA : ¬ (fun q : Nat => s.heap.size ≤ q) b := Nat.not_le.mpr hbl
  obtain ⟨r, X', M', C', H', S', e4, e5, hR1⟩ := hop X M C F H T S hR (xs (x3 + 1).toNatClampNeg) (xs (x3 + 2).toNatClampNeg)
  refine lv_aload_n hx hb dL_law_208 rfl (lv_at hl 1 rfl) ?_
  refine lv_aload_n hx hb dL_law_209 rfl (lv_at hl 0 rfl) ?_
  refine lv_iload_n hx hb dL_law_210 rfl (lv_at hl 3 rfl) ?_
  refine lv_iconst (v := 1) hx hb dL_law_211 (by decide) ?_
  refine lv_iadd hx hb dL_law_212 ?_
  refine va_sld hx hb hX hbl hbA hS h1 dL_law_213 ?_
  refine lv_aload_n hx hb dL_law_214 rfl (lv_at hl 0 rfl) ?_
  refine lv_iload_n hx hb dL_law_215 rfl (lv_at hl 3 rfl) ?_
  refine lv_iconst (v := 2) hx hb dL_law_216 (by decide) ?_
  refine lv_iadd hx hb dL_law_217 ?_
  refine va_sld hx hb hX hbl hbA hS h2 dL_law_218 ?_
  refine kCallWI (r := r) (As := [.int (xs (x3 + 1).toNatClampNeg), .int (xs (x3 + 2).toNatClampNeg)]) (rest := []) (sg := [wX aX adC adH adF adT X, wM ty adM M, wC ty adC C, wF ty adF F, wH ty adH adS H, wT ty adT T, wS ty adS S]) (sc := [wX aX adC adH adF adT X, wC ty adC C, wH ty adH adS H, wS ty adS S]) (s1 := [wX aX adC adH adF adT X', wC ty adC C', wH ty adH adS H', wS ty adS S']) (sn := [wX aX adC adH adF adT X', wM ty adM M, wC ty adC C', wF ty adF F, wH ty adH adS H', wT ty adT T, wS ty adS S']) ⟨hx, hb, hml, hown, hts⟩ (cX4_addLayer_ok l D ty aX adC adF adH adT adS Hh.size X C H S (xs (x3 + 1).toNatClampNeg) (xs (x3 + 2).toNatClampNeg) (r, X', C', H', S') e4) (cwV 2 hts gL_law_X4_addLayer rfl rfl rfl (by decide +kernel) ⟨Nat.le_of_ble_eq_true rfl, Nat.le_of_ble_eq_true rfl⟩) hP hK hD hS hA [0, 2, 4, 6] (by decide) rfl 4 0 rfl rfl rfl rfl hl.1 rfl (Nat.le_of_ble_eq_true rfl) dL_law_219 ⟨Nat.le_of_ble_eq_true rfl, Nat.le_of_ble_eq_true rfl⟩ rfl rfl (fun Hh locs hP hD hS => ?_)
  refine lv_aload_n hx hb dL_law_222 rfl (lv_at hl 2 rfl) ?_
  refine lv_aload_n hx hb dL_law_223 rfl (lv_at hl 0 rfl) ?_
  refine lv_iload_n hx hb dL_law_224 rfl (lv_at hl 3 rfl) ?_
  refine lv_iconst (v := 1) hx hb dL_law_225 (by decide) ?_
  refine lv_iadd hx hb dL_law_226 ?_
  refine va_sld hx hb hX hbl hbA hS h1 dL_law_227 ?_
  refine lv_aload_n hx hb dL_law_228 rfl (lv_at hl 0 rfl) ?_
  refine lv_iload_n hx hb dL_law_229 rfl (lv_at hl 3 rfl) ?_
  refine lv_iconst (v := 2) hx hb dL_law_230 (by decide) ?_
  refine lv_iadd hx hb dL_law_231 ?_
  refine va_sld hx hb hX hbl hbA hS h2 dL_law_232 ?_
  refine kCallWI (r := r) (As := [.int (xs (x3 + 1).toNatClampNeg), .int (xs (x3 + 2).toNatClampNeg)]) (rest := [.int r]) (sg := [wX aX adC adH adF adT X', wM ty adM M, wC ty adC C', wF ty adF F, wH ty adH adS H', wT ty adT T, wS ty adS S']) (sc := [wM ty adM M]) (s1 := [wM ty adM M']) (sn := [wX aX adC adH adF adT X', wM ty adM M', wC ty adC C', wF ty adF F, wH ty adH adS H', wT ty adT T, wS ty adS S']) ⟨hx, hb, hml, hown, hts⟩ (cX5_addLayer_ok l D ty adM Hh.size M (xs (x3 + 1).toNatClampNeg) (xs (x3 + 2).toNatClampNeg) (r, M') e5) (cwV 2 hts gL_law_X5_addLayer rfl rfl rfl (by decide +kernel) ⟨Nat.le_of_ble_eq_true rfl, Nat.le_of_ble_eq_true rfl⟩) hP hK hD hS hA [1] (by decide) rfl 5 1 rfl rfl rfl rfl hl.1 rfl (Nat.le_of_ble_eq_true rfl) dL_law_233 ⟨Nat.le_of_ble_eq_true rfl, Nat.le_of_ble_eq_true rfl⟩ rfl rfl (fun Hh locs hP hD hS => ?_)
  refine lv_icmp_eq (tgt := 1068) hx hb dL_law_236 (by decide) (fun _ => ?_) (fun z => absurd rfl z)
  exact K X' M' C' F H' T S' hR1 Hh locs ls hP hD hS hl
abbrev hop_removeLowest (RR : KX → KM → KC → KF → KH → KT → KS → Prop) : Prop := ∀ (X : KX) (M : KM) (C : KC) (F : KF) (H : KH) (T : KT) (S : KS), RR X M C F H T S → ∃ r X' M' C' H' S', fX4_removeLowest X C H S = some (r, X', C', H', S') ∧ fX5_removeLowest M = some (r, M') ∧ RR X' M' C' F H' T S'
set_option maxHeartbeats 4000000 in
set_option maxRecDepth 100000 in
theorem lwk_removeLowest (C0 : lw_At p s m meth c b L xs) (hK : kK D ty s) (hE : kStr adK adV (fun q : Nat => s.heap.size ≤ q) s s.heap) (hop : hop_removeLowest RR) (K : lwK p l e s m below meth c b D ty RR aX adM adC adF adH adT adS x3 1068) : lwK p l e s m below meth c b D ty RR aX adM adC adF adH adT adS x3 241 := by
  intro X M C F H T S hR Hh locs ls hP hD hS hl
  obtain ⟨hx, hb, hr, hml, hown, hts0, hX, hbl, hlocks, hgv⟩ := id C0
  have hts : ∀ w ∈ wsL_law, w.before #[Value.ref b] s = true := fun w h => hts0 w (wsL_law_in w h)
  have hA : ∀ q : Nat, s.heap.size ≤ q → (fun q : Nat => s.heap.size ≤ q) q := fun _ h => h
  have hbA : ¬ (fun q : Nat => s.heap.size ≤ q) b := Nat.not_le.mpr hbl
  obtain ⟨r, X', M', C', H', S', e4, e5, hR1⟩ := hop X M C F H T S hR 
  refine lv_aload_n hx hb dL_law_241 rfl (lv_at hl 1 rfl) ?_
  refine kCallWI (r := r) (As := []) (rest := []) (sg := [wX aX adC adH adF adT X, wM ty adM M, wC ty adC C, wF ty adF F, wH ty adH adS H, wT ty adT T, wS ty adS S]) (sc := [wX aX adC adH adF adT X, wC ty adC C, wH ty adH adS H, wS ty adS S]) (s1 := [wX aX adC adH adF adT X', wC ty adC C', wH ty adH adS H', wS ty adS S']) (sn := [wX aX adC adH adF adT X', wM ty adM M, wC ty adC C', wF ty adF F, wH ty adH adS H', wT ty adT T, wS ty adS S']) ⟨hx, hb, hml, hown, hts⟩ (cX4_removeLowest_ok l D ty aX adC adF adH adT adS Hh.size X C H S (r, X', C', H', S') e4) (cwV 0 hts gL_law_X4_removeLowest rfl rfl rfl (by decide +kernel) ⟨Nat.le_of_ble_eq_true rfl, Nat.le_of_ble_eq_true rfl⟩) hP hK hD hS hA [0, 2, 4, 6] (by decide) rfl 4 0 rfl rfl rfl rfl hl.1 rfl (Nat.le_of_ble_eq_true rfl) dL_law_242 ⟨Nat.le_of_ble_eq_true rfl, Nat.le_of_ble_eq_true rfl⟩ rfl rfl (fun Hh locs hP hD hS => ?_)
  refine lv_aload_n hx hb dL_law_245 rfl (lv_at hl 2 rfl) ?_
  refine kCallWI (r := r) (As := []) (rest := [.int r]) (sg := [wX aX adC adH adF adT X', wM ty adM M, wC ty adC C', wF ty adF F, wH ty adH adS H', wT ty adT T, wS ty adS S']) (sc := [wM ty adM M]) (s1 := [wM ty adM M']) (sn := [wX aX adC adH adF adT X', wM ty adM M', wC ty adC C', wF ty adF F, wH ty adH adS H', wT ty adT T, wS ty adS S']) ⟨hx, hb, hml, hown, hts⟩ (cX5_removeLowest_ok l D ty adM Hh.size M (r, M') e5) (cwV 0 hts gL_law_X5_removeLowest rfl rfl rfl (by decide +kernel) ⟨Nat.le_of_ble_eq_true rfl, Nat.le_of_ble_eq_true rfl⟩) hP hK hD hS hA [1] (by decide) rfl 5 1 rfl rfl rfl rfl hl.1 rfl (Nat.le_of_ble_eq_true rfl) dL_law_246 ⟨Nat.le_of_ble_eq_true rfl, Nat.le_of_ble_eq_true rfl⟩ rfl rfl (fun Hh locs hP hD hS => ?_)
  refine lv_icmp_eq (tgt := 1068) hx hb dL_law_249 (by decide) (fun _ => ?_) (fun z => absurd rfl z)
  exact K X' M' C' F H' T S' hR1 Hh locs ls hP hD hS hl
abbrev hop_divide (RR : KX → KM → KC → KF → KH → KT → KS → Prop) : Prop := ∀ (X : KX) (M : KM) (C : KC) (F : KF) (H : KH) (T : KT) (S : KS), RR X M C F H T S → ∀ a1 a2 : Int32, ∃ r X' M' C' H' S', fX4_divide X C H S a1 a2 = some (r, X', C', H', S') ∧ fX5_divide M a1 a2 = some (r, M') ∧ RR X' M' C' F H' T S'
set_option maxHeartbeats 4000000 in
set_option maxRecDepth 100000 in
theorem lwk_divide (C0 : lw_At p s m meth c b L xs) (hK : kK D ty s) (hE : kStr adK adV (fun q : Nat => s.heap.size ≤ q) s s.heap) (hop : hop_divide RR) (h1 : vp_in (x3 + 1) L) (h2 : vp_in (x3 + 2) L) (K : lwK p l e s m below meth c b D ty RR aX adM adC adF adH adT adS x3 1068) : lwK p l e s m below meth c b D ty RR aX adM adC adF adH adT adS x3 254 := by
  intro X M C F H T S hR Hh locs ls hP hD hS hl
  obtain ⟨hx, hb, hr, hml, hown, hts0, hX, hbl, hlocks, hgv⟩ := id C0
  have hts : ∀ w ∈ wsL_law, w.before #[Value.ref b] s = true := fun w h => hts0 w (wsL_law_in w h)
  have hA : ∀ q : Nat, s.heap.size ≤ q → (fun q : Nat => s.heap.size ≤ q) q := fun _ h => h
  have hbA : ¬ (fun q : Nat => s.heap.size ≤ q) b := Nat.not_le.mpr hbl
  obtain ⟨r, X', M', C', H', S', e4, e5, hR1⟩ := hop X M C F H T S hR (xs (x3 + 1).toNatClampNeg) (xs (x3 + 2).toNatClampNeg)
  refine lv_aload_n hx hb dL_law_254 rfl (lv_at hl 1 rfl) ?_
  refine lv_aload_n hx hb dL_law_255 rfl (lv_at hl 0 rfl) ?_
  refine lv_iload_n hx hb dL_law_256 rfl (lv_at hl 3 rfl) ?_
  refine lv_iconst (v := 1) hx hb dL_law_257 (by decide) ?_
  refine lv_iadd hx hb dL_law_258 ?_
  refine va_sld hx hb hX hbl hbA hS h1 dL_law_259 ?_
  refine lv_aload_n hx hb dL_law_260 rfl (lv_at hl 0 rfl) ?_
  refine lv_iload_n hx hb dL_law_261 rfl (lv_at hl 3 rfl) ?_
  refine lv_iconst (v := 2) hx hb dL_law_262 (by decide) ?_
  refine lv_iadd hx hb dL_law_263 ?_
  refine va_sld hx hb hX hbl hbA hS h2 dL_law_264 ?_
  refine kCallWI (r := r) (As := [.int (xs (x3 + 1).toNatClampNeg), .int (xs (x3 + 2).toNatClampNeg)]) (rest := []) (sg := [wX aX adC adH adF adT X, wM ty adM M, wC ty adC C, wF ty adF F, wH ty adH adS H, wT ty adT T, wS ty adS S]) (sc := [wX aX adC adH adF adT X, wC ty adC C, wH ty adH adS H, wS ty adS S]) (s1 := [wX aX adC adH adF adT X', wC ty adC C', wH ty adH adS H', wS ty adS S']) (sn := [wX aX adC adH adF adT X', wM ty adM M, wC ty adC C', wF ty adF F, wH ty adH adS H', wT ty adT T, wS ty adS S']) ⟨hx, hb, hml, hown, hts⟩ (cX4_divide_ok l D ty aX adC adF adH adT adS Hh.size X C H S (xs (x3 + 1).toNatClampNeg) (xs (x3 + 2).toNatClampNeg) (r, X', C', H', S') e4) (cwV 2 hts gL_law_X4_divide rfl rfl rfl (by decide +kernel) ⟨Nat.le_of_ble_eq_true rfl, Nat.le_of_ble_eq_true rfl⟩) hP hK hD hS hA [0, 2, 4, 6] (by decide) rfl 4 0 rfl rfl rfl rfl hl.1 rfl (Nat.le_of_ble_eq_true rfl) dL_law_265 ⟨Nat.le_of_ble_eq_true rfl, Nat.le_of_ble_eq_true rfl⟩ rfl rfl (fun Hh locs hP hD hS => ?_)
  refine lv_aload_n hx hb dL_law_268 rfl (lv_at hl 2 rfl) ?_
  refine lv_aload_n hx hb dL_law_269 rfl (lv_at hl 0 rfl) ?_
  refine lv_iload_n hx hb dL_law_270 rfl (lv_at hl 3 rfl) ?_
  refine lv_iconst (v := 1) hx hb dL_law_271 (by decide) ?_
  refine lv_iadd hx hb dL_law_272 ?_
  refine va_sld hx hb hX hbl hbA hS h1 dL_law_273 ?_
  refine lv_aload_n hx hb dL_law_274 rfl (lv_at hl 0 rfl) ?_
  refine lv_iload_n hx hb dL_law_275 rfl (lv_at hl 3 rfl) ?_
  refine lv_iconst (v := 2) hx hb dL_law_276 (by decide) ?_
  refine lv_iadd hx hb dL_law_277 ?_
  refine va_sld hx hb hX hbl hbA hS h2 dL_law_278 ?_
  refine kCallWI (r := r) (As := [.int (xs (x3 + 1).toNatClampNeg), .int (xs (x3 + 2).toNatClampNeg)]) (rest := [.int r]) (sg := [wX aX adC adH adF adT X', wM ty adM M, wC ty adC C', wF ty adF F, wH ty adH adS H', wT ty adT T, wS ty adS S']) (sc := [wM ty adM M]) (s1 := [wM ty adM M']) (sn := [wX aX adC adH adF adT X', wM ty adM M', wC ty adC C', wF ty adF F, wH ty adH adS H', wT ty adT T, wS ty adS S']) ⟨hx, hb, hml, hown, hts⟩ (cX5_divide_ok l D ty adM Hh.size M (xs (x3 + 1).toNatClampNeg) (xs (x3 + 2).toNatClampNeg) (r, M') e5) (cwV 2 hts gL_law_X5_divide rfl rfl rfl (by decide +kernel) ⟨Nat.le_of_ble_eq_true rfl, Nat.le_of_ble_eq_true rfl⟩) hP hK hD hS hA [1] (by decide) rfl 5 1 rfl rfl rfl rfl hl.1 rfl (Nat.le_of_ble_eq_true rfl) dL_law_279 ⟨Nat.le_of_ble_eq_true rfl, Nat.le_of_ble_eq_true rfl⟩ rfl rfl (fun Hh locs hP hD hS => ?_)
  refine lv_icmp_eq (tgt := 1068) hx hb dL_law_282 (by decide) (fun _ => ?_) (fun z => absurd rfl z)
  exact K X' M' C' F H' T S' hR1 Hh locs ls hP hD hS hl
abbrev hop_setBed (RR : KX → KM → KC → KF → KH → KT → KS → Prop) : Prop := ∀ (X : KX) (M : KM) (C : KC) (F : KF) (H : KH) (T : KT) (S : KS), RR X M C F H T S → ∀ a1 : Int32, ∃ r X' M' C' H' S', fX4_setBed X C H S a1 = some (r, X', C', H', S') ∧ fX5_setBed M a1 = some (r, M') ∧ RR X' M' C' F H' T S'
set_option maxHeartbeats 4000000 in
set_option maxRecDepth 100000 in
theorem lwk_setBed (C0 : lw_At p s m meth c b L xs) (hK : kK D ty s) (hE : kStr adK adV (fun q : Nat => s.heap.size ≤ q) s s.heap) (hop : hop_setBed RR) (h1 : vp_in (x3 + 1) L) (K : lwK p l e s m below meth c b D ty RR aX adM adC adF adH adT adS x3 1068) : lwK p l e s m below meth c b D ty RR aX adM adC adF adH adT adS x3 287 := by
  intro X M C F H T S hR Hh locs ls hP hD hS hl
  obtain ⟨hx, hb, hr, hml, hown, hts0, hX, hbl, hlocks, hgv⟩ := id C0
  have hts : ∀ w ∈ wsL_law, w.before #[Value.ref b] s = true := fun w h => hts0 w (wsL_law_in w h)
  have hA : ∀ q : Nat, s.heap.size ≤ q → (fun q : Nat => s.heap.size ≤ q) q := fun _ h => h
  have hbA : ¬ (fun q : Nat => s.heap.size ≤ q) b := Nat.not_le.mpr hbl
  obtain ⟨r, X', M', C', H', S', e4, e5, hR1⟩ := hop X M C F H T S hR (xs (x3 + 1).toNatClampNeg)
  refine lv_aload_n hx hb dL_law_287 rfl (lv_at hl 1 rfl) ?_
  refine lv_aload_n hx hb dL_law_288 rfl (lv_at hl 0 rfl) ?_
  refine lv_iload_n hx hb dL_law_289 rfl (lv_at hl 3 rfl) ?_
  refine lv_iconst (v := 1) hx hb dL_law_290 (by decide) ?_
  refine lv_iadd hx hb dL_law_291 ?_
  refine va_sld hx hb hX hbl hbA hS h1 dL_law_292 ?_
  refine kCallWI (r := r) (As := [.int (xs (x3 + 1).toNatClampNeg)]) (rest := []) (sg := [wX aX adC adH adF adT X, wM ty adM M, wC ty adC C, wF ty adF F, wH ty adH adS H, wT ty adT T, wS ty adS S]) (sc := [wX aX adC adH adF adT X, wC ty adC C, wH ty adH adS H, wS ty adS S]) (s1 := [wX aX adC adH adF adT X', wC ty adC C', wH ty adH adS H', wS ty adS S']) (sn := [wX aX adC adH adF adT X', wM ty adM M, wC ty adC C', wF ty adF F, wH ty adH adS H', wT ty adT T, wS ty adS S']) ⟨hx, hb, hml, hown, hts⟩ (cX4_setBed_ok l D ty aX adC adF adH adT adS Hh.size X C H S (xs (x3 + 1).toNatClampNeg) (r, X', C', H', S') e4) (cwV 1 hts gL_law_X4_setBed rfl rfl rfl (by decide +kernel) ⟨Nat.le_of_ble_eq_true rfl, Nat.le_of_ble_eq_true rfl⟩) hP hK hD hS hA [0, 2, 4, 6] (by decide) rfl 4 0 rfl rfl rfl rfl hl.1 rfl (Nat.le_of_ble_eq_true rfl) dL_law_293 ⟨Nat.le_of_ble_eq_true rfl, Nat.le_of_ble_eq_true rfl⟩ rfl rfl (fun Hh locs hP hD hS => ?_)
  refine lv_aload_n hx hb dL_law_296 rfl (lv_at hl 2 rfl) ?_
  refine lv_aload_n hx hb dL_law_297 rfl (lv_at hl 0 rfl) ?_
  refine lv_iload_n hx hb dL_law_298 rfl (lv_at hl 3 rfl) ?_
  refine lv_iconst (v := 1) hx hb dL_law_299 (by decide) ?_
  refine lv_iadd hx hb dL_law_300 ?_
  refine va_sld hx hb hX hbl hbA hS h1 dL_law_301 ?_
  refine kCallWI (r := r) (As := [.int (xs (x3 + 1).toNatClampNeg)]) (rest := [.int r]) (sg := [wX aX adC adH adF adT X', wM ty adM M, wC ty adC C', wF ty adF F, wH ty adH adS H', wT ty adT T, wS ty adS S']) (sc := [wM ty adM M]) (s1 := [wM ty adM M']) (sn := [wX aX adC adH adF adT X', wM ty adM M', wC ty adC C', wF ty adF F, wH ty adH adS H', wT ty adT T, wS ty adS S']) ⟨hx, hb, hml, hown, hts⟩ (cX5_setBed_ok l D ty adM Hh.size M (xs (x3 + 1).toNatClampNeg) (r, M') e5) (cwV 1 hts gL_law_X5_setBed rfl rfl rfl (by decide +kernel) ⟨Nat.le_of_ble_eq_true rfl, Nat.le_of_ble_eq_true rfl⟩) hP hK hD hS hA [1] (by decide) rfl 5 1 rfl rfl rfl rfl hl.1 rfl (Nat.le_of_ble_eq_true rfl) dL_law_302 ⟨Nat.le_of_ble_eq_true rfl, Nat.le_of_ble_eq_true rfl⟩ rfl rfl (fun Hh locs hP hD hS => ?_)
  refine lv_icmp_eq (tgt := 1068) hx hb dL_law_305 (by decide) (fun _ => ?_) (fun z => absurd rfl z)
  exact K X' M' C' F H' T S' hR1 Hh locs ls hP hD hS hl
abbrev hop_setFunction (RR : KX → KM → KC → KF → KH → KT → KS → Prop) : Prop := ∀ (X : KX) (M : KM) (C : KC) (F : KF) (H : KH) (T : KT) (S : KS), RR X M C F H T S → ∀ a1 : Int32, ∃ r X' M' C' H' S', fX4_setFunction X C H S a1 = some (r, X', C', H', S') ∧ fX5_setFunction M a1 = some (r, M') ∧ RR X' M' C' F H' T S'
set_option maxHeartbeats 4000000 in
set_option maxRecDepth 100000 in
theorem lwk_setFunction (C0 : lw_At p s m meth c b L xs) (hK : kK D ty s) (hE : kStr adK adV (fun q : Nat => s.heap.size ≤ q) s s.heap) (hop : hop_setFunction RR) (h1 : vp_in (x3 + 1) L) (K : lwK p l e s m below meth c b D ty RR aX adM adC adF adH adT adS x3 1068) : lwK p l e s m below meth c b D ty RR aX adM adC adF adH adT adS x3 310 := by
  intro X M C F H T S hR Hh locs ls hP hD hS hl
  obtain ⟨hx, hb, hr, hml, hown, hts0, hX, hbl, hlocks, hgv⟩ := id C0
  have hts : ∀ w ∈ wsL_law, w.before #[Value.ref b] s = true := fun w h => hts0 w (wsL_law_in w h)
  have hA : ∀ q : Nat, s.heap.size ≤ q → (fun q : Nat => s.heap.size ≤ q) q := fun _ h => h
  have hbA : ¬ (fun q : Nat => s.heap.size ≤ q) b := Nat.not_le.mpr hbl
  obtain ⟨r, X', M', C', H', S', e4, e5, hR1⟩ := hop X M C F H T S hR (xs (x3 + 1).toNatClampNeg)
  refine lv_aload_n hx hb dL_law_310 rfl (lv_at hl 1 rfl) ?_
  refine lv_aload_n hx hb dL_law_311 rfl (lv_at hl 0 rfl) ?_
  refine lv_iload_n hx hb dL_law_312 rfl (lv_at hl 3 rfl) ?_
  refine lv_iconst (v := 1) hx hb dL_law_313 (by decide) ?_
  refine lv_iadd hx hb dL_law_314 ?_
  refine va_sld hx hb hX hbl hbA hS h1 dL_law_315 ?_
  refine kCallWI (r := r) (As := [.int (xs (x3 + 1).toNatClampNeg)]) (rest := []) (sg := [wX aX adC adH adF adT X, wM ty adM M, wC ty adC C, wF ty adF F, wH ty adH adS H, wT ty adT T, wS ty adS S]) (sc := [wX aX adC adH adF adT X, wC ty adC C, wH ty adH adS H, wS ty adS S]) (s1 := [wX aX adC adH adF adT X', wC ty adC C', wH ty adH adS H', wS ty adS S']) (sn := [wX aX adC adH adF adT X', wM ty adM M, wC ty adC C', wF ty adF F, wH ty adH adS H', wT ty adT T, wS ty adS S']) ⟨hx, hb, hml, hown, hts⟩ (cX4_setFunction_ok l D ty aX adC adF adH adT adS Hh.size X C H S (xs (x3 + 1).toNatClampNeg) (r, X', C', H', S') e4) (cwV 1 hts gL_law_X4_setFunction rfl rfl rfl (by decide +kernel) ⟨Nat.le_of_ble_eq_true rfl, Nat.le_of_ble_eq_true rfl⟩) hP hK hD hS hA [0, 2, 4, 6] (by decide) rfl 4 0 rfl rfl rfl rfl hl.1 rfl (Nat.le_of_ble_eq_true rfl) dL_law_316 ⟨Nat.le_of_ble_eq_true rfl, Nat.le_of_ble_eq_true rfl⟩ rfl rfl (fun Hh locs hP hD hS => ?_)
  refine lv_aload_n hx hb dL_law_319 rfl (lv_at hl 2 rfl) ?_
  refine lv_aload_n hx hb dL_law_320 rfl (lv_at hl 0 rfl) ?_
  refine lv_iload_n hx hb dL_law_321 rfl (lv_at hl 3 rfl) ?_
  refine lv_iconst (v := 1) hx hb dL_law_322 (by decide) ?_
  refine lv_iadd hx hb dL_law_323 ?_
  refine va_sld hx hb hX hbl hbA hS h1 dL_law_324 ?_
  refine kCallWI (r := r) (As := [.int (xs (x3 + 1).toNatClampNeg)]) (rest := [.int r]) (sg := [wX aX adC adH adF adT X', wM ty adM M, wC ty adC C', wF ty adF F, wH ty adH adS H', wT ty adT T, wS ty adS S']) (sc := [wM ty adM M]) (s1 := [wM ty adM M']) (sn := [wX aX adC adH adF adT X', wM ty adM M', wC ty adC C', wF ty adF F, wH ty adH adS H', wT ty adT T, wS ty adS S']) ⟨hx, hb, hml, hown, hts⟩ (cX5_setFunction_ok l D ty adM Hh.size M (xs (x3 + 1).toNatClampNeg) (r, M') e5) (cwV 1 hts gL_law_X5_setFunction rfl rfl rfl (by decide +kernel) ⟨Nat.le_of_ble_eq_true rfl, Nat.le_of_ble_eq_true rfl⟩) hP hK hD hS hA [1] (by decide) rfl 5 1 rfl rfl rfl rfl hl.1 rfl (Nat.le_of_ble_eq_true rfl) dL_law_325 ⟨Nat.le_of_ble_eq_true rfl, Nat.le_of_ble_eq_true rfl⟩ rfl rfl (fun Hh locs hP hD hS => ?_)
  refine lv_icmp_eq (tgt := 1068) hx hb dL_law_328 (by decide) (fun _ => ?_) (fun z => absurd rfl z)
  exact K X' M' C' F H' T S' hR1 Hh locs ls hP hD hS hl
abbrev hop_setKink (RR : KX → KM → KC → KF → KH → KT → KS → Prop) : Prop := ∀ (X : KX) (M : KM) (C : KC) (F : KF) (H : KH) (T : KT) (S : KS), RR X M C F H T S → ∀ a1 : Int32, ∃ r X' M' C' H' S', fX4_setKink X C H S a1 = some (r, X', C', H', S') ∧ fX5_setKink M a1 = some (r, M') ∧ RR X' M' C' F H' T S'
set_option maxHeartbeats 4000000 in
set_option maxRecDepth 100000 in
theorem lwk_setKink (C0 : lw_At p s m meth c b L xs) (hK : kK D ty s) (hE : kStr adK adV (fun q : Nat => s.heap.size ≤ q) s s.heap) (hop : hop_setKink RR) (h1 : vp_in (x3 + 1) L) (K : lwK p l e s m below meth c b D ty RR aX adM adC adF adH adT adS x3 1068) : lwK p l e s m below meth c b D ty RR aX adM adC adF adH adT adS x3 333 := by
  intro X M C F H T S hR Hh locs ls hP hD hS hl
  obtain ⟨hx, hb, hr, hml, hown, hts0, hX, hbl, hlocks, hgv⟩ := id C0
  have hts : ∀ w ∈ wsL_law, w.before #[Value.ref b] s = true := fun w h => hts0 w (wsL_law_in w h)
  have hA : ∀ q : Nat, s.heap.size ≤ q → (fun q : Nat => s.heap.size ≤ q) q := fun _ h => h
  have hbA : ¬ (fun q : Nat => s.heap.size ≤ q) b := Nat.not_le.mpr hbl
  obtain ⟨r, X', M', C', H', S', e4, e5, hR1⟩ := hop X M C F H T S hR (xs (x3 + 1).toNatClampNeg)
  refine lv_aload_n hx hb dL_law_333 rfl (lv_at hl 1 rfl) ?_
  refine lv_aload_n hx hb dL_law_334 rfl (lv_at hl 0 rfl) ?_
  refine lv_iload_n hx hb dL_law_335 rfl (lv_at hl 3 rfl) ?_
  refine lv_iconst (v := 1) hx hb dL_law_336 (by decide) ?_
  refine lv_iadd hx hb dL_law_337 ?_
  refine va_sld hx hb hX hbl hbA hS h1 dL_law_338 ?_
  refine kCallWI (r := r) (As := [.int (xs (x3 + 1).toNatClampNeg)]) (rest := []) (sg := [wX aX adC adH adF adT X, wM ty adM M, wC ty adC C, wF ty adF F, wH ty adH adS H, wT ty adT T, wS ty adS S]) (sc := [wX aX adC adH adF adT X, wC ty adC C, wH ty adH adS H, wS ty adS S]) (s1 := [wX aX adC adH adF adT X', wC ty adC C', wH ty adH adS H', wS ty adS S']) (sn := [wX aX adC adH adF adT X', wM ty adM M, wC ty adC C', wF ty adF F, wH ty adH adS H', wT ty adT T, wS ty adS S']) ⟨hx, hb, hml, hown, hts⟩ (cX4_setKink_ok l D ty aX adC adF adH adT adS Hh.size X C H S (xs (x3 + 1).toNatClampNeg) (r, X', C', H', S') e4) (cwV 1 hts gL_law_X4_setKink rfl rfl rfl (by decide +kernel) ⟨Nat.le_of_ble_eq_true rfl, Nat.le_of_ble_eq_true rfl⟩) hP hK hD hS hA [0, 2, 4, 6] (by decide) rfl 4 0 rfl rfl rfl rfl hl.1 rfl (Nat.le_of_ble_eq_true rfl) dL_law_339 ⟨Nat.le_of_ble_eq_true rfl, Nat.le_of_ble_eq_true rfl⟩ rfl rfl (fun Hh locs hP hD hS => ?_)
  refine lv_aload_n hx hb dL_law_342 rfl (lv_at hl 2 rfl) ?_
  refine lv_aload_n hx hb dL_law_343 rfl (lv_at hl 0 rfl) ?_
  refine lv_iload_n hx hb dL_law_344 rfl (lv_at hl 3 rfl) ?_
  refine lv_iconst (v := 1) hx hb dL_law_345 (by decide) ?_
  refine lv_iadd hx hb dL_law_346 ?_
  refine va_sld hx hb hX hbl hbA hS h1 dL_law_347 ?_
  refine kCallWI (r := r) (As := [.int (xs (x3 + 1).toNatClampNeg)]) (rest := [.int r]) (sg := [wX aX adC adH adF adT X', wM ty adM M, wC ty adC C', wF ty adF F, wH ty adH adS H', wT ty adT T, wS ty adS S']) (sc := [wM ty adM M]) (s1 := [wM ty adM M']) (sn := [wX aX adC adH adF adT X', wM ty adM M', wC ty adC C', wF ty adF F, wH ty adH adS H', wT ty adT T, wS ty adS S']) ⟨hx, hb, hml, hown, hts⟩ (cX5_setKink_ok l D ty adM Hh.size M (xs (x3 + 1).toNatClampNeg) (r, M') e5) (cwV 1 hts gL_law_X5_setKink rfl rfl rfl (by decide +kernel) ⟨Nat.le_of_ble_eq_true rfl, Nat.le_of_ble_eq_true rfl⟩) hP hK hD hS hA [1] (by decide) rfl 5 1 rfl rfl rfl rfl hl.1 rfl (Nat.le_of_ble_eq_true rfl) dL_law_348 ⟨Nat.le_of_ble_eq_true rfl, Nat.le_of_ble_eq_true rfl⟩ rfl rfl (fun Hh locs hP hD hS => ?_)
  refine lv_icmp_eq (tgt := 1068) hx hb dL_law_351 (by decide) (fun _ => ?_) (fun z => absurd rfl z)
  exact K X' M' C' F H' T S' hR1 Hh locs ls hP hD hS hl
abbrev hop_tellThinning (RR : KX → KM → KC → KF → KH → KT → KS → Prop) : Prop := ∀ (X : KX) (M : KM) (C : KC) (F : KF) (H : KH) (T : KT) (S : KS), RR X M C F H T S → ∀ a1 a2 : Int32, ∃ r X' M' C' H' S', fX4_tellThinning X C H S a1 a2 = some (r, X', C', H', S') ∧ fX5_tellThinning M a1 a2 = some (r, M') ∧ RR X' M' C' F H' T S'
set_option maxHeartbeats 4000000 in
set_option maxRecDepth 100000 in
theorem lwk_tellThinning (C0 : lw_At p s m meth c b L xs) (hK : kK D ty s) (hE : kStr adK adV (fun q : Nat => s.heap.size ≤ q) s s.heap) (hop : hop_tellThinning RR) (h1 : vp_in (x3 + 1) L) (h2 : vp_in (x3 + 2) L) (K : lwK p l e s m below meth c b D ty RR aX adM adC adF adH adT adS x3 1068) : lwK p l e s m below meth c b D ty RR aX adM adC adF adH adT adS x3 356 := by
  intro X M C F H T S hR Hh locs ls hP hD hS hl
  obtain ⟨hx, hb, hr, hml, hown, hts0, hX, hbl, hlocks, hgv⟩ := id C0
  have hts : ∀ w ∈ wsL_law, w.before #[Value.ref b] s = true := fun w h => hts0 w (wsL_law_in w h)
  have hA : ∀ q : Nat, s.heap.size ≤ q → (fun q : Nat => s.heap.size ≤ q) q := fun _ h => h
  have hbA : ¬ (fun q : Nat => s.heap.size ≤ q) b := Nat.not_le.mpr hbl
  obtain ⟨r, X', M', C', H', S', e4, e5, hR1⟩ := hop X M C F H T S hR (xs (x3 + 1).toNatClampNeg) (xs (x3 + 2).toNatClampNeg)
  refine lv_aload_n hx hb dL_law_356 rfl (lv_at hl 1 rfl) ?_
  refine lv_aload_n hx hb dL_law_357 rfl (lv_at hl 0 rfl) ?_
  refine lv_iload_n hx hb dL_law_358 rfl (lv_at hl 3 rfl) ?_
  refine lv_iconst (v := 1) hx hb dL_law_359 (by decide) ?_
  refine lv_iadd hx hb dL_law_360 ?_
  refine va_sld hx hb hX hbl hbA hS h1 dL_law_361 ?_
  refine lv_aload_n hx hb dL_law_362 rfl (lv_at hl 0 rfl) ?_
  refine lv_iload_n hx hb dL_law_363 rfl (lv_at hl 3 rfl) ?_
  refine lv_iconst (v := 2) hx hb dL_law_364 (by decide) ?_
  refine lv_iadd hx hb dL_law_365 ?_
  refine va_sld hx hb hX hbl hbA hS h2 dL_law_366 ?_
  refine kCallWI (r := r) (As := [.int (xs (x3 + 1).toNatClampNeg), .int (xs (x3 + 2).toNatClampNeg)]) (rest := []) (sg := [wX aX adC adH adF adT X, wM ty adM M, wC ty adC C, wF ty adF F, wH ty adH adS H, wT ty adT T, wS ty adS S]) (sc := [wX aX adC adH adF adT X, wC ty adC C, wH ty adH adS H, wS ty adS S]) (s1 := [wX aX adC adH adF adT X', wC ty adC C', wH ty adH adS H', wS ty adS S']) (sn := [wX aX adC adH adF adT X', wM ty adM M, wC ty adC C', wF ty adF F, wH ty adH adS H', wT ty adT T, wS ty adS S']) ⟨hx, hb, hml, hown, hts⟩ (cX4_tellThinning_ok l D ty aX adC adF adH adT adS Hh.size X C H S (xs (x3 + 1).toNatClampNeg) (xs (x3 + 2).toNatClampNeg) (r, X', C', H', S') e4) (cwV 2 hts gL_law_X4_tellThinning rfl rfl rfl (by decide +kernel) ⟨Nat.le_of_ble_eq_true rfl, Nat.le_of_ble_eq_true rfl⟩) hP hK hD hS hA [0, 2, 4, 6] (by decide) rfl 4 0 rfl rfl rfl rfl hl.1 rfl (Nat.le_of_ble_eq_true rfl) dL_law_367 ⟨Nat.le_of_ble_eq_true rfl, Nat.le_of_ble_eq_true rfl⟩ rfl rfl (fun Hh locs hP hD hS => ?_)
  refine lv_aload_n hx hb dL_law_370 rfl (lv_at hl 2 rfl) ?_
  refine lv_aload_n hx hb dL_law_371 rfl (lv_at hl 0 rfl) ?_
  refine lv_iload_n hx hb dL_law_372 rfl (lv_at hl 3 rfl) ?_
  refine lv_iconst (v := 1) hx hb dL_law_373 (by decide) ?_
  refine lv_iadd hx hb dL_law_374 ?_
  refine va_sld hx hb hX hbl hbA hS h1 dL_law_375 ?_
  refine lv_aload_n hx hb dL_law_376 rfl (lv_at hl 0 rfl) ?_
  refine lv_iload_n hx hb dL_law_377 rfl (lv_at hl 3 rfl) ?_
  refine lv_iconst (v := 2) hx hb dL_law_378 (by decide) ?_
  refine lv_iadd hx hb dL_law_379 ?_
  refine va_sld hx hb hX hbl hbA hS h2 dL_law_380 ?_
  refine kCallWI (r := r) (As := [.int (xs (x3 + 1).toNatClampNeg), .int (xs (x3 + 2).toNatClampNeg)]) (rest := [.int r]) (sg := [wX aX adC adH adF adT X', wM ty adM M, wC ty adC C', wF ty adF F, wH ty adH adS H', wT ty adT T, wS ty adS S']) (sc := [wM ty adM M]) (s1 := [wM ty adM M']) (sn := [wX aX adC adH adF adT X', wM ty adM M', wC ty adC C', wF ty adF F, wH ty adH adS H', wT ty adT T, wS ty adS S']) ⟨hx, hb, hml, hown, hts⟩ (cX5_tellThinning_ok l D ty adM Hh.size M (xs (x3 + 1).toNatClampNeg) (xs (x3 + 2).toNatClampNeg) (r, M') e5) (cwV 2 hts gL_law_X5_tellThinning rfl rfl rfl (by decide +kernel) ⟨Nat.le_of_ble_eq_true rfl, Nat.le_of_ble_eq_true rfl⟩) hP hK hD hS hA [1] (by decide) rfl 5 1 rfl rfl rfl rfl hl.1 rfl (Nat.le_of_ble_eq_true rfl) dL_law_381 ⟨Nat.le_of_ble_eq_true rfl, Nat.le_of_ble_eq_true rfl⟩ rfl rfl (fun Hh locs hP hD hS => ?_)
  refine lv_icmp_eq (tgt := 1068) hx hb dL_law_384 (by decide) (fun _ => ?_) (fun z => absurd rfl z)
  exact K X' M' C' F H' T S' hR1 Hh locs ls hP hD hS hl
abbrev hop_correct (RR : KX → KM → KC → KF → KH → KT → KS → Prop) : Prop := ∀ (X : KX) (M : KM) (C : KC) (F : KF) (H : KH) (T : KT) (S : KS), RR X M C F H T S → ∀ a1 a2 : Int32, ∃ r X' M' C' H' S', fX4_correct X C H S a1 a2 = some (r, X', C', H', S') ∧ fX5_correct M a1 a2 = some (r, M') ∧ RR X' M' C' F H' T S'
set_option maxHeartbeats 4000000 in
set_option maxRecDepth 100000 in
theorem lwk_correct (C0 : lw_At p s m meth c b L xs) (hK : kK D ty s) (hE : kStr adK adV (fun q : Nat => s.heap.size ≤ q) s s.heap) (hop : hop_correct RR) (h1 : vp_in (x3 + 1) L) (h2 : vp_in (x3 + 2) L) (K : lwK p l e s m below meth c b D ty RR aX adM adC adF adH adT adS x3 1068) : lwK p l e s m below meth c b D ty RR aX adM adC adF adH adT adS x3 389 := by
  intro X M C F H T S hR Hh locs ls hP hD hS hl
  obtain ⟨hx, hb, hr, hml, hown, hts0, hX, hbl, hlocks, hgv⟩ := id C0
  have hts : ∀ w ∈ wsL_law, w.before #[Value.ref b] s = true := fun w h => hts0 w (wsL_law_in w h)
  have hA : ∀ q : Nat, s.heap.size ≤ q → (fun q : Nat => s.heap.size ≤ q) q := fun _ h => h
  have hbA : ¬ (fun q : Nat => s.heap.size ≤ q) b := Nat.not_le.mpr hbl
  obtain ⟨r, X', M', C', H', S', e4, e5, hR1⟩ := hop X M C F H T S hR (xs (x3 + 1).toNatClampNeg) (xs (x3 + 2).toNatClampNeg)
  refine lv_aload_n hx hb dL_law_389 rfl (lv_at hl 1 rfl) ?_
  refine lv_aload_n hx hb dL_law_390 rfl (lv_at hl 0 rfl) ?_
  refine lv_iload_n hx hb dL_law_391 rfl (lv_at hl 3 rfl) ?_
  refine lv_iconst (v := 1) hx hb dL_law_392 (by decide) ?_
  refine lv_iadd hx hb dL_law_393 ?_
  refine va_sld hx hb hX hbl hbA hS h1 dL_law_394 ?_
  refine lv_aload_n hx hb dL_law_395 rfl (lv_at hl 0 rfl) ?_
  refine lv_iload_n hx hb dL_law_396 rfl (lv_at hl 3 rfl) ?_
  refine lv_iconst (v := 2) hx hb dL_law_397 (by decide) ?_
  refine lv_iadd hx hb dL_law_398 ?_
  refine va_sld hx hb hX hbl hbA hS h2 dL_law_399 ?_
  refine kCallWI (r := r) (As := [.int (xs (x3 + 1).toNatClampNeg), .int (xs (x3 + 2).toNatClampNeg)]) (rest := []) (sg := [wX aX adC adH adF adT X, wM ty adM M, wC ty adC C, wF ty adF F, wH ty adH adS H, wT ty adT T, wS ty adS S]) (sc := [wX aX adC adH adF adT X, wC ty adC C, wH ty adH adS H, wS ty adS S]) (s1 := [wX aX adC adH adF adT X', wC ty adC C', wH ty adH adS H', wS ty adS S']) (sn := [wX aX adC adH adF adT X', wM ty adM M, wC ty adC C', wF ty adF F, wH ty adH adS H', wT ty adT T, wS ty adS S']) ⟨hx, hb, hml, hown, hts⟩ (cX4_correct_ok l D ty aX adC adF adH adT adS Hh.size X C H S (xs (x3 + 1).toNatClampNeg) (xs (x3 + 2).toNatClampNeg) (r, X', C', H', S') e4) (cwV 2 hts gL_law_X4_correct rfl rfl rfl (by decide +kernel) ⟨Nat.le_of_ble_eq_true rfl, Nat.le_of_ble_eq_true rfl⟩) hP hK hD hS hA [0, 2, 4, 6] (by decide) rfl 4 0 rfl rfl rfl rfl hl.1 rfl (Nat.le_of_ble_eq_true rfl) dL_law_400 ⟨Nat.le_of_ble_eq_true rfl, Nat.le_of_ble_eq_true rfl⟩ rfl rfl (fun Hh locs hP hD hS => ?_)
  refine lv_aload_n hx hb dL_law_403 rfl (lv_at hl 2 rfl) ?_
  refine lv_aload_n hx hb dL_law_404 rfl (lv_at hl 0 rfl) ?_
  refine lv_iload_n hx hb dL_law_405 rfl (lv_at hl 3 rfl) ?_
  refine lv_iconst (v := 1) hx hb dL_law_406 (by decide) ?_
  refine lv_iadd hx hb dL_law_407 ?_
  refine va_sld hx hb hX hbl hbA hS h1 dL_law_408 ?_
  refine lv_aload_n hx hb dL_law_409 rfl (lv_at hl 0 rfl) ?_
  refine lv_iload_n hx hb dL_law_410 rfl (lv_at hl 3 rfl) ?_
  refine lv_iconst (v := 2) hx hb dL_law_411 (by decide) ?_
  refine lv_iadd hx hb dL_law_412 ?_
  refine va_sld hx hb hX hbl hbA hS h2 dL_law_413 ?_
  refine kCallWI (r := r) (As := [.int (xs (x3 + 1).toNatClampNeg), .int (xs (x3 + 2).toNatClampNeg)]) (rest := [.int r]) (sg := [wX aX adC adH adF adT X', wM ty adM M, wC ty adC C', wF ty adF F, wH ty adH adS H', wT ty adT T, wS ty adS S']) (sc := [wM ty adM M]) (s1 := [wM ty adM M']) (sn := [wX aX adC adH adF adT X', wM ty adM M', wC ty adC C', wF ty adF F, wH ty adH adS H', wT ty adT T, wS ty adS S']) ⟨hx, hb, hml, hown, hts⟩ (cX5_correct_ok l D ty adM Hh.size M (xs (x3 + 1).toNatClampNeg) (xs (x3 + 2).toNatClampNeg) (r, M') e5) (cwV 2 hts gL_law_X5_correct rfl rfl rfl (by decide +kernel) ⟨Nat.le_of_ble_eq_true rfl, Nat.le_of_ble_eq_true rfl⟩) hP hK hD hS hA [1] (by decide) rfl 5 1 rfl rfl rfl rfl hl.1 rfl (Nat.le_of_ble_eq_true rfl) dL_law_414 ⟨Nat.le_of_ble_eq_true rfl, Nat.le_of_ble_eq_true rfl⟩ rfl rfl (fun Hh locs hP hD hS => ?_)
  refine lv_icmp_eq (tgt := 1068) hx hb dL_law_417 (by decide) (fun _ => ?_) (fun z => absurd rfl z)
  exact K X' M' C' F H' T S' hR1 Hh locs ls hP hD hS hl
abbrev hop_setCloseOff (RR : KX → KM → KC → KF → KH → KT → KS → Prop) : Prop := ∀ (X : KX) (M : KM) (C : KC) (F : KF) (H : KH) (T : KT) (S : KS), RR X M C F H T S → ∀ a1 : Int32, ∃ r X' M' C' H' S', fX4_setCloseOff X C H S a1 = some (r, X', C', H', S') ∧ fX5_setCloseOff M a1 = some (r, M') ∧ RR X' M' C' F H' T S'
set_option maxHeartbeats 4000000 in
set_option maxRecDepth 100000 in
theorem lwk_setCloseOff (C0 : lw_At p s m meth c b L xs) (hK : kK D ty s) (hE : kStr adK adV (fun q : Nat => s.heap.size ≤ q) s s.heap) (hop : hop_setCloseOff RR) (h1 : vp_in (x3 + 1) L) (K : lwK p l e s m below meth c b D ty RR aX adM adC adF adH adT adS x3 1068) : lwK p l e s m below meth c b D ty RR aX adM adC adF adH adT adS x3 422 := by
  intro X M C F H T S hR Hh locs ls hP hD hS hl
  obtain ⟨hx, hb, hr, hml, hown, hts0, hX, hbl, hlocks, hgv⟩ := id C0
  have hts : ∀ w ∈ wsL_law, w.before #[Value.ref b] s = true := fun w h => hts0 w (wsL_law_in w h)
  have hA : ∀ q : Nat, s.heap.size ≤ q → (fun q : Nat => s.heap.size ≤ q) q := fun _ h => h
  have hbA : ¬ (fun q : Nat => s.heap.size ≤ q) b := Nat.not_le.mpr hbl
  obtain ⟨r, X', M', C', H', S', e4, e5, hR1⟩ := hop X M C F H T S hR (xs (x3 + 1).toNatClampNeg)
  refine lv_aload_n hx hb dL_law_422 rfl (lv_at hl 1 rfl) ?_
  refine lv_aload_n hx hb dL_law_423 rfl (lv_at hl 0 rfl) ?_
  refine lv_iload_n hx hb dL_law_424 rfl (lv_at hl 3 rfl) ?_
  refine lv_iconst (v := 1) hx hb dL_law_425 (by decide) ?_
  refine lv_iadd hx hb dL_law_426 ?_
  refine va_sld hx hb hX hbl hbA hS h1 dL_law_427 ?_
  refine kCallWI (r := r) (As := [.int (xs (x3 + 1).toNatClampNeg)]) (rest := []) (sg := [wX aX adC adH adF adT X, wM ty adM M, wC ty adC C, wF ty adF F, wH ty adH adS H, wT ty adT T, wS ty adS S]) (sc := [wX aX adC adH adF adT X, wC ty adC C, wH ty adH adS H, wS ty adS S]) (s1 := [wX aX adC adH adF adT X', wC ty adC C', wH ty adH adS H', wS ty adS S']) (sn := [wX aX adC adH adF adT X', wM ty adM M, wC ty adC C', wF ty adF F, wH ty adH adS H', wT ty adT T, wS ty adS S']) ⟨hx, hb, hml, hown, hts⟩ (cX4_setCloseOff_ok l D ty aX adC adF adH adT adS Hh.size X C H S (xs (x3 + 1).toNatClampNeg) (r, X', C', H', S') e4) (cwV 1 hts gL_law_X4_setCloseOff rfl rfl rfl (by decide +kernel) ⟨Nat.le_of_ble_eq_true rfl, Nat.le_of_ble_eq_true rfl⟩) hP hK hD hS hA [0, 2, 4, 6] (by decide) rfl 4 0 rfl rfl rfl rfl hl.1 rfl (Nat.le_of_ble_eq_true rfl) dL_law_428 ⟨Nat.le_of_ble_eq_true rfl, Nat.le_of_ble_eq_true rfl⟩ rfl rfl (fun Hh locs hP hD hS => ?_)
  refine lv_aload_n hx hb dL_law_431 rfl (lv_at hl 2 rfl) ?_
  refine lv_aload_n hx hb dL_law_432 rfl (lv_at hl 0 rfl) ?_
  refine lv_iload_n hx hb dL_law_433 rfl (lv_at hl 3 rfl) ?_
  refine lv_iconst (v := 1) hx hb dL_law_434 (by decide) ?_
  refine lv_iadd hx hb dL_law_435 ?_
  refine va_sld hx hb hX hbl hbA hS h1 dL_law_436 ?_
  refine kCallWI (r := r) (As := [.int (xs (x3 + 1).toNatClampNeg)]) (rest := [.int r]) (sg := [wX aX adC adH adF adT X', wM ty adM M, wC ty adC C', wF ty adF F, wH ty adH adS H', wT ty adT T, wS ty adS S']) (sc := [wM ty adM M]) (s1 := [wM ty adM M']) (sn := [wX aX adC adH adF adT X', wM ty adM M', wC ty adC C', wF ty adF F, wH ty adH adS H', wT ty adT T, wS ty adS S']) ⟨hx, hb, hml, hown, hts⟩ (cX5_setCloseOff_ok l D ty adM Hh.size M (xs (x3 + 1).toNatClampNeg) (r, M') e5) (cwV 1 hts gL_law_X5_setCloseOff rfl rfl rfl (by decide +kernel) ⟨Nat.le_of_ble_eq_true rfl, Nat.le_of_ble_eq_true rfl⟩) hP hK hD hS hA [1] (by decide) rfl 5 1 rfl rfl rfl rfl hl.1 rfl (Nat.le_of_ble_eq_true rfl) dL_law_437 ⟨Nat.le_of_ble_eq_true rfl, Nat.le_of_ble_eq_true rfl⟩ rfl rfl (fun Hh locs hP hD hS => ?_)
  refine lv_icmp_eq (tgt := 1068) hx hb dL_law_440 (by decide) (fun _ => ?_) (fun z => absurd rfl z)
  exact K X' M' C' F H' T S' hR1 Hh locs ls hP hD hS hl
abbrev hop_setAsh (RR : KX → KM → KC → KF → KH → KT → KS → Prop) : Prop := ∀ (X : KX) (M : KM) (C : KC) (F : KF) (H : KH) (T : KT) (S : KS), RR X M C F H T S → ∀ a1 a2 a3 : Int32, ∃ r X' M' C' H' S', fX4_setAsh X C H S a1 a2 a3 = some (r, X', C', H', S') ∧ fX5_setAsh M a1 a2 a3 = some (r, M') ∧ RR X' M' C' F H' T S'
set_option maxHeartbeats 4000000 in
set_option maxRecDepth 100000 in
theorem lwk_setAsh (C0 : lw_At p s m meth c b L xs) (hK : kK D ty s) (hE : kStr adK adV (fun q : Nat => s.heap.size ≤ q) s s.heap) (hop : hop_setAsh RR) (h1 : vp_in (x3 + 1) L) (h2 : vp_in (x3 + 2) L) (h3 : vp_in (x3 + 3) L) (K : lwK p l e s m below meth c b D ty RR aX adM adC adF adH adT adS x3 1068) : lwK p l e s m below meth c b D ty RR aX adM adC adF adH adT adS x3 445 := by
  intro X M C F H T S hR Hh locs ls hP hD hS hl
  obtain ⟨hx, hb, hr, hml, hown, hts0, hX, hbl, hlocks, hgv⟩ := id C0
  have hts : ∀ w ∈ wsL_law, w.before #[Value.ref b] s = true := fun w h => hts0 w (wsL_law_in w h)
  have hA : ∀ q : Nat, s.heap.size ≤ q → (fun q : Nat => s.heap.size ≤ q) q := fun _ h => h
  have hbA : ¬ (fun q : Nat => s.heap.size ≤ q) b := Nat.not_le.mpr hbl
  obtain ⟨r, X', M', C', H', S', e4, e5, hR1⟩ := hop X M C F H T S hR (xs (x3 + 1).toNatClampNeg) (xs (x3 + 2).toNatClampNeg) (xs (x3 + 3).toNatClampNeg)
  refine lv_aload_n hx hb dL_law_445 rfl (lv_at hl 1 rfl) ?_
  refine lv_aload_n hx hb dL_law_446 rfl (lv_at hl 0 rfl) ?_
  refine lv_iload_n hx hb dL_law_447 rfl (lv_at hl 3 rfl) ?_
  refine lv_iconst (v := 1) hx hb dL_law_448 (by decide) ?_
  refine lv_iadd hx hb dL_law_449 ?_
  refine va_sld hx hb hX hbl hbA hS h1 dL_law_450 ?_
  refine lv_aload_n hx hb dL_law_451 rfl (lv_at hl 0 rfl) ?_
  refine lv_iload_n hx hb dL_law_452 rfl (lv_at hl 3 rfl) ?_
  refine lv_iconst (v := 2) hx hb dL_law_453 (by decide) ?_
  refine lv_iadd hx hb dL_law_454 ?_
  refine va_sld hx hb hX hbl hbA hS h2 dL_law_455 ?_
  refine lv_aload_n hx hb dL_law_456 rfl (lv_at hl 0 rfl) ?_
  refine lv_iload_n hx hb dL_law_457 rfl (lv_at hl 3 rfl) ?_
  refine lv_iconst (v := 3) hx hb dL_law_458 (by decide) ?_
  refine lv_iadd hx hb dL_law_459 ?_
  refine va_sld hx hb hX hbl hbA hS h3 dL_law_460 ?_
  refine kCallWI (r := r) (As := [.int (xs (x3 + 1).toNatClampNeg), .int (xs (x3 + 2).toNatClampNeg), .int (xs (x3 + 3).toNatClampNeg)]) (rest := []) (sg := [wX aX adC adH adF adT X, wM ty adM M, wC ty adC C, wF ty adF F, wH ty adH adS H, wT ty adT T, wS ty adS S]) (sc := [wX aX adC adH adF adT X, wC ty adC C, wH ty adH adS H, wS ty adS S]) (s1 := [wX aX adC adH adF adT X', wC ty adC C', wH ty adH adS H', wS ty adS S']) (sn := [wX aX adC adH adF adT X', wM ty adM M, wC ty adC C', wF ty adF F, wH ty adH adS H', wT ty adT T, wS ty adS S']) ⟨hx, hb, hml, hown, hts⟩ (cX4_setAsh_ok l D ty aX adC adF adH adT adS Hh.size X C H S (xs (x3 + 1).toNatClampNeg) (xs (x3 + 2).toNatClampNeg) (xs (x3 + 3).toNatClampNeg) (r, X', C', H', S') e4) (cwV 3 hts gL_law_X4_setAsh rfl rfl rfl (by decide +kernel) ⟨Nat.le_of_ble_eq_true rfl, Nat.le_of_ble_eq_true rfl⟩) hP hK hD hS hA [0, 2, 4, 6] (by decide) rfl 4 0 rfl rfl rfl rfl hl.1 rfl (Nat.le_of_ble_eq_true rfl) dL_law_461 ⟨Nat.le_of_ble_eq_true rfl, Nat.le_of_ble_eq_true rfl⟩ rfl rfl (fun Hh locs hP hD hS => ?_)
  refine lv_aload_n hx hb dL_law_464 rfl (lv_at hl 2 rfl) ?_
  refine lv_aload_n hx hb dL_law_465 rfl (lv_at hl 0 rfl) ?_
  refine lv_iload_n hx hb dL_law_466 rfl (lv_at hl 3 rfl) ?_
  refine lv_iconst (v := 1) hx hb dL_law_467 (by decide) ?_
  refine lv_iadd hx hb dL_law_468 ?_
  refine va_sld hx hb hX hbl hbA hS h1 dL_law_469 ?_
  refine lv_aload_n hx hb dL_law_470 rfl (lv_at hl 0 rfl) ?_
  refine lv_iload_n hx hb dL_law_471 rfl (lv_at hl 3 rfl) ?_
  refine lv_iconst (v := 2) hx hb dL_law_472 (by decide) ?_
  refine lv_iadd hx hb dL_law_473 ?_
  refine va_sld hx hb hX hbl hbA hS h2 dL_law_474 ?_
  refine lv_aload_n hx hb dL_law_475 rfl (lv_at hl 0 rfl) ?_
  refine lv_iload_n hx hb dL_law_476 rfl (lv_at hl 3 rfl) ?_
  refine lv_iconst (v := 3) hx hb dL_law_477 (by decide) ?_
  refine lv_iadd hx hb dL_law_478 ?_
  refine va_sld hx hb hX hbl hbA hS h3 dL_law_479 ?_
  refine kCallWI (r := r) (As := [.int (xs (x3 + 1).toNatClampNeg), .int (xs (x3 + 2).toNatClampNeg), .int (xs (x3 + 3).toNatClampNeg)]) (rest := [.int r]) (sg := [wX aX adC adH adF adT X', wM ty adM M, wC ty adC C', wF ty adF F, wH ty adH adS H', wT ty adT T, wS ty adS S']) (sc := [wM ty adM M]) (s1 := [wM ty adM M']) (sn := [wX aX adC adH adF adT X', wM ty adM M', wC ty adC C', wF ty adF F, wH ty adH adS H', wT ty adT T, wS ty adS S']) ⟨hx, hb, hml, hown, hts⟩ (cX5_setAsh_ok l D ty adM Hh.size M (xs (x3 + 1).toNatClampNeg) (xs (x3 + 2).toNatClampNeg) (xs (x3 + 3).toNatClampNeg) (r, M') e5) (cwV 3 hts gL_law_X5_setAsh rfl rfl rfl (by decide +kernel) ⟨Nat.le_of_ble_eq_true rfl, Nat.le_of_ble_eq_true rfl⟩) hP hK hD hS hA [1] (by decide) rfl 5 1 rfl rfl rfl rfl hl.1 rfl (Nat.le_of_ble_eq_true rfl) dL_law_480 ⟨Nat.le_of_ble_eq_true rfl, Nat.le_of_ble_eq_true rfl⟩ rfl rfl (fun Hh locs hP hD hS => ?_)
  refine lv_icmp_eq (tgt := 1068) hx hb dL_law_483 (by decide) (fun _ => ?_) (fun z => absurd rfl z)
  exact K X' M' C' F H' T S' hR1 Hh locs ls hP hD hS hl
abbrev hop_removeAsh (RR : KX → KM → KC → KF → KH → KT → KS → Prop) : Prop := ∀ (X : KX) (M : KM) (C : KC) (F : KF) (H : KH) (T : KT) (S : KS), RR X M C F H T S → ∀ a1 : Int32, ∃ r X' M' C' H' S', fX4_removeAsh X C H S a1 = some (r, X', C', H', S') ∧ fX5_removeAsh M a1 = some (r, M') ∧ RR X' M' C' F H' T S'
set_option maxHeartbeats 4000000 in
set_option maxRecDepth 100000 in
theorem lwk_removeAsh (C0 : lw_At p s m meth c b L xs) (hK : kK D ty s) (hE : kStr adK adV (fun q : Nat => s.heap.size ≤ q) s s.heap) (hop : hop_removeAsh RR) (h1 : vp_in (x3 + 1) L) (K : lwK p l e s m below meth c b D ty RR aX adM adC adF adH adT adS x3 1068) : lwK p l e s m below meth c b D ty RR aX adM adC adF adH adT adS x3 488 := by
  intro X M C F H T S hR Hh locs ls hP hD hS hl
  obtain ⟨hx, hb, hr, hml, hown, hts0, hX, hbl, hlocks, hgv⟩ := id C0
  have hts : ∀ w ∈ wsL_law, w.before #[Value.ref b] s = true := fun w h => hts0 w (wsL_law_in w h)
  have hA : ∀ q : Nat, s.heap.size ≤ q → (fun q : Nat => s.heap.size ≤ q) q := fun _ h => h
  have hbA : ¬ (fun q : Nat => s.heap.size ≤ q) b := Nat.not_le.mpr hbl
  obtain ⟨r, X', M', C', H', S', e4, e5, hR1⟩ := hop X M C F H T S hR (xs (x3 + 1).toNatClampNeg)
  refine lv_aload_n hx hb dL_law_488 rfl (lv_at hl 1 rfl) ?_
  refine lv_aload_n hx hb dL_law_489 rfl (lv_at hl 0 rfl) ?_
  refine lv_iload_n hx hb dL_law_490 rfl (lv_at hl 3 rfl) ?_
  refine lv_iconst (v := 1) hx hb dL_law_491 (by decide) ?_
  refine lv_iadd hx hb dL_law_492 ?_
  refine va_sld hx hb hX hbl hbA hS h1 dL_law_493 ?_
  refine kCallWI (r := r) (As := [.int (xs (x3 + 1).toNatClampNeg)]) (rest := []) (sg := [wX aX adC adH adF adT X, wM ty adM M, wC ty adC C, wF ty adF F, wH ty adH adS H, wT ty adT T, wS ty adS S]) (sc := [wX aX adC adH adF adT X, wC ty adC C, wH ty adH adS H, wS ty adS S]) (s1 := [wX aX adC adH adF adT X', wC ty adC C', wH ty adH adS H', wS ty adS S']) (sn := [wX aX adC adH adF adT X', wM ty adM M, wC ty adC C', wF ty adF F, wH ty adH adS H', wT ty adT T, wS ty adS S']) ⟨hx, hb, hml, hown, hts⟩ (cX4_removeAsh_ok l D ty aX adC adF adH adT adS Hh.size X C H S (xs (x3 + 1).toNatClampNeg) (r, X', C', H', S') e4) (cwV 1 hts gL_law_X4_removeAsh rfl rfl rfl (by decide +kernel) ⟨Nat.le_of_ble_eq_true rfl, Nat.le_of_ble_eq_true rfl⟩) hP hK hD hS hA [0, 2, 4, 6] (by decide) rfl 4 0 rfl rfl rfl rfl hl.1 rfl (Nat.le_of_ble_eq_true rfl) dL_law_494 ⟨Nat.le_of_ble_eq_true rfl, Nat.le_of_ble_eq_true rfl⟩ rfl rfl (fun Hh locs hP hD hS => ?_)
  refine lv_aload_n hx hb dL_law_497 rfl (lv_at hl 2 rfl) ?_
  refine lv_aload_n hx hb dL_law_498 rfl (lv_at hl 0 rfl) ?_
  refine lv_iload_n hx hb dL_law_499 rfl (lv_at hl 3 rfl) ?_
  refine lv_iconst (v := 1) hx hb dL_law_500 (by decide) ?_
  refine lv_iadd hx hb dL_law_501 ?_
  refine va_sld hx hb hX hbl hbA hS h1 dL_law_502 ?_
  refine kCallWI (r := r) (As := [.int (xs (x3 + 1).toNatClampNeg)]) (rest := [.int r]) (sg := [wX aX adC adH adF adT X', wM ty adM M, wC ty adC C', wF ty adF F, wH ty adH adS H', wT ty adT T, wS ty adS S']) (sc := [wM ty adM M]) (s1 := [wM ty adM M']) (sn := [wX aX adC adH adF adT X', wM ty adM M', wC ty adC C', wF ty adF F, wH ty adH adS H', wT ty adT T, wS ty adS S']) ⟨hx, hb, hml, hown, hts⟩ (cX5_removeAsh_ok l D ty adM Hh.size M (xs (x3 + 1).toNatClampNeg) (r, M') e5) (cwV 1 hts gL_law_X5_removeAsh rfl rfl rfl (by decide +kernel) ⟨Nat.le_of_ble_eq_true rfl, Nat.le_of_ble_eq_true rfl⟩) hP hK hD hS hA [1] (by decide) rfl 5 1 rfl rfl rfl rfl hl.1 rfl (Nat.le_of_ble_eq_true rfl) dL_law_503 ⟨Nat.le_of_ble_eq_true rfl, Nat.le_of_ble_eq_true rfl⟩ rfl rfl (fun Hh locs hP hD hS => ?_)
  refine lv_icmp_eq (tgt := 1068) hx hb dL_law_506 (by decide) (fun _ => ?_) (fun z => absurd rfl z)
  exact K X' M' C' F H' T S' hR1 Hh locs ls hP hD hS hl
abbrev hop_setCount (RR : KX → KM → KC → KF → KH → KT → KS → Prop) : Prop := ∀ (X : KX) (M : KM) (C : KC) (F : KF) (H : KH) (T : KT) (S : KS), RR X M C F H T S → ∀ a1 a2 : Int32, ∃ r X' M' C' H' S', fX4_setCount X C H S a1 a2 = some (r, X', C', H', S') ∧ fX5_setCount M a1 a2 = some (r, M') ∧ RR X' M' C' F H' T S'
set_option maxHeartbeats 4000000 in
set_option maxRecDepth 100000 in
theorem lwk_setCount (C0 : lw_At p s m meth c b L xs) (hK : kK D ty s) (hE : kStr adK adV (fun q : Nat => s.heap.size ≤ q) s s.heap) (hop : hop_setCount RR) (h1 : vp_in (x3 + 1) L) (h2 : vp_in (x3 + 2) L) (K : lwK p l e s m below meth c b D ty RR aX adM adC adF adH adT adS x3 1068) : lwK p l e s m below meth c b D ty RR aX adM adC adF adH adT adS x3 511 := by
  intro X M C F H T S hR Hh locs ls hP hD hS hl
  obtain ⟨hx, hb, hr, hml, hown, hts0, hX, hbl, hlocks, hgv⟩ := id C0
  have hts : ∀ w ∈ wsL_law, w.before #[Value.ref b] s = true := fun w h => hts0 w (wsL_law_in w h)
  have hA : ∀ q : Nat, s.heap.size ≤ q → (fun q : Nat => s.heap.size ≤ q) q := fun _ h => h
  have hbA : ¬ (fun q : Nat => s.heap.size ≤ q) b := Nat.not_le.mpr hbl
  obtain ⟨r, X', M', C', H', S', e4, e5, hR1⟩ := hop X M C F H T S hR (xs (x3 + 1).toNatClampNeg) (xs (x3 + 2).toNatClampNeg)
  refine lv_aload_n hx hb dL_law_511 rfl (lv_at hl 1 rfl) ?_
  refine lv_aload_n hx hb dL_law_512 rfl (lv_at hl 0 rfl) ?_
  refine lv_iload_n hx hb dL_law_513 rfl (lv_at hl 3 rfl) ?_
  refine lv_iconst (v := 1) hx hb dL_law_514 (by decide) ?_
  refine lv_iadd hx hb dL_law_515 ?_
  refine va_sld hx hb hX hbl hbA hS h1 dL_law_516 ?_
  refine lv_aload_n hx hb dL_law_517 rfl (lv_at hl 0 rfl) ?_
  refine lv_iload_n hx hb dL_law_518 rfl (lv_at hl 3 rfl) ?_
  refine lv_iconst (v := 2) hx hb dL_law_519 (by decide) ?_
  refine lv_iadd hx hb dL_law_520 ?_
  refine va_sld hx hb hX hbl hbA hS h2 dL_law_521 ?_
  refine kCallWI (r := r) (As := [.int (xs (x3 + 1).toNatClampNeg), .int (xs (x3 + 2).toNatClampNeg)]) (rest := []) (sg := [wX aX adC adH adF adT X, wM ty adM M, wC ty adC C, wF ty adF F, wH ty adH adS H, wT ty adT T, wS ty adS S]) (sc := [wX aX adC adH adF adT X, wC ty adC C, wH ty adH adS H, wS ty adS S]) (s1 := [wX aX adC adH adF adT X', wC ty adC C', wH ty adH adS H', wS ty adS S']) (sn := [wX aX adC adH adF adT X', wM ty adM M, wC ty adC C', wF ty adF F, wH ty adH adS H', wT ty adT T, wS ty adS S']) ⟨hx, hb, hml, hown, hts⟩ (cX4_setCount_ok l D ty aX adC adF adH adT adS Hh.size X C H S (xs (x3 + 1).toNatClampNeg) (xs (x3 + 2).toNatClampNeg) (r, X', C', H', S') e4) (cwV 2 hts gL_law_X4_setCount rfl rfl rfl (by decide +kernel) ⟨Nat.le_of_ble_eq_true rfl, Nat.le_of_ble_eq_true rfl⟩) hP hK hD hS hA [0, 2, 4, 6] (by decide) rfl 4 0 rfl rfl rfl rfl hl.1 rfl (Nat.le_of_ble_eq_true rfl) dL_law_522 ⟨Nat.le_of_ble_eq_true rfl, Nat.le_of_ble_eq_true rfl⟩ rfl rfl (fun Hh locs hP hD hS => ?_)
  refine lv_aload_n hx hb dL_law_525 rfl (lv_at hl 2 rfl) ?_
  refine lv_aload_n hx hb dL_law_526 rfl (lv_at hl 0 rfl) ?_
  refine lv_iload_n hx hb dL_law_527 rfl (lv_at hl 3 rfl) ?_
  refine lv_iconst (v := 1) hx hb dL_law_528 (by decide) ?_
  refine lv_iadd hx hb dL_law_529 ?_
  refine va_sld hx hb hX hbl hbA hS h1 dL_law_530 ?_
  refine lv_aload_n hx hb dL_law_531 rfl (lv_at hl 0 rfl) ?_
  refine lv_iload_n hx hb dL_law_532 rfl (lv_at hl 3 rfl) ?_
  refine lv_iconst (v := 2) hx hb dL_law_533 (by decide) ?_
  refine lv_iadd hx hb dL_law_534 ?_
  refine va_sld hx hb hX hbl hbA hS h2 dL_law_535 ?_
  refine kCallWI (r := r) (As := [.int (xs (x3 + 1).toNatClampNeg), .int (xs (x3 + 2).toNatClampNeg)]) (rest := [.int r]) (sg := [wX aX adC adH adF adT X', wM ty adM M, wC ty adC C', wF ty adF F, wH ty adH adS H', wT ty adT T, wS ty adS S']) (sc := [wM ty adM M]) (s1 := [wM ty adM M']) (sn := [wX aX adC adH adF adT X', wM ty adM M', wC ty adC C', wF ty adF F, wH ty adH adS H', wT ty adT T, wS ty adS S']) ⟨hx, hb, hml, hown, hts⟩ (cX5_setCount_ok l D ty adM Hh.size M (xs (x3 + 1).toNatClampNeg) (xs (x3 + 2).toNatClampNeg) (r, M') e5) (cwV 2 hts gL_law_X5_setCount rfl rfl rfl (by decide +kernel) ⟨Nat.le_of_ble_eq_true rfl, Nat.le_of_ble_eq_true rfl⟩) hP hK hD hS hA [1] (by decide) rfl 5 1 rfl rfl rfl rfl hl.1 rfl (Nat.le_of_ble_eq_true rfl) dL_law_536 ⟨Nat.le_of_ble_eq_true rfl, Nat.le_of_ble_eq_true rfl⟩ rfl rfl (fun Hh locs hP hD hS => ?_)
  refine lv_icmp_eq (tgt := 1068) hx hb dL_law_539 (by decide) (fun _ => ?_) (fun z => absurd rfl z)
  exact K X' M' C' F H' T S' hR1 Hh locs ls hP hD hS hl
abbrev hop_tune (RR : KX → KM → KC → KF → KH → KT → KS → Prop) : Prop := ∀ (X : KX) (M : KM) (C : KC) (F : KF) (H : KH) (T : KT) (S : KS), RR X M C F H T S → ∃ r X' M' C' F' H' S', fX4_tune X C F H S = some (r, X', C', F', H', S') ∧ fX5_tune M = some (r, M') ∧ RR X' M' C' F' H' T S'
set_option maxHeartbeats 4000000 in
set_option maxRecDepth 100000 in
theorem lwk_tune (C0 : lw_At p s m meth c b L xs) (hK : kK D ty s) (hE : kStr adK adV (fun q : Nat => s.heap.size ≤ q) s s.heap) (hop : hop_tune RR) (K : lwK p l e s m below meth c b D ty RR aX adM adC adF adH adT adS x3 1068) : lwK p l e s m below meth c b D ty RR aX adM adC adF adH adT adS x3 544 := by
  intro X M C F H T S hR Hh locs ls hP hD hS hl
  obtain ⟨hx, hb, hr, hml, hown, hts0, hX, hbl, hlocks, hgv⟩ := id C0
  have hts : ∀ w ∈ wsL_law, w.before #[Value.ref b] s = true := fun w h => hts0 w (wsL_law_in w h)
  have hA : ∀ q : Nat, s.heap.size ≤ q → (fun q : Nat => s.heap.size ≤ q) q := fun _ h => h
  have hbA : ¬ (fun q : Nat => s.heap.size ≤ q) b := Nat.not_le.mpr hbl
  obtain ⟨r, X', M', C', F', H', S', e4, e5, hR1⟩ := hop X M C F H T S hR 
  refine lv_aload_n hx hb dL_law_544 rfl (lv_at hl 1 rfl) ?_
  refine kCallWI (r := r) (As := []) (rest := []) (sg := [wX aX adC adH adF adT X, wM ty adM M, wC ty adC C, wF ty adF F, wH ty adH adS H, wT ty adT T, wS ty adS S]) (sc := [wX aX adC adH adF adT X, wC ty adC C, wF ty adF F, wH ty adH adS H, wS ty adS S]) (s1 := [wX aX adC adH adF adT X', wC ty adC C', wF ty adF F', wH ty adH adS H', wS ty adS S']) (sn := [wX aX adC adH adF adT X', wM ty adM M, wC ty adC C', wF ty adF F', wH ty adH adS H', wT ty adT T, wS ty adS S']) ⟨hx, hb, hml, hown, hts⟩ (cX4_tune_ok l D ty aX adC adF adH adT adS Hh.size X C F H S (r, X', C', F', H', S') e4) (cwV 0 hts gL_law_X4_tune rfl rfl rfl (by decide +kernel) ⟨Nat.le_of_ble_eq_true rfl, Nat.le_of_ble_eq_true rfl⟩) hP hK hD hS hA [0, 2, 3, 4, 6] (by decide) rfl 4 0 rfl rfl rfl rfl hl.1 rfl (Nat.le_of_ble_eq_true rfl) dL_law_545 ⟨Nat.le_of_ble_eq_true rfl, Nat.le_of_ble_eq_true rfl⟩ rfl rfl (fun Hh locs hP hD hS => ?_)
  refine lv_aload_n hx hb dL_law_548 rfl (lv_at hl 2 rfl) ?_
  refine kCallWI (r := r) (As := []) (rest := [.int r]) (sg := [wX aX adC adH adF adT X', wM ty adM M, wC ty adC C', wF ty adF F', wH ty adH adS H', wT ty adT T, wS ty adS S']) (sc := [wM ty adM M]) (s1 := [wM ty adM M']) (sn := [wX aX adC adH adF adT X', wM ty adM M', wC ty adC C', wF ty adF F', wH ty adH adS H', wT ty adT T, wS ty adS S']) ⟨hx, hb, hml, hown, hts⟩ (cX5_tune_ok l D ty adM Hh.size M (r, M') e5) (cwV 0 hts gL_law_X5_tune rfl rfl rfl (by decide +kernel) ⟨Nat.le_of_ble_eq_true rfl, Nat.le_of_ble_eq_true rfl⟩) hP hK hD hS hA [1] (by decide) rfl 5 1 rfl rfl rfl rfl hl.1 rfl (Nat.le_of_ble_eq_true rfl) dL_law_549 ⟨Nat.le_of_ble_eq_true rfl, Nat.le_of_ble_eq_true rfl⟩ rfl rfl (fun Hh locs hP hD hS => ?_)
  refine lv_icmp_eq (tgt := 1068) hx hb dL_law_552 (by decide) (fun _ => ?_) (fun z => absurd rfl z)
  exact K X' M' C' F' H' T S' hR1 Hh locs ls hP hD hS hl
abbrev hop_undo (RR : KX → KM → KC → KF → KH → KT → KS → Prop) : Prop := ∀ (X : KX) (M : KM) (C : KC) (F : KF) (H : KH) (T : KT) (S : KS), RR X M C F H T S → ∃ r M' C' H', fX4_undo X C H S = some (r, C', H') ∧ fX5_undo M = some (r, M') ∧ RR X M' C' F H' T S
set_option maxHeartbeats 4000000 in
set_option maxRecDepth 100000 in
theorem lwk_undo (C0 : lw_At p s m meth c b L xs) (hK : kK D ty s) (hE : kStr adK adV (fun q : Nat => s.heap.size ≤ q) s s.heap) (hop : hop_undo RR) (K : lwK p l e s m below meth c b D ty RR aX adM adC adF adH adT adS x3 1068) : lwK p l e s m below meth c b D ty RR aX adM adC adF adH adT adS x3 557 := by
  intro X M C F H T S hR Hh locs ls hP hD hS hl
  obtain ⟨hx, hb, hr, hml, hown, hts0, hX, hbl, hlocks, hgv⟩ := id C0
  have hts : ∀ w ∈ wsL_law, w.before #[Value.ref b] s = true := fun w h => hts0 w (wsL_law_in w h)
  have hA : ∀ q : Nat, s.heap.size ≤ q → (fun q : Nat => s.heap.size ≤ q) q := fun _ h => h
  have hbA : ¬ (fun q : Nat => s.heap.size ≤ q) b := Nat.not_le.mpr hbl
  obtain ⟨r, M', C', H', e4, e5, hR1⟩ := hop X M C F H T S hR 
  refine lv_aload_n hx hb dL_law_557 rfl (lv_at hl 1 rfl) ?_
  refine kCallWI (r := r) (As := []) (rest := []) (sg := [wX aX adC adH adF adT X, wM ty adM M, wC ty adC C, wF ty adF F, wH ty adH adS H, wT ty adT T, wS ty adS S]) (sc := [wX aX adC adH adF adT X, wC ty adC C, wH ty adH adS H, wS ty adS S]) (s1 := [wX aX adC adH adF adT X, wC ty adC C', wH ty adH adS H', wS ty adS S]) (sn := [wX aX adC adH adF adT X, wM ty adM M, wC ty adC C', wF ty adF F, wH ty adH adS H', wT ty adT T, wS ty adS S]) ⟨hx, hb, hml, hown, hts⟩ (cX4_undo_ok l D ty aX adC adF adH adT adS Hh.size X C H S (r, C', H') e4) (cwV 0 hts gL_law_X4_undo rfl rfl rfl (by decide +kernel) ⟨Nat.le_of_ble_eq_true rfl, Nat.le_of_ble_eq_true rfl⟩) hP hK hD hS hA [0, 2, 4, 6] (by decide) rfl 4 0 rfl rfl rfl rfl hl.1 rfl (Nat.le_of_ble_eq_true rfl) dL_law_558 ⟨Nat.le_of_ble_eq_true rfl, Nat.le_of_ble_eq_true rfl⟩ rfl rfl (fun Hh locs hP hD hS => ?_)
  refine lv_aload_n hx hb dL_law_561 rfl (lv_at hl 2 rfl) ?_
  refine kCallWI (r := r) (As := []) (rest := [.int r]) (sg := [wX aX adC adH adF adT X, wM ty adM M, wC ty adC C', wF ty adF F, wH ty adH adS H', wT ty adT T, wS ty adS S]) (sc := [wM ty adM M]) (s1 := [wM ty adM M']) (sn := [wX aX adC adH adF adT X, wM ty adM M', wC ty adC C', wF ty adF F, wH ty adH adS H', wT ty adT T, wS ty adS S]) ⟨hx, hb, hml, hown, hts⟩ (cX5_undo_ok l D ty adM Hh.size M (r, M') e5) (cwV 0 hts gL_law_X5_undo rfl rfl rfl (by decide +kernel) ⟨Nat.le_of_ble_eq_true rfl, Nat.le_of_ble_eq_true rfl⟩) hP hK hD hS hA [1] (by decide) rfl 5 1 rfl rfl rfl rfl hl.1 rfl (Nat.le_of_ble_eq_true rfl) dL_law_562 ⟨Nat.le_of_ble_eq_true rfl, Nat.le_of_ble_eq_true rfl⟩ rfl rfl (fun Hh locs hP hD hS => ?_)
  refine lv_icmp_eq (tgt := 1068) hx hb dL_law_565 (by decide) (fun _ => ?_) (fun z => absurd rfl z)
  exact K X M' C' F H' T S hR1 Hh locs ls hP hD hS hl
abbrev hop_type (RR : KX → KM → KC → KF → KH → KT → KS → Prop) : Prop := ∀ (X : KX) (M : KM) (C : KC) (F : KF) (H : KH) (T : KT) (S : KS), RR X M C F H T S → ∀ a1 : Int32, ∃ r M' T', fX4_type X T a1 = some (r, T') ∧ fX5_type M a1 = some (r, M') ∧ RR X M' C F H T' S
set_option maxHeartbeats 4000000 in
set_option maxRecDepth 100000 in
theorem lwk_type (C0 : lw_At p s m meth c b L xs) (hK : kK D ty s) (hE : kStr adK adV (fun q : Nat => s.heap.size ≤ q) s s.heap) (hop : hop_type RR) (h1 : vp_in (x3 + 1) L) (K : lwK p l e s m below meth c b D ty RR aX adM adC adF adH adT adS x3 1068) : lwK p l e s m below meth c b D ty RR aX adM adC adF adH adT adS x3 570 := by
  intro X M C F H T S hR Hh locs ls hP hD hS hl
  obtain ⟨hx, hb, hr, hml, hown, hts0, hX, hbl, hlocks, hgv⟩ := id C0
  have hts : ∀ w ∈ wsL_law, w.before #[Value.ref b] s = true := fun w h => hts0 w (wsL_law_in w h)
  have hA : ∀ q : Nat, s.heap.size ≤ q → (fun q : Nat => s.heap.size ≤ q) q := fun _ h => h
  have hbA : ¬ (fun q : Nat => s.heap.size ≤ q) b := Nat.not_le.mpr hbl
  obtain ⟨r, M', T', e4, e5, hR1⟩ := hop X M C F H T S hR (xs (x3 + 1).toNatClampNeg)
  refine lv_aload_n hx hb dL_law_570 rfl (lv_at hl 1 rfl) ?_
  refine lv_aload_n hx hb dL_law_571 rfl (lv_at hl 0 rfl) ?_
  refine lv_iload_n hx hb dL_law_572 rfl (lv_at hl 3 rfl) ?_
  refine lv_iconst (v := 1) hx hb dL_law_573 (by decide) ?_
  refine lv_iadd hx hb dL_law_574 ?_
  refine va_sld hx hb hX hbl hbA hS h1 dL_law_575 ?_
  refine kCallWI (r := r) (As := [.int (xs (x3 + 1).toNatClampNeg)]) (rest := []) (sg := [wX aX adC adH adF adT X, wM ty adM M, wC ty adC C, wF ty adF F, wH ty adH adS H, wT ty adT T, wS ty adS S]) (sc := [wX aX adC adH adF adT X, wT ty adT T]) (s1 := [wX aX adC adH adF adT X, wT ty adT T']) (sn := [wX aX adC adH adF adT X, wM ty adM M, wC ty adC C, wF ty adF F, wH ty adH adS H, wT ty adT T', wS ty adS S]) ⟨hx, hb, hml, hown, hts⟩ (cX4_type_ok l D ty aX adC adF adH adT Hh.size X T (xs (x3 + 1).toNatClampNeg) (r, T') e4) (cwV 1 hts gL_law_X4_type rfl rfl rfl (by decide +kernel) ⟨Nat.le_of_ble_eq_true rfl, Nat.le_of_ble_eq_true rfl⟩) hP hK hD hS hA [0, 5] (by decide) rfl 4 0 rfl rfl rfl rfl hl.1 rfl (Nat.le_of_ble_eq_true rfl) dL_law_576 ⟨Nat.le_of_ble_eq_true rfl, Nat.le_of_ble_eq_true rfl⟩ rfl rfl (fun Hh locs hP hD hS => ?_)
  refine lv_aload_n hx hb dL_law_579 rfl (lv_at hl 2 rfl) ?_
  refine lv_aload_n hx hb dL_law_580 rfl (lv_at hl 0 rfl) ?_
  refine lv_iload_n hx hb dL_law_581 rfl (lv_at hl 3 rfl) ?_
  refine lv_iconst (v := 1) hx hb dL_law_582 (by decide) ?_
  refine lv_iadd hx hb dL_law_583 ?_
  refine va_sld hx hb hX hbl hbA hS h1 dL_law_584 ?_
  refine kCallWI (r := r) (As := [.int (xs (x3 + 1).toNatClampNeg)]) (rest := [.int r]) (sg := [wX aX adC adH adF adT X, wM ty adM M, wC ty adC C, wF ty adF F, wH ty adH adS H, wT ty adT T', wS ty adS S]) (sc := [wM ty adM M]) (s1 := [wM ty adM M']) (sn := [wX aX adC adH adF adT X, wM ty adM M', wC ty adC C, wF ty adF F, wH ty adH adS H, wT ty adT T', wS ty adS S]) ⟨hx, hb, hml, hown, hts⟩ (cX5_type_ok l D ty adM Hh.size M (xs (x3 + 1).toNatClampNeg) (r, M') e5) (cwV 1 hts gL_law_X5_type rfl rfl rfl (by decide +kernel) ⟨Nat.le_of_ble_eq_true rfl, Nat.le_of_ble_eq_true rfl⟩) hP hK hD hS hA [1] (by decide) rfl 5 1 rfl rfl rfl rfl hl.1 rfl (Nat.le_of_ble_eq_true rfl) dL_law_585 ⟨Nat.le_of_ble_eq_true rfl, Nat.le_of_ble_eq_true rfl⟩ rfl rfl (fun Hh locs hP hD hS => ?_)
  refine lv_icmp_eq (tgt := 1068) hx hb dL_law_588 (by decide) (fun _ => ?_) (fun z => absurd rfl z)
  exact K X M' C F H T' S hR1 Hh locs ls hP hD hS hl
abbrev hop_clearText (RR : KX → KM → KC → KF → KH → KT → KS → Prop) : Prop := ∀ (X : KX) (M : KM) (C : KC) (F : KF) (H : KH) (T : KT) (S : KS), RR X M C F H T S → ∃ r M' T', fX4_clearText X T = some (r, T') ∧ fX5_clearText M = some (r, M') ∧ RR X M' C F H T' S
set_option maxHeartbeats 4000000 in
set_option maxRecDepth 100000 in
theorem lwk_clearText (C0 : lw_At p s m meth c b L xs) (hK : kK D ty s) (hE : kStr adK adV (fun q : Nat => s.heap.size ≤ q) s s.heap) (hop : hop_clearText RR) (K : lwK p l e s m below meth c b D ty RR aX adM adC adF adH adT adS x3 1068) : lwK p l e s m below meth c b D ty RR aX adM adC adF adH adT adS x3 593 := by
  intro X M C F H T S hR Hh locs ls hP hD hS hl
  obtain ⟨hx, hb, hr, hml, hown, hts0, hX, hbl, hlocks, hgv⟩ := id C0
  have hts : ∀ w ∈ wsL_law, w.before #[Value.ref b] s = true := fun w h => hts0 w (wsL_law_in w h)
  have hA : ∀ q : Nat, s.heap.size ≤ q → (fun q : Nat => s.heap.size ≤ q) q := fun _ h => h
  have hbA : ¬ (fun q : Nat => s.heap.size ≤ q) b := Nat.not_le.mpr hbl
  obtain ⟨r, M', T', e4, e5, hR1⟩ := hop X M C F H T S hR 
  refine lv_aload_n hx hb dL_law_593 rfl (lv_at hl 1 rfl) ?_
  refine kCallWI (r := r) (As := []) (rest := []) (sg := [wX aX adC adH adF adT X, wM ty adM M, wC ty adC C, wF ty adF F, wH ty adH adS H, wT ty adT T, wS ty adS S]) (sc := [wX aX adC adH adF adT X, wT ty adT T]) (s1 := [wX aX adC adH adF adT X, wT ty adT T']) (sn := [wX aX adC adH adF adT X, wM ty adM M, wC ty adC C, wF ty adF F, wH ty adH adS H, wT ty adT T', wS ty adS S]) ⟨hx, hb, hml, hown, hts⟩ (cX4_clearText_ok l D ty aX adC adF adH adT Hh.size X T (r, T') e4) (cwV 0 hts gL_law_X4_clearText rfl rfl rfl (by decide +kernel) ⟨Nat.le_of_ble_eq_true rfl, Nat.le_of_ble_eq_true rfl⟩) hP hK hD hS hA [0, 5] (by decide) rfl 4 0 rfl rfl rfl rfl hl.1 rfl (Nat.le_of_ble_eq_true rfl) dL_law_594 ⟨Nat.le_of_ble_eq_true rfl, Nat.le_of_ble_eq_true rfl⟩ rfl rfl (fun Hh locs hP hD hS => ?_)
  refine lv_aload_n hx hb dL_law_597 rfl (lv_at hl 2 rfl) ?_
  refine kCallWI (r := r) (As := []) (rest := [.int r]) (sg := [wX aX adC adH adF adT X, wM ty adM M, wC ty adC C, wF ty adF F, wH ty adH adS H, wT ty adT T', wS ty adS S]) (sc := [wM ty adM M]) (s1 := [wM ty adM M']) (sn := [wX aX adC adH adF adT X, wM ty adM M', wC ty adC C, wF ty adF F, wH ty adH adS H, wT ty adT T', wS ty adS S]) ⟨hx, hb, hml, hown, hts⟩ (cX5_clearText_ok l D ty adM Hh.size M (r, M') e5) (cwV 0 hts gL_law_X5_clearText rfl rfl rfl (by decide +kernel) ⟨Nat.le_of_ble_eq_true rfl, Nat.le_of_ble_eq_true rfl⟩) hP hK hD hS hA [1] (by decide) rfl 5 1 rfl rfl rfl rfl hl.1 rfl (Nat.le_of_ble_eq_true rfl) dL_law_598 ⟨Nat.le_of_ble_eq_true rfl, Nat.le_of_ble_eq_true rfl⟩ rfl rfl (fun Hh locs hP hD hS => ?_)
  refine lv_icmp_eq (tgt := 1068) hx hb dL_law_601 (by decide) (fun _ => ?_) (fun z => absurd rfl z)
  exact K X M' C F H T' S hR1 Hh locs ls hP hD hS hl
abbrev hop_run (RR : KX → KM → KC → KF → KH → KT → KS → Prop) : Prop := ∀ (X : KX) (M : KM) (C : KC) (F : KF) (H : KH) (T : KT) (S : KS), RR X M C F H T S → ∃ r X' M' C' F' H' T' S', fX4_run X C F H T S = some (r, X', C', F', H', T', S') ∧ fX5_run M = some (r, M') ∧ RR X' M' C' F' H' T' S'
set_option maxHeartbeats 4000000 in
set_option maxRecDepth 100000 in
theorem lwk_run (C0 : lw_At p s m meth c b L xs) (hK : kK D ty s) (hE : kStr adK adV (fun q : Nat => s.heap.size ≤ q) s s.heap) (hop : hop_run RR) (K : lwK p l e s m below meth c b D ty RR aX adM adC adF adH adT adS x3 1068) : lwK p l e s m below meth c b D ty RR aX adM adC adF adH adT adS x3 606 := by
  intro X M C F H T S hR Hh locs ls hP hD hS hl
  obtain ⟨hx, hb, hr, hml, hown, hts0, hX, hbl, hlocks, hgv⟩ := id C0
  have hts : ∀ w ∈ wsL_law, w.before #[Value.ref b] s = true := fun w h => hts0 w (wsL_law_in w h)
  have hA : ∀ q : Nat, s.heap.size ≤ q → (fun q : Nat => s.heap.size ≤ q) q := fun _ h => h
  have hbA : ¬ (fun q : Nat => s.heap.size ≤ q) b := Nat.not_le.mpr hbl
  obtain ⟨r, X', M', C', F', H', T', S', e4, e5, hR1⟩ := hop X M C F H T S hR 
  refine lv_aload_n hx hb dL_law_606 rfl (lv_at hl 1 rfl) ?_
  refine kCallWIs (r := r) (As := []) (rest := []) (sg := [wX aX adC adH adF adT X, wM ty adM M, wC ty adC C, wF ty adF F, wH ty adH adS H, wT ty adT T, wS ty adS S]) (sc := [wX aX adC adH adF adT X, wC ty adC C, wF ty adF F, wH ty adH adS H, wT ty adT T, wS ty adS S]) (s1 := [wX aX adC adH adF adT X', wC ty adC C', wF ty adF F', wH ty adH adS H', wT ty adT T', wS ty adS S']) (sn := [wX aX adC adH adF adT X', wM ty adM M, wC ty adC C', wF ty adF F', wH ty adH adS H', wT ty adT T', wS ty adS S']) ⟨hx, hb, hml, hown, hts⟩ (cX4_run_ok l D ty adK adV aX adC adF adH adT adS Hh.size X C F H T S (r, X', C', F', H', T', S') e4) (cwV 0 hts gL_law_X4_run rfl rfl rfl (by decide +kernel) ⟨Nat.le_of_ble_eq_true rfl, Nat.le_of_ble_eq_true rfl⟩) hP hD hK hS hA hE [0, 2, 3, 4, 5, 6] (by decide) rfl 4 0 rfl rfl rfl rfl hl.1 rfl (Nat.le_of_ble_eq_true rfl) dL_law_607 ⟨Nat.le_of_ble_eq_true rfl, Nat.le_of_ble_eq_true rfl⟩ rfl rfl (fun Hh locs hP hD hS => ?_)
  refine lv_aload_n hx hb dL_law_610 rfl (lv_at hl 2 rfl) ?_
  refine kCallWI (r := r) (As := []) (rest := [.int r]) (sg := [wX aX adC adH adF adT X', wM ty adM M, wC ty adC C', wF ty adF F', wH ty adH adS H', wT ty adT T', wS ty adS S']) (sc := [wM ty adM M]) (s1 := [wM ty adM M']) (sn := [wX aX adC adH adF adT X', wM ty adM M', wC ty adC C', wF ty adF F', wH ty adH adS H', wT ty adT T', wS ty adS S']) ⟨hx, hb, hml, hown, hts⟩ (cX5_run_ok l D ty adM Hh.size M (r, M') e5) (cwV 0 hts gL_law_X5_run rfl rfl rfl (by decide +kernel) ⟨Nat.le_of_ble_eq_true rfl, Nat.le_of_ble_eq_true rfl⟩) hP hK hD hS hA [1] (by decide) rfl 5 1 rfl rfl rfl rfl hl.1 rfl (Nat.le_of_ble_eq_true rfl) dL_law_611 ⟨Nat.le_of_ble_eq_true rfl, Nat.le_of_ble_eq_true rfl⟩ rfl rfl (fun Hh locs hP hD hS => ?_)
  refine lv_icmp_eq (tgt := 1068) hx hb dL_law_614 (by decide) (fun _ => ?_) (fun z => absurd rfl z)
  exact K X' M' C' F' H' T' S' hR1 Hh locs ls hP hD hS hl
abbrev hop_failure (RR : KX → KM → KC → KF → KH → KT → KS → Prop) : Prop := ∀ (X : KX) (M : KM) (C : KC) (F : KF) (H : KH) (T : KT) (S : KS), RR X M C F H T S → ∃ r, fX4_failure X = some r ∧ fX5_failure M = some r ∧ RR X M C F H T S
set_option maxHeartbeats 4000000 in
set_option maxRecDepth 100000 in
theorem lwk_failure (C0 : lw_At p s m meth c b L xs) (hK : kK D ty s) (hE : kStr adK adV (fun q : Nat => s.heap.size ≤ q) s s.heap) (hop : hop_failure RR) (K : lwK p l e s m below meth c b D ty RR aX adM adC adF adH adT adS x3 1068) : lwK p l e s m below meth c b D ty RR aX adM adC adF adH adT adS x3 619 := by
  intro X M C F H T S hR Hh locs ls hP hD hS hl
  obtain ⟨hx, hb, hr, hml, hown, hts0, hX, hbl, hlocks, hgv⟩ := id C0
  have hts : ∀ w ∈ wsL_law, w.before #[Value.ref b] s = true := fun w h => hts0 w (wsL_law_in w h)
  have hA : ∀ q : Nat, s.heap.size ≤ q → (fun q : Nat => s.heap.size ≤ q) q := fun _ h => h
  have hbA : ¬ (fun q : Nat => s.heap.size ≤ q) b := Nat.not_le.mpr hbl
  obtain ⟨r, e4, e5, hR1⟩ := hop X M C F H T S hR 
  refine lv_aload_n hx hb dL_law_619 rfl (lv_at hl 1 rfl) ?_
  refine kCallWI (r := r) (As := []) (rest := []) (sg := [wX aX adC adH adF adT X, wM ty adM M, wC ty adC C, wF ty adF F, wH ty adH adS H, wT ty adT T, wS ty adS S]) (sc := [wX aX adC adH adF adT X]) (s1 := [wX aX adC adH adF adT X]) (sn := [wX aX adC adH adF adT X, wM ty adM M, wC ty adC C, wF ty adF F, wH ty adH adS H, wT ty adT T, wS ty adS S]) ⟨hx, hb, hml, hown, hts⟩ (cX4_failure_ok l D ty aX adC adF adH adT Hh.size X r e4) (cwV 0 hts gL_law_X4_failure rfl rfl rfl (by decide +kernel) ⟨Nat.le_of_ble_eq_true rfl, Nat.le_of_ble_eq_true rfl⟩) hP hK hD hS hA [0] (by decide) rfl 4 0 rfl rfl rfl rfl hl.1 rfl (Nat.le_of_ble_eq_true rfl) dL_law_620 ⟨Nat.le_of_ble_eq_true rfl, Nat.le_of_ble_eq_true rfl⟩ rfl rfl (fun Hh locs hP hD hS => ?_)
  refine lv_aload_n hx hb dL_law_623 rfl (lv_at hl 2 rfl) ?_
  refine kCallWI (r := r) (As := []) (rest := [.int r]) (sg := [wX aX adC adH adF adT X, wM ty adM M, wC ty adC C, wF ty adF F, wH ty adH adS H, wT ty adT T, wS ty adS S]) (sc := [wM ty adM M]) (s1 := [wM ty adM M]) (sn := [wX aX adC adH adF adT X, wM ty adM M, wC ty adC C, wF ty adF F, wH ty adH adS H, wT ty adT T, wS ty adS S]) ⟨hx, hb, hml, hown, hts⟩ (cX5_failure_ok l D ty adM Hh.size M r e5) (cwV 0 hts gL_law_X5_failure rfl rfl rfl (by decide +kernel) ⟨Nat.le_of_ble_eq_true rfl, Nat.le_of_ble_eq_true rfl⟩) hP hK hD hS hA [1] (by decide) rfl 5 1 rfl rfl rfl rfl hl.1 rfl (Nat.le_of_ble_eq_true rfl) dL_law_624 ⟨Nat.le_of_ble_eq_true rfl, Nat.le_of_ble_eq_true rfl⟩ rfl rfl (fun Hh locs hP hD hS => ?_)
  refine lv_icmp_eq (tgt := 1068) hx hb dL_law_627 (by decide) (fun _ => ?_) (fun z => absurd rfl z)
  exact K X M C F H T S hR1 Hh locs ls hP hD hS hl
abbrev hop_layers (RR : KX → KM → KC → KF → KH → KT → KS → Prop) : Prop := ∀ (X : KX) (M : KM) (C : KC) (F : KF) (H : KH) (T : KT) (S : KS), RR X M C F H T S → ∃ r, fX4_layers X C = some r ∧ fX5_layers M = some r ∧ RR X M C F H T S
set_option maxHeartbeats 4000000 in
set_option maxRecDepth 100000 in
theorem lwk_layers (C0 : lw_At p s m meth c b L xs) (hK : kK D ty s) (hE : kStr adK adV (fun q : Nat => s.heap.size ≤ q) s s.heap) (hop : hop_layers RR) (K : lwK p l e s m below meth c b D ty RR aX adM adC adF adH adT adS x3 1068) : lwK p l e s m below meth c b D ty RR aX adM adC adF adH adT adS x3 632 := by
  intro X M C F H T S hR Hh locs ls hP hD hS hl
  obtain ⟨hx, hb, hr, hml, hown, hts0, hX, hbl, hlocks, hgv⟩ := id C0
  have hts : ∀ w ∈ wsL_law, w.before #[Value.ref b] s = true := fun w h => hts0 w (wsL_law_in w h)
  have hA : ∀ q : Nat, s.heap.size ≤ q → (fun q : Nat => s.heap.size ≤ q) q := fun _ h => h
  have hbA : ¬ (fun q : Nat => s.heap.size ≤ q) b := Nat.not_le.mpr hbl
  obtain ⟨r, e4, e5, hR1⟩ := hop X M C F H T S hR 
  refine lv_aload_n hx hb dL_law_632 rfl (lv_at hl 1 rfl) ?_
  refine kCallWI (r := r) (As := []) (rest := []) (sg := [wX aX adC adH adF adT X, wM ty adM M, wC ty adC C, wF ty adF F, wH ty adH adS H, wT ty adT T, wS ty adS S]) (sc := [wX aX adC adH adF adT X, wC ty adC C]) (s1 := [wX aX adC adH adF adT X, wC ty adC C]) (sn := [wX aX adC adH adF adT X, wM ty adM M, wC ty adC C, wF ty adF F, wH ty adH adS H, wT ty adT T, wS ty adS S]) ⟨hx, hb, hml, hown, hts⟩ (cX4_layers_ok l D ty aX adC adF adH adT Hh.size X C r e4) (cwV 0 hts gL_law_X4_layers rfl rfl rfl (by decide +kernel) ⟨Nat.le_of_ble_eq_true rfl, Nat.le_of_ble_eq_true rfl⟩) hP hK hD hS hA [0, 2] (by decide) rfl 4 0 rfl rfl rfl rfl hl.1 rfl (Nat.le_of_ble_eq_true rfl) dL_law_633 ⟨Nat.le_of_ble_eq_true rfl, Nat.le_of_ble_eq_true rfl⟩ rfl rfl (fun Hh locs hP hD hS => ?_)
  refine lv_aload_n hx hb dL_law_636 rfl (lv_at hl 2 rfl) ?_
  refine kCallWI (r := r) (As := []) (rest := [.int r]) (sg := [wX aX adC adH adF adT X, wM ty adM M, wC ty adC C, wF ty adF F, wH ty adH adS H, wT ty adT T, wS ty adS S]) (sc := [wM ty adM M]) (s1 := [wM ty adM M]) (sn := [wX aX adC adH adF adT X, wM ty adM M, wC ty adC C, wF ty adF F, wH ty adH adS H, wT ty adT T, wS ty adS S]) ⟨hx, hb, hml, hown, hts⟩ (cX5_layers_ok l D ty adM Hh.size M r e5) (cwV 0 hts gL_law_X5_layers rfl rfl rfl (by decide +kernel) ⟨Nat.le_of_ble_eq_true rfl, Nat.le_of_ble_eq_true rfl⟩) hP hK hD hS hA [1] (by decide) rfl 5 1 rfl rfl rfl rfl hl.1 rfl (Nat.le_of_ble_eq_true rfl) dL_law_637 ⟨Nat.le_of_ble_eq_true rfl, Nat.le_of_ble_eq_true rfl⟩ rfl rfl (fun Hh locs hP hD hS => ?_)
  refine lv_icmp_eq (tgt := 1068) hx hb dL_law_640 (by decide) (fun _ => ?_) (fun z => absurd rfl z)
  exact K X M C F H T S hR1 Hh locs ls hP hD hS hl
abbrev hop_depth (RR : KX → KM → KC → KF → KH → KT → KS → Prop) : Prop := ∀ (X : KX) (M : KM) (C : KC) (F : KF) (H : KH) (T : KT) (S : KS), RR X M C F H T S → ∃ r, fX4_depth X C = some r ∧ fX5_depth M = some r ∧ RR X M C F H T S
set_option maxHeartbeats 4000000 in
set_option maxRecDepth 100000 in
theorem lwk_depth (C0 : lw_At p s m meth c b L xs) (hK : kK D ty s) (hE : kStr adK adV (fun q : Nat => s.heap.size ≤ q) s s.heap) (hop : hop_depth RR) (K : lwK p l e s m below meth c b D ty RR aX adM adC adF adH adT adS x3 1068) : lwK p l e s m below meth c b D ty RR aX adM adC adF adH adT adS x3 645 := by
  intro X M C F H T S hR Hh locs ls hP hD hS hl
  obtain ⟨hx, hb, hr, hml, hown, hts0, hX, hbl, hlocks, hgv⟩ := id C0
  have hts : ∀ w ∈ wsL_law, w.before #[Value.ref b] s = true := fun w h => hts0 w (wsL_law_in w h)
  have hA : ∀ q : Nat, s.heap.size ≤ q → (fun q : Nat => s.heap.size ≤ q) q := fun _ h => h
  have hbA : ¬ (fun q : Nat => s.heap.size ≤ q) b := Nat.not_le.mpr hbl
  obtain ⟨r, e4, e5, hR1⟩ := hop X M C F H T S hR 
  refine lv_aload_n hx hb dL_law_645 rfl (lv_at hl 1 rfl) ?_
  refine kCallWI (r := r) (As := []) (rest := []) (sg := [wX aX adC adH adF adT X, wM ty adM M, wC ty adC C, wF ty adF F, wH ty adH adS H, wT ty adT T, wS ty adS S]) (sc := [wX aX adC adH adF adT X, wC ty adC C]) (s1 := [wX aX adC adH adF adT X, wC ty adC C]) (sn := [wX aX adC adH adF adT X, wM ty adM M, wC ty adC C, wF ty adF F, wH ty adH adS H, wT ty adT T, wS ty adS S]) ⟨hx, hb, hml, hown, hts⟩ (cX4_depth_ok l D ty aX adC adF adH adT Hh.size X C r e4) (cwV 0 hts gL_law_X4_depth rfl rfl rfl (by decide +kernel) ⟨Nat.le_of_ble_eq_true rfl, Nat.le_of_ble_eq_true rfl⟩) hP hK hD hS hA [0, 2] (by decide) rfl 4 0 rfl rfl rfl rfl hl.1 rfl (Nat.le_of_ble_eq_true rfl) dL_law_646 ⟨Nat.le_of_ble_eq_true rfl, Nat.le_of_ble_eq_true rfl⟩ rfl rfl (fun Hh locs hP hD hS => ?_)
  refine lv_aload_n hx hb dL_law_649 rfl (lv_at hl 2 rfl) ?_
  refine kCallWI (r := r) (As := []) (rest := [.int r]) (sg := [wX aX adC adH adF adT X, wM ty adM M, wC ty adC C, wF ty adF F, wH ty adH adS H, wT ty adT T, wS ty adS S]) (sc := [wM ty adM M]) (s1 := [wM ty adM M]) (sn := [wX aX adC adH adF adT X, wM ty adM M, wC ty adC C, wF ty adF F, wH ty adH adS H, wT ty adT T, wS ty adS S]) ⟨hx, hb, hml, hown, hts⟩ (cX5_depth_ok l D ty adM Hh.size M r e5) (cwV 0 hts gL_law_X5_depth rfl rfl rfl (by decide +kernel) ⟨Nat.le_of_ble_eq_true rfl, Nat.le_of_ble_eq_true rfl⟩) hP hK hD hS hA [1] (by decide) rfl 5 1 rfl rfl rfl rfl hl.1 rfl (Nat.le_of_ble_eq_true rfl) dL_law_650 ⟨Nat.le_of_ble_eq_true rfl, Nat.le_of_ble_eq_true rfl⟩ rfl rfl (fun Hh locs hP hD hS => ?_)
  refine lv_icmp_eq (tgt := 1068) hx hb dL_law_653 (by decide) (fun _ => ?_) (fun z => absurd rfl z)
  exact K X M C F H T S hR1 Hh locs ls hP hD hS hl
abbrev hop_thickness (RR : KX → KM → KC → KF → KH → KT → KS → Prop) : Prop := ∀ (X : KX) (M : KM) (C : KC) (F : KF) (H : KH) (T : KT) (S : KS), RR X M C F H T S → ∀ a1 : Int32, ∃ r, fX4_thickness X C a1 = some r ∧ fX5_thickness M a1 = some r ∧ RR X M C F H T S
set_option maxHeartbeats 4000000 in
set_option maxRecDepth 100000 in
theorem lwk_thickness (C0 : lw_At p s m meth c b L xs) (hK : kK D ty s) (hE : kStr adK adV (fun q : Nat => s.heap.size ≤ q) s s.heap) (hop : hop_thickness RR) (h1 : vp_in (x3 + 1) L) (K : lwK p l e s m below meth c b D ty RR aX adM adC adF adH adT adS x3 1068) : lwK p l e s m below meth c b D ty RR aX adM adC adF adH adT adS x3 658 := by
  intro X M C F H T S hR Hh locs ls hP hD hS hl
  obtain ⟨hx, hb, hr, hml, hown, hts0, hX, hbl, hlocks, hgv⟩ := id C0
  have hts : ∀ w ∈ wsL_law, w.before #[Value.ref b] s = true := fun w h => hts0 w (wsL_law_in w h)
  have hA : ∀ q : Nat, s.heap.size ≤ q → (fun q : Nat => s.heap.size ≤ q) q := fun _ h => h
  have hbA : ¬ (fun q : Nat => s.heap.size ≤ q) b := Nat.not_le.mpr hbl
  obtain ⟨r, e4, e5, hR1⟩ := hop X M C F H T S hR (xs (x3 + 1).toNatClampNeg)
  refine lv_aload_n hx hb dL_law_658 rfl (lv_at hl 1 rfl) ?_
  refine lv_aload_n hx hb dL_law_659 rfl (lv_at hl 0 rfl) ?_
  refine lv_iload_n hx hb dL_law_660 rfl (lv_at hl 3 rfl) ?_
  refine lv_iconst (v := 1) hx hb dL_law_661 (by decide) ?_
  refine lv_iadd hx hb dL_law_662 ?_
  refine va_sld hx hb hX hbl hbA hS h1 dL_law_663 ?_
  refine kCallWI (r := r) (As := [.int (xs (x3 + 1).toNatClampNeg)]) (rest := []) (sg := [wX aX adC adH adF adT X, wM ty adM M, wC ty adC C, wF ty adF F, wH ty adH adS H, wT ty adT T, wS ty adS S]) (sc := [wX aX adC adH adF adT X, wC ty adC C]) (s1 := [wX aX adC adH adF adT X, wC ty adC C]) (sn := [wX aX adC adH adF adT X, wM ty adM M, wC ty adC C, wF ty adF F, wH ty adH adS H, wT ty adT T, wS ty adS S]) ⟨hx, hb, hml, hown, hts⟩ (cX4_thickness_ok l D ty aX adC adF adH adT Hh.size X C (xs (x3 + 1).toNatClampNeg) r e4) (cwV 1 hts gL_law_X4_thickness rfl rfl rfl (by decide +kernel) ⟨Nat.le_of_ble_eq_true rfl, Nat.le_of_ble_eq_true rfl⟩) hP hK hD hS hA [0, 2] (by decide) rfl 4 0 rfl rfl rfl rfl hl.1 rfl (Nat.le_of_ble_eq_true rfl) dL_law_664 ⟨Nat.le_of_ble_eq_true rfl, Nat.le_of_ble_eq_true rfl⟩ rfl rfl (fun Hh locs hP hD hS => ?_)
  refine lv_aload_n hx hb dL_law_667 rfl (lv_at hl 2 rfl) ?_
  refine lv_aload_n hx hb dL_law_668 rfl (lv_at hl 0 rfl) ?_
  refine lv_iload_n hx hb dL_law_669 rfl (lv_at hl 3 rfl) ?_
  refine lv_iconst (v := 1) hx hb dL_law_670 (by decide) ?_
  refine lv_iadd hx hb dL_law_671 ?_
  refine va_sld hx hb hX hbl hbA hS h1 dL_law_672 ?_
  refine kCallWI (r := r) (As := [.int (xs (x3 + 1).toNatClampNeg)]) (rest := [.int r]) (sg := [wX aX adC adH adF adT X, wM ty adM M, wC ty adC C, wF ty adF F, wH ty adH adS H, wT ty adT T, wS ty adS S]) (sc := [wM ty adM M]) (s1 := [wM ty adM M]) (sn := [wX aX adC adH adF adT X, wM ty adM M, wC ty adC C, wF ty adF F, wH ty adH adS H, wT ty adT T, wS ty adS S]) ⟨hx, hb, hml, hown, hts⟩ (cX5_thickness_ok l D ty adM Hh.size M (xs (x3 + 1).toNatClampNeg) r e5) (cwV 1 hts gL_law_X5_thickness rfl rfl rfl (by decide +kernel) ⟨Nat.le_of_ble_eq_true rfl, Nat.le_of_ble_eq_true rfl⟩) hP hK hD hS hA [1] (by decide) rfl 5 1 rfl rfl rfl rfl hl.1 rfl (Nat.le_of_ble_eq_true rfl) dL_law_673 ⟨Nat.le_of_ble_eq_true rfl, Nat.le_of_ble_eq_true rfl⟩ rfl rfl (fun Hh locs hP hD hS => ?_)
  refine lv_icmp_eq (tgt := 1068) hx hb dL_law_676 (by decide) (fun _ => ?_) (fun z => absurd rfl z)
  exact K X M C F H T S hR1 Hh locs ls hP hD hS hl
abbrev hop_accumulation (RR : KX → KM → KC → KF → KH → KT → KS → Prop) : Prop := ∀ (X : KX) (M : KM) (C : KC) (F : KF) (H : KH) (T : KT) (S : KS), RR X M C F H T S → ∀ a1 : Int32, ∃ r, fX4_accumulation X C a1 = some r ∧ fX5_accumulation M a1 = some r ∧ RR X M C F H T S
set_option maxHeartbeats 4000000 in
set_option maxRecDepth 100000 in
theorem lwk_accumulation (C0 : lw_At p s m meth c b L xs) (hK : kK D ty s) (hE : kStr adK adV (fun q : Nat => s.heap.size ≤ q) s s.heap) (hop : hop_accumulation RR) (h1 : vp_in (x3 + 1) L) (K : lwK p l e s m below meth c b D ty RR aX adM adC adF adH adT adS x3 1068) : lwK p l e s m below meth c b D ty RR aX adM adC adF adH adT adS x3 681 := by
  intro X M C F H T S hR Hh locs ls hP hD hS hl
  obtain ⟨hx, hb, hr, hml, hown, hts0, hX, hbl, hlocks, hgv⟩ := id C0
  have hts : ∀ w ∈ wsL_law, w.before #[Value.ref b] s = true := fun w h => hts0 w (wsL_law_in w h)
  have hA : ∀ q : Nat, s.heap.size ≤ q → (fun q : Nat => s.heap.size ≤ q) q := fun _ h => h
  have hbA : ¬ (fun q : Nat => s.heap.size ≤ q) b := Nat.not_le.mpr hbl
  obtain ⟨r, e4, e5, hR1⟩ := hop X M C F H T S hR (xs (x3 + 1).toNatClampNeg)
  refine lv_aload_n hx hb dL_law_681 rfl (lv_at hl 1 rfl) ?_
  refine lv_aload_n hx hb dL_law_682 rfl (lv_at hl 0 rfl) ?_
  refine lv_iload_n hx hb dL_law_683 rfl (lv_at hl 3 rfl) ?_
  refine lv_iconst (v := 1) hx hb dL_law_684 (by decide) ?_
  refine lv_iadd hx hb dL_law_685 ?_
  refine va_sld hx hb hX hbl hbA hS h1 dL_law_686 ?_
  refine kCallWI (r := r) (As := [.int (xs (x3 + 1).toNatClampNeg)]) (rest := []) (sg := [wX aX adC adH adF adT X, wM ty adM M, wC ty adC C, wF ty adF F, wH ty adH adS H, wT ty adT T, wS ty adS S]) (sc := [wX aX adC adH adF adT X, wC ty adC C]) (s1 := [wX aX adC adH adF adT X, wC ty adC C]) (sn := [wX aX adC adH adF adT X, wM ty adM M, wC ty adC C, wF ty adF F, wH ty adH adS H, wT ty adT T, wS ty adS S]) ⟨hx, hb, hml, hown, hts⟩ (cX4_accumulation_ok l D ty aX adC adF adH adT Hh.size X C (xs (x3 + 1).toNatClampNeg) r e4) (cwV 1 hts gL_law_X4_accumulation rfl rfl rfl (by decide +kernel) ⟨Nat.le_of_ble_eq_true rfl, Nat.le_of_ble_eq_true rfl⟩) hP hK hD hS hA [0, 2] (by decide) rfl 4 0 rfl rfl rfl rfl hl.1 rfl (Nat.le_of_ble_eq_true rfl) dL_law_687 ⟨Nat.le_of_ble_eq_true rfl, Nat.le_of_ble_eq_true rfl⟩ rfl rfl (fun Hh locs hP hD hS => ?_)
  refine lv_aload_n hx hb dL_law_690 rfl (lv_at hl 2 rfl) ?_
  refine lv_aload_n hx hb dL_law_691 rfl (lv_at hl 0 rfl) ?_
  refine lv_iload_n hx hb dL_law_692 rfl (lv_at hl 3 rfl) ?_
  refine lv_iconst (v := 1) hx hb dL_law_693 (by decide) ?_
  refine lv_iadd hx hb dL_law_694 ?_
  refine va_sld hx hb hX hbl hbA hS h1 dL_law_695 ?_
  refine kCallWI (r := r) (As := [.int (xs (x3 + 1).toNatClampNeg)]) (rest := [.int r]) (sg := [wX aX adC adH adF adT X, wM ty adM M, wC ty adC C, wF ty adF F, wH ty adH adS H, wT ty adT T, wS ty adS S]) (sc := [wM ty adM M]) (s1 := [wM ty adM M]) (sn := [wX aX adC adH adF adT X, wM ty adM M, wC ty adC C, wF ty adF F, wH ty adH adS H, wT ty adT T, wS ty adS S]) ⟨hx, hb, hml, hown, hts⟩ (cX5_accumulation_ok l D ty adM Hh.size M (xs (x3 + 1).toNatClampNeg) r e5) (cwV 1 hts gL_law_X5_accumulation rfl rfl rfl (by decide +kernel) ⟨Nat.le_of_ble_eq_true rfl, Nat.le_of_ble_eq_true rfl⟩) hP hK hD hS hA [1] (by decide) rfl 5 1 rfl rfl rfl rfl hl.1 rfl (Nat.le_of_ble_eq_true rfl) dL_law_696 ⟨Nat.le_of_ble_eq_true rfl, Nat.le_of_ble_eq_true rfl⟩ rfl rfl (fun Hh locs hP hD hS => ?_)
  refine lv_icmp_eq (tgt := 1068) hx hb dL_law_699 (by decide) (fun _ => ?_) (fun z => absurd rfl z)
  exact K X M C F H T S hR1 Hh locs ls hP hD hS hl
abbrev hop_correction (RR : KX → KM → KC → KF → KH → KT → KS → Prop) : Prop := ∀ (X : KX) (M : KM) (C : KC) (F : KF) (H : KH) (T : KT) (S : KS), RR X M C F H T S → ∀ a1 : Int32, ∃ r, fX4_correction X C a1 = some r ∧ fX5_correction M a1 = some r ∧ RR X M C F H T S
set_option maxHeartbeats 4000000 in
set_option maxRecDepth 100000 in
theorem lwk_correction (C0 : lw_At p s m meth c b L xs) (hK : kK D ty s) (hE : kStr adK adV (fun q : Nat => s.heap.size ≤ q) s s.heap) (hop : hop_correction RR) (h1 : vp_in (x3 + 1) L) (K : lwK p l e s m below meth c b D ty RR aX adM adC adF adH adT adS x3 1068) : lwK p l e s m below meth c b D ty RR aX adM adC adF adH adT adS x3 704 := by
  intro X M C F H T S hR Hh locs ls hP hD hS hl
  obtain ⟨hx, hb, hr, hml, hown, hts0, hX, hbl, hlocks, hgv⟩ := id C0
  have hts : ∀ w ∈ wsL_law, w.before #[Value.ref b] s = true := fun w h => hts0 w (wsL_law_in w h)
  have hA : ∀ q : Nat, s.heap.size ≤ q → (fun q : Nat => s.heap.size ≤ q) q := fun _ h => h
  have hbA : ¬ (fun q : Nat => s.heap.size ≤ q) b := Nat.not_le.mpr hbl
  obtain ⟨r, e4, e5, hR1⟩ := hop X M C F H T S hR (xs (x3 + 1).toNatClampNeg)
  refine lv_aload_n hx hb dL_law_704 rfl (lv_at hl 1 rfl) ?_
  refine lv_aload_n hx hb dL_law_705 rfl (lv_at hl 0 rfl) ?_
  refine lv_iload_n hx hb dL_law_706 rfl (lv_at hl 3 rfl) ?_
  refine lv_iconst (v := 1) hx hb dL_law_707 (by decide) ?_
  refine lv_iadd hx hb dL_law_708 ?_
  refine va_sld hx hb hX hbl hbA hS h1 dL_law_709 ?_
  refine kCallWI (r := r) (As := [.int (xs (x3 + 1).toNatClampNeg)]) (rest := []) (sg := [wX aX adC adH adF adT X, wM ty adM M, wC ty adC C, wF ty adF F, wH ty adH adS H, wT ty adT T, wS ty adS S]) (sc := [wX aX adC adH adF adT X, wC ty adC C]) (s1 := [wX aX adC adH adF adT X, wC ty adC C]) (sn := [wX aX adC adH adF adT X, wM ty adM M, wC ty adC C, wF ty adF F, wH ty adH adS H, wT ty adT T, wS ty adS S]) ⟨hx, hb, hml, hown, hts⟩ (cX4_correction_ok l D ty aX adC adF adH adT Hh.size X C (xs (x3 + 1).toNatClampNeg) r e4) (cwV 1 hts gL_law_X4_correction rfl rfl rfl (by decide +kernel) ⟨Nat.le_of_ble_eq_true rfl, Nat.le_of_ble_eq_true rfl⟩) hP hK hD hS hA [0, 2] (by decide) rfl 4 0 rfl rfl rfl rfl hl.1 rfl (Nat.le_of_ble_eq_true rfl) dL_law_710 ⟨Nat.le_of_ble_eq_true rfl, Nat.le_of_ble_eq_true rfl⟩ rfl rfl (fun Hh locs hP hD hS => ?_)
  refine lv_aload_n hx hb dL_law_713 rfl (lv_at hl 2 rfl) ?_
  refine lv_aload_n hx hb dL_law_714 rfl (lv_at hl 0 rfl) ?_
  refine lv_iload_n hx hb dL_law_715 rfl (lv_at hl 3 rfl) ?_
  refine lv_iconst (v := 1) hx hb dL_law_716 (by decide) ?_
  refine lv_iadd hx hb dL_law_717 ?_
  refine va_sld hx hb hX hbl hbA hS h1 dL_law_718 ?_
  refine kCallWI (r := r) (As := [.int (xs (x3 + 1).toNatClampNeg)]) (rest := [.int r]) (sg := [wX aX adC adH adF adT X, wM ty adM M, wC ty adC C, wF ty adF F, wH ty adH adS H, wT ty adT T, wS ty adS S]) (sc := [wM ty adM M]) (s1 := [wM ty adM M]) (sn := [wX aX adC adH adF adT X, wM ty adM M, wC ty adC C, wF ty adF F, wH ty adH adS H, wT ty adT T, wS ty adS S]) ⟨hx, hb, hml, hown, hts⟩ (cX5_correction_ok l D ty adM Hh.size M (xs (x3 + 1).toNatClampNeg) r e5) (cwV 1 hts gL_law_X5_correction rfl rfl rfl (by decide +kernel) ⟨Nat.le_of_ble_eq_true rfl, Nat.le_of_ble_eq_true rfl⟩) hP hK hD hS hA [1] (by decide) rfl 5 1 rfl rfl rfl rfl hl.1 rfl (Nat.le_of_ble_eq_true rfl) dL_law_719 ⟨Nat.le_of_ble_eq_true rfl, Nat.le_of_ble_eq_true rfl⟩ rfl rfl (fun Hh locs hP hD hS => ?_)
  refine lv_icmp_eq (tgt := 1068) hx hb dL_law_722 (by decide) (fun _ => ?_) (fun z => absurd rfl z)
  exact K X M C F H T S hR1 Hh locs ls hP hD hS hl
abbrev hop_thinning (RR : KX → KM → KC → KF → KH → KT → KS → Prop) : Prop := ∀ (X : KX) (M : KM) (C : KC) (F : KF) (H : KH) (T : KT) (S : KS), RR X M C F H T S → ∀ a1 : Int32, ∃ r, fX4_thinning X C a1 = some r ∧ fX5_thinning M a1 = some r ∧ RR X M C F H T S
set_option maxHeartbeats 4000000 in
set_option maxRecDepth 100000 in
theorem lwk_thinning (C0 : lw_At p s m meth c b L xs) (hK : kK D ty s) (hE : kStr adK adV (fun q : Nat => s.heap.size ≤ q) s s.heap) (hop : hop_thinning RR) (h1 : vp_in (x3 + 1) L) (K : lwK p l e s m below meth c b D ty RR aX adM adC adF adH adT adS x3 1068) : lwK p l e s m below meth c b D ty RR aX adM adC adF adH adT adS x3 727 := by
  intro X M C F H T S hR Hh locs ls hP hD hS hl
  obtain ⟨hx, hb, hr, hml, hown, hts0, hX, hbl, hlocks, hgv⟩ := id C0
  have hts : ∀ w ∈ wsL_law, w.before #[Value.ref b] s = true := fun w h => hts0 w (wsL_law_in w h)
  have hA : ∀ q : Nat, s.heap.size ≤ q → (fun q : Nat => s.heap.size ≤ q) q := fun _ h => h
  have hbA : ¬ (fun q : Nat => s.heap.size ≤ q) b := Nat.not_le.mpr hbl
  obtain ⟨r, e4, e5, hR1⟩ := hop X M C F H T S hR (xs (x3 + 1).toNatClampNeg)
  refine lv_aload_n hx hb dL_law_727 rfl (lv_at hl 1 rfl) ?_
  refine lv_aload_n hx hb dL_law_728 rfl (lv_at hl 0 rfl) ?_
  refine lv_iload_n hx hb dL_law_729 rfl (lv_at hl 3 rfl) ?_
  refine lv_iconst (v := 1) hx hb dL_law_730 (by decide) ?_
  refine lv_iadd hx hb dL_law_731 ?_
  refine va_sld hx hb hX hbl hbA hS h1 dL_law_732 ?_
  refine kCallWI (r := r) (As := [.int (xs (x3 + 1).toNatClampNeg)]) (rest := []) (sg := [wX aX adC adH adF adT X, wM ty adM M, wC ty adC C, wF ty adF F, wH ty adH adS H, wT ty adT T, wS ty adS S]) (sc := [wX aX adC adH adF adT X, wC ty adC C]) (s1 := [wX aX adC adH adF adT X, wC ty adC C]) (sn := [wX aX adC adH adF adT X, wM ty adM M, wC ty adC C, wF ty adF F, wH ty adH adS H, wT ty adT T, wS ty adS S]) ⟨hx, hb, hml, hown, hts⟩ (cX4_thinning_ok l D ty aX adC adF adH adT Hh.size X C (xs (x3 + 1).toNatClampNeg) r e4) (cwV 1 hts gL_law_X4_thinning rfl rfl rfl (by decide +kernel) ⟨Nat.le_of_ble_eq_true rfl, Nat.le_of_ble_eq_true rfl⟩) hP hK hD hS hA [0, 2] (by decide) rfl 4 0 rfl rfl rfl rfl hl.1 rfl (Nat.le_of_ble_eq_true rfl) dL_law_733 ⟨Nat.le_of_ble_eq_true rfl, Nat.le_of_ble_eq_true rfl⟩ rfl rfl (fun Hh locs hP hD hS => ?_)
  refine lv_aload_n hx hb dL_law_736 rfl (lv_at hl 2 rfl) ?_
  refine lv_aload_n hx hb dL_law_737 rfl (lv_at hl 0 rfl) ?_
  refine lv_iload_n hx hb dL_law_738 rfl (lv_at hl 3 rfl) ?_
  refine lv_iconst (v := 1) hx hb dL_law_739 (by decide) ?_
  refine lv_iadd hx hb dL_law_740 ?_
  refine va_sld hx hb hX hbl hbA hS h1 dL_law_741 ?_
  refine kCallWI (r := r) (As := [.int (xs (x3 + 1).toNatClampNeg)]) (rest := [.int r]) (sg := [wX aX adC adH adF adT X, wM ty adM M, wC ty adC C, wF ty adF F, wH ty adH adS H, wT ty adT T, wS ty adS S]) (sc := [wM ty adM M]) (s1 := [wM ty adM M]) (sn := [wX aX adC adH adF adT X, wM ty adM M, wC ty adC C, wF ty adF F, wH ty adH adS H, wT ty adT T, wS ty adS S]) ⟨hx, hb, hml, hown, hts⟩ (cX5_thinning_ok l D ty adM Hh.size M (xs (x3 + 1).toNatClampNeg) r e5) (cwV 1 hts gL_law_X5_thinning rfl rfl rfl (by decide +kernel) ⟨Nat.le_of_ble_eq_true rfl, Nat.le_of_ble_eq_true rfl⟩) hP hK hD hS hA [1] (by decide) rfl 5 1 rfl rfl rfl rfl hl.1 rfl (Nat.le_of_ble_eq_true rfl) dL_law_742 ⟨Nat.le_of_ble_eq_true rfl, Nat.le_of_ble_eq_true rfl⟩ rfl rfl (fun Hh locs hP hD hS => ?_)
  refine lv_icmp_eq (tgt := 1068) hx hb dL_law_745 (by decide) (fun _ => ?_) (fun z => absurd rfl z)
  exact K X M C F H T S hR1 Hh locs ls hP hD hS hl
abbrev hop_years (RR : KX → KM → KC → KF → KH → KT → KS → Prop) : Prop := ∀ (X : KX) (M : KM) (C : KC) (F : KF) (H : KH) (T : KT) (S : KS), RR X M C F H T S → ∀ a1 : Int32, ∃ r, fX4_years X C a1 = some r ∧ fX5_years M a1 = some r ∧ RR X M C F H T S
set_option maxHeartbeats 4000000 in
set_option maxRecDepth 100000 in
theorem lwk_years (C0 : lw_At p s m meth c b L xs) (hK : kK D ty s) (hE : kStr adK adV (fun q : Nat => s.heap.size ≤ q) s s.heap) (hop : hop_years RR) (h1 : vp_in (x3 + 1) L) (K : lwK p l e s m below meth c b D ty RR aX adM adC adF adH adT adS x3 1068) : lwK p l e s m below meth c b D ty RR aX adM adC adF adH adT adS x3 750 := by
  intro X M C F H T S hR Hh locs ls hP hD hS hl
  obtain ⟨hx, hb, hr, hml, hown, hts0, hX, hbl, hlocks, hgv⟩ := id C0
  have hts : ∀ w ∈ wsL_law, w.before #[Value.ref b] s = true := fun w h => hts0 w (wsL_law_in w h)
  have hA : ∀ q : Nat, s.heap.size ≤ q → (fun q : Nat => s.heap.size ≤ q) q := fun _ h => h
  have hbA : ¬ (fun q : Nat => s.heap.size ≤ q) b := Nat.not_le.mpr hbl
  obtain ⟨r, e4, e5, hR1⟩ := hop X M C F H T S hR (xs (x3 + 1).toNatClampNeg)
  refine lv_aload_n hx hb dL_law_750 rfl (lv_at hl 1 rfl) ?_
  refine lv_aload_n hx hb dL_law_751 rfl (lv_at hl 0 rfl) ?_
  refine lv_iload_n hx hb dL_law_752 rfl (lv_at hl 3 rfl) ?_
  refine lv_iconst (v := 1) hx hb dL_law_753 (by decide) ?_
  refine lv_iadd hx hb dL_law_754 ?_
  refine va_sld hx hb hX hbl hbA hS h1 dL_law_755 ?_
  refine kCallWI (r := r) (As := [.int (xs (x3 + 1).toNatClampNeg)]) (rest := []) (sg := [wX aX adC adH adF adT X, wM ty adM M, wC ty adC C, wF ty adF F, wH ty adH adS H, wT ty adT T, wS ty adS S]) (sc := [wX aX adC adH adF adT X, wC ty adC C]) (s1 := [wX aX adC adH adF adT X, wC ty adC C]) (sn := [wX aX adC adH adF adT X, wM ty adM M, wC ty adC C, wF ty adF F, wH ty adH adS H, wT ty adT T, wS ty adS S]) ⟨hx, hb, hml, hown, hts⟩ (cX4_years_ok l D ty aX adC adF adH adT Hh.size X C (xs (x3 + 1).toNatClampNeg) r e4) (cwV 1 hts gL_law_X4_years rfl rfl rfl (by decide +kernel) ⟨Nat.le_of_ble_eq_true rfl, Nat.le_of_ble_eq_true rfl⟩) hP hK hD hS hA [0, 2] (by decide) rfl 4 0 rfl rfl rfl rfl hl.1 rfl (Nat.le_of_ble_eq_true rfl) dL_law_756 ⟨Nat.le_of_ble_eq_true rfl, Nat.le_of_ble_eq_true rfl⟩ rfl rfl (fun Hh locs hP hD hS => ?_)
  refine lv_aload_n hx hb dL_law_759 rfl (lv_at hl 2 rfl) ?_
  refine lv_aload_n hx hb dL_law_760 rfl (lv_at hl 0 rfl) ?_
  refine lv_iload_n hx hb dL_law_761 rfl (lv_at hl 3 rfl) ?_
  refine lv_iconst (v := 1) hx hb dL_law_762 (by decide) ?_
  refine lv_iadd hx hb dL_law_763 ?_
  refine va_sld hx hb hX hbl hbA hS h1 dL_law_764 ?_
  refine kCallWI (r := r) (As := [.int (xs (x3 + 1).toNatClampNeg)]) (rest := [.int r]) (sg := [wX aX adC adH adF adT X, wM ty adM M, wC ty adC C, wF ty adF F, wH ty adH adS H, wT ty adT T, wS ty adS S]) (sc := [wM ty adM M]) (s1 := [wM ty adM M]) (sn := [wX aX adC adH adF adT X, wM ty adM M, wC ty adC C, wF ty adF F, wH ty adH adS H, wT ty adT T, wS ty adS S]) ⟨hx, hb, hml, hown, hts⟩ (cX5_years_ok l D ty adM Hh.size M (xs (x3 + 1).toNatClampNeg) r e5) (cwV 1 hts gL_law_X5_years rfl rfl rfl (by decide +kernel) ⟨Nat.le_of_ble_eq_true rfl, Nat.le_of_ble_eq_true rfl⟩) hP hK hD hS hA [1] (by decide) rfl 5 1 rfl rfl rfl rfl hl.1 rfl (Nat.le_of_ble_eq_true rfl) dL_law_765 ⟨Nat.le_of_ble_eq_true rfl, Nat.le_of_ble_eq_true rfl⟩ rfl rfl (fun Hh locs hP hD hS => ?_)
  refine lv_icmp_eq (tgt := 1068) hx hb dL_law_768 (by decide) (fun _ => ?_) (fun z => absurd rfl z)
  exact K X M C F H T S hR1 Hh locs ls hP hD hS hl
abbrev hop_delay (RR : KX → KM → KC → KF → KH → KT → KS → Prop) : Prop := ∀ (X : KX) (M : KM) (C : KC) (F : KF) (H : KH) (T : KT) (S : KS), RR X M C F H T S → ∀ a1 : Int32, ∃ r, fX4_delay X C a1 = some r ∧ fX5_delay M a1 = some r ∧ RR X M C F H T S
set_option maxHeartbeats 4000000 in
set_option maxRecDepth 100000 in
theorem lwk_delay (C0 : lw_At p s m meth c b L xs) (hK : kK D ty s) (hE : kStr adK adV (fun q : Nat => s.heap.size ≤ q) s s.heap) (hop : hop_delay RR) (h1 : vp_in (x3 + 1) L) (K : lwK p l e s m below meth c b D ty RR aX adM adC adF adH adT adS x3 1068) : lwK p l e s m below meth c b D ty RR aX adM adC adF adH adT adS x3 773 := by
  intro X M C F H T S hR Hh locs ls hP hD hS hl
  obtain ⟨hx, hb, hr, hml, hown, hts0, hX, hbl, hlocks, hgv⟩ := id C0
  have hts : ∀ w ∈ wsL_law, w.before #[Value.ref b] s = true := fun w h => hts0 w (wsL_law_in w h)
  have hA : ∀ q : Nat, s.heap.size ≤ q → (fun q : Nat => s.heap.size ≤ q) q := fun _ h => h
  have hbA : ¬ (fun q : Nat => s.heap.size ≤ q) b := Nat.not_le.mpr hbl
  obtain ⟨r, e4, e5, hR1⟩ := hop X M C F H T S hR (xs (x3 + 1).toNatClampNeg)
  refine lv_aload_n hx hb dL_law_773 rfl (lv_at hl 1 rfl) ?_
  refine lv_aload_n hx hb dL_law_774 rfl (lv_at hl 0 rfl) ?_
  refine lv_iload_n hx hb dL_law_775 rfl (lv_at hl 3 rfl) ?_
  refine lv_iconst (v := 1) hx hb dL_law_776 (by decide) ?_
  refine lv_iadd hx hb dL_law_777 ?_
  refine va_sld hx hb hX hbl hbA hS h1 dL_law_778 ?_
  refine kCallWI (r := r) (As := [.int (xs (x3 + 1).toNatClampNeg)]) (rest := []) (sg := [wX aX adC adH adF adT X, wM ty adM M, wC ty adC C, wF ty adF F, wH ty adH adS H, wT ty adT T, wS ty adS S]) (sc := [wX aX adC adH adF adT X, wC ty adC C]) (s1 := [wX aX adC adH adF adT X, wC ty adC C]) (sn := [wX aX adC adH adF adT X, wM ty adM M, wC ty adC C, wF ty adF F, wH ty adH adS H, wT ty adT T, wS ty adS S]) ⟨hx, hb, hml, hown, hts⟩ (cX4_delay_ok l D ty aX adC adF adH adT Hh.size X C (xs (x3 + 1).toNatClampNeg) r e4) (cwV 1 hts gL_law_X4_delay rfl rfl rfl (by decide +kernel) ⟨Nat.le_of_ble_eq_true rfl, Nat.le_of_ble_eq_true rfl⟩) hP hK hD hS hA [0, 2] (by decide) rfl 4 0 rfl rfl rfl rfl hl.1 rfl (Nat.le_of_ble_eq_true rfl) dL_law_779 ⟨Nat.le_of_ble_eq_true rfl, Nat.le_of_ble_eq_true rfl⟩ rfl rfl (fun Hh locs hP hD hS => ?_)
  refine lv_aload_n hx hb dL_law_782 rfl (lv_at hl 2 rfl) ?_
  refine lv_aload_n hx hb dL_law_783 rfl (lv_at hl 0 rfl) ?_
  refine lv_iload_n hx hb dL_law_784 rfl (lv_at hl 3 rfl) ?_
  refine lv_iconst (v := 1) hx hb dL_law_785 (by decide) ?_
  refine lv_iadd hx hb dL_law_786 ?_
  refine va_sld hx hb hX hbl hbA hS h1 dL_law_787 ?_
  refine kCallWI (r := r) (As := [.int (xs (x3 + 1).toNatClampNeg)]) (rest := [.int r]) (sg := [wX aX adC adH adF adT X, wM ty adM M, wC ty adC C, wF ty adF F, wH ty adH adS H, wT ty adT T, wS ty adS S]) (sc := [wM ty adM M]) (s1 := [wM ty adM M]) (sn := [wX aX adC adH adF adT X, wM ty adM M, wC ty adC C, wF ty adF F, wH ty adH adS H, wT ty adT T, wS ty adS S]) ⟨hx, hb, hml, hown, hts⟩ (cX5_delay_ok l D ty adM Hh.size M (xs (x3 + 1).toNatClampNeg) r e5) (cwV 1 hts gL_law_X5_delay rfl rfl rfl (by decide +kernel) ⟨Nat.le_of_ble_eq_true rfl, Nat.le_of_ble_eq_true rfl⟩) hP hK hD hS hA [1] (by decide) rfl 5 1 rfl rfl rfl rfl hl.1 rfl (Nat.le_of_ble_eq_true rfl) dL_law_788 ⟨Nat.le_of_ble_eq_true rfl, Nat.le_of_ble_eq_true rfl⟩ rfl rfl (fun Hh locs hP hD hS => ?_)
  refine lv_icmp_eq (tgt := 1068) hx hb dL_law_791 (by decide) (fun _ => ?_) (fun z => absurd rfl z)
  exact K X M C F H T S hR1 Hh locs ls hP hD hS hl
abbrev hop_residual (RR : KX → KM → KC → KF → KH → KT → KS → Prop) : Prop := ∀ (X : KX) (M : KM) (C : KC) (F : KF) (H : KH) (T : KT) (S : KS), RR X M C F H T S → ∀ a1 : Int32, ∃ r, fX4_residual X C a1 = some r ∧ fX5_residual M a1 = some r ∧ RR X M C F H T S
set_option maxHeartbeats 4000000 in
set_option maxRecDepth 100000 in
theorem lwk_residual (C0 : lw_At p s m meth c b L xs) (hK : kK D ty s) (hE : kStr adK adV (fun q : Nat => s.heap.size ≤ q) s s.heap) (hop : hop_residual RR) (h1 : vp_in (x3 + 1) L) (K : lwK p l e s m below meth c b D ty RR aX adM adC adF adH adT adS x3 1068) : lwK p l e s m below meth c b D ty RR aX adM adC adF adH adT adS x3 796 := by
  intro X M C F H T S hR Hh locs ls hP hD hS hl
  obtain ⟨hx, hb, hr, hml, hown, hts0, hX, hbl, hlocks, hgv⟩ := id C0
  have hts : ∀ w ∈ wsL_law, w.before #[Value.ref b] s = true := fun w h => hts0 w (wsL_law_in w h)
  have hA : ∀ q : Nat, s.heap.size ≤ q → (fun q : Nat => s.heap.size ≤ q) q := fun _ h => h
  have hbA : ¬ (fun q : Nat => s.heap.size ≤ q) b := Nat.not_le.mpr hbl
  obtain ⟨r, e4, e5, hR1⟩ := hop X M C F H T S hR (xs (x3 + 1).toNatClampNeg)
  refine lv_aload_n hx hb dL_law_796 rfl (lv_at hl 1 rfl) ?_
  refine lv_aload_n hx hb dL_law_797 rfl (lv_at hl 0 rfl) ?_
  refine lv_iload_n hx hb dL_law_798 rfl (lv_at hl 3 rfl) ?_
  refine lv_iconst (v := 1) hx hb dL_law_799 (by decide) ?_
  refine lv_iadd hx hb dL_law_800 ?_
  refine va_sld hx hb hX hbl hbA hS h1 dL_law_801 ?_
  refine kCallWI (r := r) (As := [.int (xs (x3 + 1).toNatClampNeg)]) (rest := []) (sg := [wX aX adC adH adF adT X, wM ty adM M, wC ty adC C, wF ty adF F, wH ty adH adS H, wT ty adT T, wS ty adS S]) (sc := [wX aX adC adH adF adT X, wC ty adC C]) (s1 := [wX aX adC adH adF adT X, wC ty adC C]) (sn := [wX aX adC adH adF adT X, wM ty adM M, wC ty adC C, wF ty adF F, wH ty adH adS H, wT ty adT T, wS ty adS S]) ⟨hx, hb, hml, hown, hts⟩ (cX4_residual_ok l D ty aX adC adF adH adT Hh.size X C (xs (x3 + 1).toNatClampNeg) r e4) (cwV 1 hts gL_law_X4_residual rfl rfl rfl (by decide +kernel) ⟨Nat.le_of_ble_eq_true rfl, Nat.le_of_ble_eq_true rfl⟩) hP hK hD hS hA [0, 2] (by decide) rfl 4 0 rfl rfl rfl rfl hl.1 rfl (Nat.le_of_ble_eq_true rfl) dL_law_802 ⟨Nat.le_of_ble_eq_true rfl, Nat.le_of_ble_eq_true rfl⟩ rfl rfl (fun Hh locs hP hD hS => ?_)
  refine lv_aload_n hx hb dL_law_805 rfl (lv_at hl 2 rfl) ?_
  refine lv_aload_n hx hb dL_law_806 rfl (lv_at hl 0 rfl) ?_
  refine lv_iload_n hx hb dL_law_807 rfl (lv_at hl 3 rfl) ?_
  refine lv_iconst (v := 1) hx hb dL_law_808 (by decide) ?_
  refine lv_iadd hx hb dL_law_809 ?_
  refine va_sld hx hb hX hbl hbA hS h1 dL_law_810 ?_
  refine kCallWI (r := r) (As := [.int (xs (x3 + 1).toNatClampNeg)]) (rest := [.int r]) (sg := [wX aX adC adH adF adT X, wM ty adM M, wC ty adC C, wF ty adF F, wH ty adH adS H, wT ty adT T, wS ty adS S]) (sc := [wM ty adM M]) (s1 := [wM ty adM M]) (sn := [wX aX adC adH adF adT X, wM ty adM M, wC ty adC C, wF ty adF F, wH ty adH adS H, wT ty adT T, wS ty adS S]) ⟨hx, hb, hml, hown, hts⟩ (cX5_residual_ok l D ty adM Hh.size M (xs (x3 + 1).toNatClampNeg) r e5) (cwV 1 hts gL_law_X5_residual rfl rfl rfl (by decide +kernel) ⟨Nat.le_of_ble_eq_true rfl, Nat.le_of_ble_eq_true rfl⟩) hP hK hD hS hA [1] (by decide) rfl 5 1 rfl rfl rfl rfl hl.1 rfl (Nat.le_of_ble_eq_true rfl) dL_law_811 ⟨Nat.le_of_ble_eq_true rfl, Nat.le_of_ble_eq_true rfl⟩ rfl rfl (fun Hh locs hP hD hS => ?_)
  refine lv_icmp_eq (tgt := 1068) hx hb dL_law_814 (by decide) (fun _ => ?_) (fun z => absurd rfl z)
  exact K X M C F H T S hR1 Hh locs ls hP hD hS hl
abbrev hop_countError (RR : KX → KM → KC → KF → KH → KT → KS → Prop) : Prop := ∀ (X : KX) (M : KM) (C : KC) (F : KF) (H : KH) (T : KT) (S : KS), RR X M C F H T S → ∀ a1 : Int32, ∃ r, fX4_countError X C a1 = some r ∧ fX5_countError M a1 = some r ∧ RR X M C F H T S
set_option maxHeartbeats 4000000 in
set_option maxRecDepth 100000 in
theorem lwk_countError (C0 : lw_At p s m meth c b L xs) (hK : kK D ty s) (hE : kStr adK adV (fun q : Nat => s.heap.size ≤ q) s s.heap) (hop : hop_countError RR) (h1 : vp_in (x3 + 1) L) (K : lwK p l e s m below meth c b D ty RR aX adM adC adF adH adT adS x3 1068) : lwK p l e s m below meth c b D ty RR aX adM adC adF adH adT adS x3 819 := by
  intro X M C F H T S hR Hh locs ls hP hD hS hl
  obtain ⟨hx, hb, hr, hml, hown, hts0, hX, hbl, hlocks, hgv⟩ := id C0
  have hts : ∀ w ∈ wsL_law, w.before #[Value.ref b] s = true := fun w h => hts0 w (wsL_law_in w h)
  have hA : ∀ q : Nat, s.heap.size ≤ q → (fun q : Nat => s.heap.size ≤ q) q := fun _ h => h
  have hbA : ¬ (fun q : Nat => s.heap.size ≤ q) b := Nat.not_le.mpr hbl
  obtain ⟨r, e4, e5, hR1⟩ := hop X M C F H T S hR (xs (x3 + 1).toNatClampNeg)
  refine lv_aload_n hx hb dL_law_819 rfl (lv_at hl 1 rfl) ?_
  refine lv_aload_n hx hb dL_law_820 rfl (lv_at hl 0 rfl) ?_
  refine lv_iload_n hx hb dL_law_821 rfl (lv_at hl 3 rfl) ?_
  refine lv_iconst (v := 1) hx hb dL_law_822 (by decide) ?_
  refine lv_iadd hx hb dL_law_823 ?_
  refine va_sld hx hb hX hbl hbA hS h1 dL_law_824 ?_
  refine kCallWI (r := r) (As := [.int (xs (x3 + 1).toNatClampNeg)]) (rest := []) (sg := [wX aX adC adH adF adT X, wM ty adM M, wC ty adC C, wF ty adF F, wH ty adH adS H, wT ty adT T, wS ty adS S]) (sc := [wX aX adC adH adF adT X, wC ty adC C]) (s1 := [wX aX adC adH adF adT X, wC ty adC C]) (sn := [wX aX adC adH adF adT X, wM ty adM M, wC ty adC C, wF ty adF F, wH ty adH adS H, wT ty adT T, wS ty adS S]) ⟨hx, hb, hml, hown, hts⟩ (cX4_countError_ok l D ty aX adC adF adH adT Hh.size X C (xs (x3 + 1).toNatClampNeg) r e4) (cwV 1 hts gL_law_X4_countError rfl rfl rfl (by decide +kernel) ⟨Nat.le_of_ble_eq_true rfl, Nat.le_of_ble_eq_true rfl⟩) hP hK hD hS hA [0, 2] (by decide) rfl 4 0 rfl rfl rfl rfl hl.1 rfl (Nat.le_of_ble_eq_true rfl) dL_law_825 ⟨Nat.le_of_ble_eq_true rfl, Nat.le_of_ble_eq_true rfl⟩ rfl rfl (fun Hh locs hP hD hS => ?_)
  refine lv_aload_n hx hb dL_law_828 rfl (lv_at hl 2 rfl) ?_
  refine lv_aload_n hx hb dL_law_829 rfl (lv_at hl 0 rfl) ?_
  refine lv_iload_n hx hb dL_law_830 rfl (lv_at hl 3 rfl) ?_
  refine lv_iconst (v := 1) hx hb dL_law_831 (by decide) ?_
  refine lv_iadd hx hb dL_law_832 ?_
  refine va_sld hx hb hX hbl hbA hS h1 dL_law_833 ?_
  refine kCallWI (r := r) (As := [.int (xs (x3 + 1).toNatClampNeg)]) (rest := [.int r]) (sg := [wX aX adC adH adF adT X, wM ty adM M, wC ty adC C, wF ty adF F, wH ty adH adS H, wT ty adT T, wS ty adS S]) (sc := [wM ty adM M]) (s1 := [wM ty adM M]) (sn := [wX aX adC adH adF adT X, wM ty adM M, wC ty adC C, wF ty adF F, wH ty adH adS H, wT ty adT T, wS ty adS S]) ⟨hx, hb, hml, hown, hts⟩ (cX5_countError_ok l D ty adM Hh.size M (xs (x3 + 1).toNatClampNeg) r e5) (cwV 1 hts gL_law_X5_countError rfl rfl rfl (by decide +kernel) ⟨Nat.le_of_ble_eq_true rfl, Nat.le_of_ble_eq_true rfl⟩) hP hK hD hS hA [1] (by decide) rfl 5 1 rfl rfl rfl rfl hl.1 rfl (Nat.le_of_ble_eq_true rfl) dL_law_834 ⟨Nat.le_of_ble_eq_true rfl, Nat.le_of_ble_eq_true rfl⟩ rfl rfl (fun Hh locs hP hD hS => ?_)
  refine lv_icmp_eq (tgt := 1068) hx hb dL_law_837 (by decide) (fun _ => ?_) (fun z => absurd rfl z)
  exact K X M C F H T S hR1 Hh locs ls hP hD hS hl
abbrev hop_fitting (RR : KX → KM → KC → KF → KH → KT → KS → Prop) : Prop := ∀ (X : KX) (M : KM) (C : KC) (F : KF) (H : KH) (T : KT) (S : KS), RR X M C F H T S → ∃ r, fX4_fitting X C = some r ∧ fX5_fitting M = some r ∧ RR X M C F H T S
set_option maxHeartbeats 4000000 in
set_option maxRecDepth 100000 in
theorem lwk_fitting (C0 : lw_At p s m meth c b L xs) (hK : kK D ty s) (hE : kStr adK adV (fun q : Nat => s.heap.size ≤ q) s s.heap) (hop : hop_fitting RR) (K : lwK p l e s m below meth c b D ty RR aX adM adC adF adH adT adS x3 1068) : lwK p l e s m below meth c b D ty RR aX adM adC adF adH adT adS x3 842 := by
  intro X M C F H T S hR Hh locs ls hP hD hS hl
  obtain ⟨hx, hb, hr, hml, hown, hts0, hX, hbl, hlocks, hgv⟩ := id C0
  have hts : ∀ w ∈ wsL_law, w.before #[Value.ref b] s = true := fun w h => hts0 w (wsL_law_in w h)
  have hA : ∀ q : Nat, s.heap.size ≤ q → (fun q : Nat => s.heap.size ≤ q) q := fun _ h => h
  have hbA : ¬ (fun q : Nat => s.heap.size ≤ q) b := Nat.not_le.mpr hbl
  obtain ⟨r, e4, e5, hR1⟩ := hop X M C F H T S hR 
  refine lv_aload_n hx hb dL_law_842 rfl (lv_at hl 1 rfl) ?_
  refine kCallWI (r := r) (As := []) (rest := []) (sg := [wX aX adC adH adF adT X, wM ty adM M, wC ty adC C, wF ty adF F, wH ty adH adS H, wT ty adT T, wS ty adS S]) (sc := [wX aX adC adH adF adT X, wC ty adC C]) (s1 := [wX aX adC adH adF adT X, wC ty adC C]) (sn := [wX aX adC adH adF adT X, wM ty adM M, wC ty adC C, wF ty adF F, wH ty adH adS H, wT ty adT T, wS ty adS S]) ⟨hx, hb, hml, hown, hts⟩ (cX4_fitting_ok l D ty aX adC adF adH adT Hh.size X C r e4) (cwV 0 hts gL_law_X4_fitting rfl rfl rfl (by decide +kernel) ⟨Nat.le_of_ble_eq_true rfl, Nat.le_of_ble_eq_true rfl⟩) hP hK hD hS hA [0, 2] (by decide) rfl 4 0 rfl rfl rfl rfl hl.1 rfl (Nat.le_of_ble_eq_true rfl) dL_law_843 ⟨Nat.le_of_ble_eq_true rfl, Nat.le_of_ble_eq_true rfl⟩ rfl rfl (fun Hh locs hP hD hS => ?_)
  refine lv_aload_n hx hb dL_law_846 rfl (lv_at hl 2 rfl) ?_
  refine kCallWI (r := r) (As := []) (rest := [.int r]) (sg := [wX aX adC adH adF adT X, wM ty adM M, wC ty adC C, wF ty adF F, wH ty adH adS H, wT ty adT T, wS ty adS S]) (sc := [wM ty adM M]) (s1 := [wM ty adM M]) (sn := [wX aX adC adH adF adT X, wM ty adM M, wC ty adC C, wF ty adF F, wH ty adH adS H, wT ty adT T, wS ty adS S]) ⟨hx, hb, hml, hown, hts⟩ (cX5_fitting_ok l D ty adM Hh.size M r e5) (cwV 0 hts gL_law_X5_fitting rfl rfl rfl (by decide +kernel) ⟨Nat.le_of_ble_eq_true rfl, Nat.le_of_ble_eq_true rfl⟩) hP hK hD hS hA [1] (by decide) rfl 5 1 rfl rfl rfl rfl hl.1 rfl (Nat.le_of_ble_eq_true rfl) dL_law_847 ⟨Nat.le_of_ble_eq_true rfl, Nat.le_of_ble_eq_true rfl⟩ rfl rfl (fun Hh locs hP hD hS => ?_)
  refine lv_icmp_eq (tgt := 1068) hx hb dL_law_850 (by decide) (fun _ => ?_) (fun z => absurd rfl z)
  exact K X M C F H T S hR1 Hh locs ls hP hD hS hl
abbrev hop_age (RR : KX → KM → KC → KF → KH → KT → KS → Prop) : Prop := ∀ (X : KX) (M : KM) (C : KC) (F : KF) (H : KH) (T : KT) (S : KS), RR X M C F H T S → ∀ a1 : Int32, ∃ r, fX4_age X C a1 = some r ∧ fX5_age M a1 = some r ∧ RR X M C F H T S
set_option maxHeartbeats 4000000 in
set_option maxRecDepth 100000 in
theorem lwk_age (C0 : lw_At p s m meth c b L xs) (hK : kK D ty s) (hE : kStr adK adV (fun q : Nat => s.heap.size ≤ q) s s.heap) (hop : hop_age RR) (h1 : vp_in (x3 + 1) L) (K : lwK p l e s m below meth c b D ty RR aX adM adC adF adH adT adS x3 1068) : lwK p l e s m below meth c b D ty RR aX adM adC adF adH adT adS x3 855 := by
  intro X M C F H T S hR Hh locs ls hP hD hS hl
  obtain ⟨hx, hb, hr, hml, hown, hts0, hX, hbl, hlocks, hgv⟩ := id C0
  have hts : ∀ w ∈ wsL_law, w.before #[Value.ref b] s = true := fun w h => hts0 w (wsL_law_in w h)
  have hA : ∀ q : Nat, s.heap.size ≤ q → (fun q : Nat => s.heap.size ≤ q) q := fun _ h => h
  have hbA : ¬ (fun q : Nat => s.heap.size ≤ q) b := Nat.not_le.mpr hbl
  obtain ⟨r, e4, e5, hR1⟩ := hop X M C F H T S hR (xs (x3 + 1).toNatClampNeg)
  refine lv_aload_n hx hb dL_law_855 rfl (lv_at hl 1 rfl) ?_
  refine lv_aload_n hx hb dL_law_856 rfl (lv_at hl 0 rfl) ?_
  refine lv_iload_n hx hb dL_law_857 rfl (lv_at hl 3 rfl) ?_
  refine lv_iconst (v := 1) hx hb dL_law_858 (by decide) ?_
  refine lv_iadd hx hb dL_law_859 ?_
  refine va_sld hx hb hX hbl hbA hS h1 dL_law_860 ?_
  refine kCallWI (r := r) (As := [.int (xs (x3 + 1).toNatClampNeg)]) (rest := []) (sg := [wX aX adC adH adF adT X, wM ty adM M, wC ty adC C, wF ty adF F, wH ty adH adS H, wT ty adT T, wS ty adS S]) (sc := [wX aX adC adH adF adT X, wC ty adC C]) (s1 := [wX aX adC adH adF adT X, wC ty adC C]) (sn := [wX aX adC adH adF adT X, wM ty adM M, wC ty adC C, wF ty adF F, wH ty adH adS H, wT ty adT T, wS ty adS S]) ⟨hx, hb, hml, hown, hts⟩ (cX4_age_ok l D ty aX adC adF adH adT Hh.size X C (xs (x3 + 1).toNatClampNeg) r e4) (cwV 1 hts gL_law_X4_age rfl rfl rfl (by decide +kernel) ⟨Nat.le_of_ble_eq_true rfl, Nat.le_of_ble_eq_true rfl⟩) hP hK hD hS hA [0, 2] (by decide) rfl 4 0 rfl rfl rfl rfl hl.1 rfl (Nat.le_of_ble_eq_true rfl) dL_law_861 ⟨Nat.le_of_ble_eq_true rfl, Nat.le_of_ble_eq_true rfl⟩ rfl rfl (fun Hh locs hP hD hS => ?_)
  refine lv_aload_n hx hb dL_law_864 rfl (lv_at hl 2 rfl) ?_
  refine lv_aload_n hx hb dL_law_865 rfl (lv_at hl 0 rfl) ?_
  refine lv_iload_n hx hb dL_law_866 rfl (lv_at hl 3 rfl) ?_
  refine lv_iconst (v := 1) hx hb dL_law_867 (by decide) ?_
  refine lv_iadd hx hb dL_law_868 ?_
  refine va_sld hx hb hX hbl hbA hS h1 dL_law_869 ?_
  refine kCallWI (r := r) (As := [.int (xs (x3 + 1).toNatClampNeg)]) (rest := [.int r]) (sg := [wX aX adC adH adF adT X, wM ty adM M, wC ty adC C, wF ty adF F, wH ty adH adS H, wT ty adT T, wS ty adS S]) (sc := [wM ty adM M]) (s1 := [wM ty adM M]) (sn := [wX aX adC adH adF adT X, wM ty adM M, wC ty adC C, wF ty adF F, wH ty adH adS H, wT ty adT T, wS ty adS S]) ⟨hx, hb, hml, hown, hts⟩ (cX5_age_ok l D ty adM Hh.size M (xs (x3 + 1).toNatClampNeg) r e5) (cwV 1 hts gL_law_X5_age rfl rfl rfl (by decide +kernel) ⟨Nat.le_of_ble_eq_true rfl, Nat.le_of_ble_eq_true rfl⟩) hP hK hD hS hA [1] (by decide) rfl 5 1 rfl rfl rfl rfl hl.1 rfl (Nat.le_of_ble_eq_true rfl) dL_law_870 ⟨Nat.le_of_ble_eq_true rfl, Nat.le_of_ble_eq_true rfl⟩ rfl rfl (fun Hh locs hP hD hS => ?_)
  refine lv_icmp_eq (tgt := 1068) hx hb dL_law_873 (by decide) (fun _ => ?_) (fun z => absurd rfl z)
  exact K X M C F H T S hR1 Hh locs ls hP hD hS hl
abbrev hop_gasAge (RR : KX → KM → KC → KF → KH → KT → KS → Prop) : Prop := ∀ (X : KX) (M : KM) (C : KC) (F : KF) (H : KH) (T : KT) (S : KS), RR X M C F H T S → ∀ a1 : Int32, ∃ r, fX4_gasAge X C a1 = some r ∧ fX5_gasAge M a1 = some r ∧ RR X M C F H T S
set_option maxHeartbeats 4000000 in
set_option maxRecDepth 100000 in
theorem lwk_gasAge (C0 : lw_At p s m meth c b L xs) (hK : kK D ty s) (hE : kStr adK adV (fun q : Nat => s.heap.size ≤ q) s s.heap) (hop : hop_gasAge RR) (h1 : vp_in (x3 + 1) L) (K : lwK p l e s m below meth c b D ty RR aX adM adC adF adH adT adS x3 1068) : lwK p l e s m below meth c b D ty RR aX adM adC adF adH adT adS x3 878 := by
  intro X M C F H T S hR Hh locs ls hP hD hS hl
  obtain ⟨hx, hb, hr, hml, hown, hts0, hX, hbl, hlocks, hgv⟩ := id C0
  have hts : ∀ w ∈ wsL_law, w.before #[Value.ref b] s = true := fun w h => hts0 w (wsL_law_in w h)
  have hA : ∀ q : Nat, s.heap.size ≤ q → (fun q : Nat => s.heap.size ≤ q) q := fun _ h => h
  have hbA : ¬ (fun q : Nat => s.heap.size ≤ q) b := Nat.not_le.mpr hbl
  obtain ⟨r, e4, e5, hR1⟩ := hop X M C F H T S hR (xs (x3 + 1).toNatClampNeg)
  refine lv_aload_n hx hb dL_law_878 rfl (lv_at hl 1 rfl) ?_
  refine lv_aload_n hx hb dL_law_879 rfl (lv_at hl 0 rfl) ?_
  refine lv_iload_n hx hb dL_law_880 rfl (lv_at hl 3 rfl) ?_
  refine lv_iconst (v := 1) hx hb dL_law_881 (by decide) ?_
  refine lv_iadd hx hb dL_law_882 ?_
  refine va_sld hx hb hX hbl hbA hS h1 dL_law_883 ?_
  refine kCallWI (r := r) (As := [.int (xs (x3 + 1).toNatClampNeg)]) (rest := []) (sg := [wX aX adC adH adF adT X, wM ty adM M, wC ty adC C, wF ty adF F, wH ty adH adS H, wT ty adT T, wS ty adS S]) (sc := [wX aX adC adH adF adT X, wC ty adC C]) (s1 := [wX aX adC adH adF adT X, wC ty adC C]) (sn := [wX aX adC adH adF adT X, wM ty adM M, wC ty adC C, wF ty adF F, wH ty adH adS H, wT ty adT T, wS ty adS S]) ⟨hx, hb, hml, hown, hts⟩ (cX4_gasAge_ok l D ty aX adC adF adH adT Hh.size X C (xs (x3 + 1).toNatClampNeg) r e4) (cwV 1 hts gL_law_X4_gasAge rfl rfl rfl (by decide +kernel) ⟨Nat.le_of_ble_eq_true rfl, Nat.le_of_ble_eq_true rfl⟩) hP hK hD hS hA [0, 2] (by decide) rfl 4 0 rfl rfl rfl rfl hl.1 rfl (Nat.le_of_ble_eq_true rfl) dL_law_884 ⟨Nat.le_of_ble_eq_true rfl, Nat.le_of_ble_eq_true rfl⟩ rfl rfl (fun Hh locs hP hD hS => ?_)
  refine lv_aload_n hx hb dL_law_887 rfl (lv_at hl 2 rfl) ?_
  refine lv_aload_n hx hb dL_law_888 rfl (lv_at hl 0 rfl) ?_
  refine lv_iload_n hx hb dL_law_889 rfl (lv_at hl 3 rfl) ?_
  refine lv_iconst (v := 1) hx hb dL_law_890 (by decide) ?_
  refine lv_iadd hx hb dL_law_891 ?_
  refine va_sld hx hb hX hbl hbA hS h1 dL_law_892 ?_
  refine kCallWI (r := r) (As := [.int (xs (x3 + 1).toNatClampNeg)]) (rest := [.int r]) (sg := [wX aX adC adH adF adT X, wM ty adM M, wC ty adC C, wF ty adF F, wH ty adH adS H, wT ty adT T, wS ty adS S]) (sc := [wM ty adM M]) (s1 := [wM ty adM M]) (sn := [wX aX adC adH adF adT X, wM ty adM M, wC ty adC C, wF ty adF F, wH ty adH adS H, wT ty adT T, wS ty adS S]) ⟨hx, hb, hml, hown, hts⟩ (cX5_gasAge_ok l D ty adM Hh.size M (xs (x3 + 1).toNatClampNeg) r e5) (cwV 1 hts gL_law_X5_gasAge rfl rfl rfl (by decide +kernel) ⟨Nat.le_of_ble_eq_true rfl, Nat.le_of_ble_eq_true rfl⟩) hP hK hD hS hA [1] (by decide) rfl 5 1 rfl rfl rfl rfl hl.1 rfl (Nat.le_of_ble_eq_true rfl) dL_law_893 ⟨Nat.le_of_ble_eq_true rfl, Nat.le_of_ble_eq_true rfl⟩ rfl rfl (fun Hh locs hP hD hS => ?_)
  refine lv_icmp_eq (tgt := 1068) hx hb dL_law_896 (by decide) (fun _ => ?_) (fun z => absurd rfl z)
  exact K X M C F H T S hR1 Hh locs ls hP hD hS hl
abbrev hop_depthOf (RR : KX → KM → KC → KF → KH → KT → KS → Prop) : Prop := ∀ (X : KX) (M : KM) (C : KC) (F : KF) (H : KH) (T : KT) (S : KS), RR X M C F H T S → ∀ a1 : Int32, ∃ r, fX4_depthOf X C a1 = some r ∧ fX5_depthOf M a1 = some r ∧ RR X M C F H T S
set_option maxHeartbeats 4000000 in
set_option maxRecDepth 100000 in
theorem lwk_depthOf (C0 : lw_At p s m meth c b L xs) (hK : kK D ty s) (hE : kStr adK adV (fun q : Nat => s.heap.size ≤ q) s s.heap) (hop : hop_depthOf RR) (h1 : vp_in (x3 + 1) L) (K : lwK p l e s m below meth c b D ty RR aX adM adC adF adH adT adS x3 1068) : lwK p l e s m below meth c b D ty RR aX adM adC adF adH adT adS x3 901 := by
  intro X M C F H T S hR Hh locs ls hP hD hS hl
  obtain ⟨hx, hb, hr, hml, hown, hts0, hX, hbl, hlocks, hgv⟩ := id C0
  have hts : ∀ w ∈ wsL_law, w.before #[Value.ref b] s = true := fun w h => hts0 w (wsL_law_in w h)
  have hA : ∀ q : Nat, s.heap.size ≤ q → (fun q : Nat => s.heap.size ≤ q) q := fun _ h => h
  have hbA : ¬ (fun q : Nat => s.heap.size ≤ q) b := Nat.not_le.mpr hbl
  obtain ⟨r, e4, e5, hR1⟩ := hop X M C F H T S hR (xs (x3 + 1).toNatClampNeg)
  refine lv_aload_n hx hb dL_law_901 rfl (lv_at hl 1 rfl) ?_
  refine lv_aload_n hx hb dL_law_902 rfl (lv_at hl 0 rfl) ?_
  refine lv_iload_n hx hb dL_law_903 rfl (lv_at hl 3 rfl) ?_
  refine lv_iconst (v := 1) hx hb dL_law_904 (by decide) ?_
  refine lv_iadd hx hb dL_law_905 ?_
  refine va_sld hx hb hX hbl hbA hS h1 dL_law_906 ?_
  refine kCallWI (r := r) (As := [.int (xs (x3 + 1).toNatClampNeg)]) (rest := []) (sg := [wX aX adC adH adF adT X, wM ty adM M, wC ty adC C, wF ty adF F, wH ty adH adS H, wT ty adT T, wS ty adS S]) (sc := [wX aX adC adH adF adT X, wC ty adC C]) (s1 := [wX aX adC adH adF adT X, wC ty adC C]) (sn := [wX aX adC adH adF adT X, wM ty adM M, wC ty adC C, wF ty adF F, wH ty adH adS H, wT ty adT T, wS ty adS S]) ⟨hx, hb, hml, hown, hts⟩ (cX4_depthOf_ok l D ty aX adC adF adH adT Hh.size X C (xs (x3 + 1).toNatClampNeg) r e4) (cwV 1 hts gL_law_X4_depthOf rfl rfl rfl (by decide +kernel) ⟨Nat.le_of_ble_eq_true rfl, Nat.le_of_ble_eq_true rfl⟩) hP hK hD hS hA [0, 2] (by decide) rfl 4 0 rfl rfl rfl rfl hl.1 rfl (Nat.le_of_ble_eq_true rfl) dL_law_907 ⟨Nat.le_of_ble_eq_true rfl, Nat.le_of_ble_eq_true rfl⟩ rfl rfl (fun Hh locs hP hD hS => ?_)
  refine lv_aload_n hx hb dL_law_910 rfl (lv_at hl 2 rfl) ?_
  refine lv_aload_n hx hb dL_law_911 rfl (lv_at hl 0 rfl) ?_
  refine lv_iload_n hx hb dL_law_912 rfl (lv_at hl 3 rfl) ?_
  refine lv_iconst (v := 1) hx hb dL_law_913 (by decide) ?_
  refine lv_iadd hx hb dL_law_914 ?_
  refine va_sld hx hb hX hbl hbA hS h1 dL_law_915 ?_
  refine kCallWI (r := r) (As := [.int (xs (x3 + 1).toNatClampNeg)]) (rest := [.int r]) (sg := [wX aX adC adH adF adT X, wM ty adM M, wC ty adC C, wF ty adF F, wH ty adH adS H, wT ty adT T, wS ty adS S]) (sc := [wM ty adM M]) (s1 := [wM ty adM M]) (sn := [wX aX adC adH adF adT X, wM ty adM M, wC ty adC C, wF ty adF F, wH ty adH adS H, wT ty adT T, wS ty adS S]) ⟨hx, hb, hml, hown, hts⟩ (cX5_depthOf_ok l D ty adM Hh.size M (xs (x3 + 1).toNatClampNeg) r e5) (cwV 1 hts gL_law_X5_depthOf rfl rfl rfl (by decide +kernel) ⟨Nat.le_of_ble_eq_true rfl, Nat.le_of_ble_eq_true rfl⟩) hP hK hD hS hA [1] (by decide) rfl 5 1 rfl rfl rfl rfl hl.1 rfl (Nat.le_of_ble_eq_true rfl) dL_law_916 ⟨Nat.le_of_ble_eq_true rfl, Nat.le_of_ble_eq_true rfl⟩ rfl rfl (fun Hh locs hP hD hS => ?_)
  refine lv_icmp_eq (tgt := 1068) hx hb dL_law_919 (by decide) (fun _ => ?_) (fun z => absurd rfl z)
  exact K X M C F H T S hR1 Hh locs ls hP hD hS hl
abbrev hop_gasDepthOf (RR : KX → KM → KC → KF → KH → KT → KS → Prop) : Prop := ∀ (X : KX) (M : KM) (C : KC) (F : KF) (H : KH) (T : KT) (S : KS), RR X M C F H T S → ∀ a1 : Int32, ∃ r, fX4_gasDepthOf X C a1 = some r ∧ fX5_gasDepthOf M a1 = some r ∧ RR X M C F H T S
set_option maxHeartbeats 4000000 in
set_option maxRecDepth 100000 in
theorem lwk_gasDepthOf (C0 : lw_At p s m meth c b L xs) (hK : kK D ty s) (hE : kStr adK adV (fun q : Nat => s.heap.size ≤ q) s s.heap) (hop : hop_gasDepthOf RR) (h1 : vp_in (x3 + 1) L) (K : lwK p l e s m below meth c b D ty RR aX adM adC adF adH adT adS x3 1068) : lwK p l e s m below meth c b D ty RR aX adM adC adF adH adT adS x3 924 := by
  intro X M C F H T S hR Hh locs ls hP hD hS hl
  obtain ⟨hx, hb, hr, hml, hown, hts0, hX, hbl, hlocks, hgv⟩ := id C0
  have hts : ∀ w ∈ wsL_law, w.before #[Value.ref b] s = true := fun w h => hts0 w (wsL_law_in w h)
  have hA : ∀ q : Nat, s.heap.size ≤ q → (fun q : Nat => s.heap.size ≤ q) q := fun _ h => h
  have hbA : ¬ (fun q : Nat => s.heap.size ≤ q) b := Nat.not_le.mpr hbl
  obtain ⟨r, e4, e5, hR1⟩ := hop X M C F H T S hR (xs (x3 + 1).toNatClampNeg)
  refine lv_aload_n hx hb dL_law_924 rfl (lv_at hl 1 rfl) ?_
  refine lv_aload_n hx hb dL_law_925 rfl (lv_at hl 0 rfl) ?_
  refine lv_iload_n hx hb dL_law_926 rfl (lv_at hl 3 rfl) ?_
  refine lv_iconst (v := 1) hx hb dL_law_927 (by decide) ?_
  refine lv_iadd hx hb dL_law_928 ?_
  refine va_sld hx hb hX hbl hbA hS h1 dL_law_929 ?_
  refine kCallWI (r := r) (As := [.int (xs (x3 + 1).toNatClampNeg)]) (rest := []) (sg := [wX aX adC adH adF adT X, wM ty adM M, wC ty adC C, wF ty adF F, wH ty adH adS H, wT ty adT T, wS ty adS S]) (sc := [wX aX adC adH adF adT X, wC ty adC C]) (s1 := [wX aX adC adH adF adT X, wC ty adC C]) (sn := [wX aX adC adH adF adT X, wM ty adM M, wC ty adC C, wF ty adF F, wH ty adH adS H, wT ty adT T, wS ty adS S]) ⟨hx, hb, hml, hown, hts⟩ (cX4_gasDepthOf_ok l D ty aX adC adF adH adT Hh.size X C (xs (x3 + 1).toNatClampNeg) r e4) (cwV 1 hts gL_law_X4_gasDepthOf rfl rfl rfl (by decide +kernel) ⟨Nat.le_of_ble_eq_true rfl, Nat.le_of_ble_eq_true rfl⟩) hP hK hD hS hA [0, 2] (by decide) rfl 4 0 rfl rfl rfl rfl hl.1 rfl (Nat.le_of_ble_eq_true rfl) dL_law_930 ⟨Nat.le_of_ble_eq_true rfl, Nat.le_of_ble_eq_true rfl⟩ rfl rfl (fun Hh locs hP hD hS => ?_)
  refine lv_aload_n hx hb dL_law_933 rfl (lv_at hl 2 rfl) ?_
  refine lv_aload_n hx hb dL_law_934 rfl (lv_at hl 0 rfl) ?_
  refine lv_iload_n hx hb dL_law_935 rfl (lv_at hl 3 rfl) ?_
  refine lv_iconst (v := 1) hx hb dL_law_936 (by decide) ?_
  refine lv_iadd hx hb dL_law_937 ?_
  refine va_sld hx hb hX hbl hbA hS h1 dL_law_938 ?_
  refine kCallWI (r := r) (As := [.int (xs (x3 + 1).toNatClampNeg)]) (rest := [.int r]) (sg := [wX aX adC adH adF adT X, wM ty adM M, wC ty adC C, wF ty adF F, wH ty adH adS H, wT ty adT T, wS ty adS S]) (sc := [wM ty adM M]) (s1 := [wM ty adM M]) (sn := [wX aX adC adH adF adT X, wM ty adM M, wC ty adC C, wF ty adF F, wH ty adH adS H, wT ty adT T, wS ty adS S]) ⟨hx, hb, hml, hown, hts⟩ (cX5_gasDepthOf_ok l D ty adM Hh.size M (xs (x3 + 1).toNatClampNeg) r e5) (cwV 1 hts gL_law_X5_gasDepthOf rfl rfl rfl (by decide +kernel) ⟨Nat.le_of_ble_eq_true rfl, Nat.le_of_ble_eq_true rfl⟩) hP hK hD hS hA [1] (by decide) rfl 5 1 rfl rfl rfl rfl hl.1 rfl (Nat.le_of_ble_eq_true rfl) dL_law_939 ⟨Nat.le_of_ble_eq_true rfl, Nat.le_of_ble_eq_true rfl⟩ rfl rfl (fun Hh locs hP hD hS => ?_)
  refine lv_icmp_eq (tgt := 1068) hx hb dL_law_942 (by decide) (fun _ => ?_) (fun z => absurd rfl z)
  exact K X M C F H T S hR1 Hh locs ls hP hD hS hl
abbrev hop_lead (RR : KX → KM → KC → KF → KH → KT → KS → Prop) : Prop := ∀ (X : KX) (M : KM) (C : KC) (F : KF) (H : KH) (T : KT) (S : KS), RR X M C F H T S → ∀ a1 a2 : Int32, ∃ r, fX4_lead X C a1 a2 = some r ∧ fX5_lead M a1 a2 = some r ∧ RR X M C F H T S
set_option maxHeartbeats 4000000 in
set_option maxRecDepth 100000 in
theorem lwk_lead (C0 : lw_At p s m meth c b L xs) (hK : kK D ty s) (hE : kStr adK adV (fun q : Nat => s.heap.size ≤ q) s s.heap) (hop : hop_lead RR) (h1 : vp_in (x3 + 1) L) (h2 : vp_in (x3 + 2) L) (K : lwK p l e s m below meth c b D ty RR aX adM adC adF adH adT adS x3 1068) : lwK p l e s m below meth c b D ty RR aX adM adC adF adH adT adS x3 947 := by
  intro X M C F H T S hR Hh locs ls hP hD hS hl
  obtain ⟨hx, hb, hr, hml, hown, hts0, hX, hbl, hlocks, hgv⟩ := id C0
  have hts : ∀ w ∈ wsL_law, w.before #[Value.ref b] s = true := fun w h => hts0 w (wsL_law_in w h)
  have hA : ∀ q : Nat, s.heap.size ≤ q → (fun q : Nat => s.heap.size ≤ q) q := fun _ h => h
  have hbA : ¬ (fun q : Nat => s.heap.size ≤ q) b := Nat.not_le.mpr hbl
  obtain ⟨r, e4, e5, hR1⟩ := hop X M C F H T S hR (xs (x3 + 1).toNatClampNeg) (xs (x3 + 2).toNatClampNeg)
  refine lv_aload_n hx hb dL_law_947 rfl (lv_at hl 1 rfl) ?_
  refine lv_aload_n hx hb dL_law_948 rfl (lv_at hl 0 rfl) ?_
  refine lv_iload_n hx hb dL_law_949 rfl (lv_at hl 3 rfl) ?_
  refine lv_iconst (v := 1) hx hb dL_law_950 (by decide) ?_
  refine lv_iadd hx hb dL_law_951 ?_
  refine va_sld hx hb hX hbl hbA hS h1 dL_law_952 ?_
  refine lv_aload_n hx hb dL_law_953 rfl (lv_at hl 0 rfl) ?_
  refine lv_iload_n hx hb dL_law_954 rfl (lv_at hl 3 rfl) ?_
  refine lv_iconst (v := 2) hx hb dL_law_955 (by decide) ?_
  refine lv_iadd hx hb dL_law_956 ?_
  refine va_sld hx hb hX hbl hbA hS h2 dL_law_957 ?_
  refine kCallWI (r := r) (As := [.int (xs (x3 + 1).toNatClampNeg), .int (xs (x3 + 2).toNatClampNeg)]) (rest := []) (sg := [wX aX adC adH adF adT X, wM ty adM M, wC ty adC C, wF ty adF F, wH ty adH adS H, wT ty adT T, wS ty adS S]) (sc := [wX aX adC adH adF adT X, wC ty adC C]) (s1 := [wX aX adC adH adF adT X, wC ty adC C]) (sn := [wX aX adC adH adF adT X, wM ty adM M, wC ty adC C, wF ty adF F, wH ty adH adS H, wT ty adT T, wS ty adS S]) ⟨hx, hb, hml, hown, hts⟩ (cX4_lead_ok l D ty aX adC adF adH adT Hh.size X C (xs (x3 + 1).toNatClampNeg) (xs (x3 + 2).toNatClampNeg) r e4) (cwV 2 hts gL_law_X4_lead rfl rfl rfl (by decide +kernel) ⟨Nat.le_of_ble_eq_true rfl, Nat.le_of_ble_eq_true rfl⟩) hP hK hD hS hA [0, 2] (by decide) rfl 4 0 rfl rfl rfl rfl hl.1 rfl (Nat.le_of_ble_eq_true rfl) dL_law_958 ⟨Nat.le_of_ble_eq_true rfl, Nat.le_of_ble_eq_true rfl⟩ rfl rfl (fun Hh locs hP hD hS => ?_)
  refine lv_aload_n hx hb dL_law_961 rfl (lv_at hl 2 rfl) ?_
  refine lv_aload_n hx hb dL_law_962 rfl (lv_at hl 0 rfl) ?_
  refine lv_iload_n hx hb dL_law_963 rfl (lv_at hl 3 rfl) ?_
  refine lv_iconst (v := 1) hx hb dL_law_964 (by decide) ?_
  refine lv_iadd hx hb dL_law_965 ?_
  refine va_sld hx hb hX hbl hbA hS h1 dL_law_966 ?_
  refine lv_aload_n hx hb dL_law_967 rfl (lv_at hl 0 rfl) ?_
  refine lv_iload_n hx hb dL_law_968 rfl (lv_at hl 3 rfl) ?_
  refine lv_iconst (v := 2) hx hb dL_law_969 (by decide) ?_
  refine lv_iadd hx hb dL_law_970 ?_
  refine va_sld hx hb hX hbl hbA hS h2 dL_law_971 ?_
  refine kCallWI (r := r) (As := [.int (xs (x3 + 1).toNatClampNeg), .int (xs (x3 + 2).toNatClampNeg)]) (rest := [.int r]) (sg := [wX aX adC adH adF adT X, wM ty adM M, wC ty adC C, wF ty adF F, wH ty adH adS H, wT ty adT T, wS ty adS S]) (sc := [wM ty adM M]) (s1 := [wM ty adM M]) (sn := [wX aX adC adH adF adT X, wM ty adM M, wC ty adC C, wF ty adF F, wH ty adH adS H, wT ty adT T, wS ty adS S]) ⟨hx, hb, hml, hown, hts⟩ (cX5_lead_ok l D ty adM Hh.size M (xs (x3 + 1).toNatClampNeg) (xs (x3 + 2).toNatClampNeg) r e5) (cwV 2 hts gL_law_X5_lead rfl rfl rfl (by decide +kernel) ⟨Nat.le_of_ble_eq_true rfl, Nat.le_of_ble_eq_true rfl⟩) hP hK hD hS hA [1] (by decide) rfl 5 1 rfl rfl rfl rfl hl.1 rfl (Nat.le_of_ble_eq_true rfl) dL_law_972 ⟨Nat.le_of_ble_eq_true rfl, Nat.le_of_ble_eq_true rfl⟩ rfl rfl (fun Hh locs hP hD hS => ?_)
  refine lv_icmp_eq (tgt := 1068) hx hb dL_law_975 (by decide) (fun _ => ?_) (fun z => absurd rfl z)
  exact K X M C F H T S hR1 Hh locs ls hP hD hS hl
abbrev hop_inversions (RR : KX → KM → KC → KF → KH → KT → KS → Prop) : Prop := ∀ (X : KX) (M : KM) (C : KC) (F : KF) (H : KH) (T : KT) (S : KS), RR X M C F H T S → ∃ r, fX4_inversions X C = some r ∧ fX5_inversions M = some r ∧ RR X M C F H T S
set_option maxHeartbeats 4000000 in
set_option maxRecDepth 100000 in
theorem lwk_inversions (C0 : lw_At p s m meth c b L xs) (hK : kK D ty s) (hE : kStr adK adV (fun q : Nat => s.heap.size ≤ q) s s.heap) (hop : hop_inversions RR) (K : lwK p l e s m below meth c b D ty RR aX adM adC adF adH adT adS x3 1068) : lwK p l e s m below meth c b D ty RR aX adM adC adF adH adT adS x3 980 := by
  intro X M C F H T S hR Hh locs ls hP hD hS hl
  obtain ⟨hx, hb, hr, hml, hown, hts0, hX, hbl, hlocks, hgv⟩ := id C0
  have hts : ∀ w ∈ wsL_law, w.before #[Value.ref b] s = true := fun w h => hts0 w (wsL_law_in w h)
  have hA : ∀ q : Nat, s.heap.size ≤ q → (fun q : Nat => s.heap.size ≤ q) q := fun _ h => h
  have hbA : ¬ (fun q : Nat => s.heap.size ≤ q) b := Nat.not_le.mpr hbl
  obtain ⟨r, e4, e5, hR1⟩ := hop X M C F H T S hR 
  refine lv_aload_n hx hb dL_law_980 rfl (lv_at hl 1 rfl) ?_
  refine kCallWI (r := r) (As := []) (rest := []) (sg := [wX aX adC adH adF adT X, wM ty adM M, wC ty adC C, wF ty adF F, wH ty adH adS H, wT ty adT T, wS ty adS S]) (sc := [wX aX adC adH adF adT X, wC ty adC C]) (s1 := [wX aX adC adH adF adT X, wC ty adC C]) (sn := [wX aX adC adH adF adT X, wM ty adM M, wC ty adC C, wF ty adF F, wH ty adH adS H, wT ty adT T, wS ty adS S]) ⟨hx, hb, hml, hown, hts⟩ (cX4_inversions_ok l D ty aX adC adF adH adT Hh.size X C r e4) (cwV 0 hts gL_law_X4_inversions rfl rfl rfl (by decide +kernel) ⟨Nat.le_of_ble_eq_true rfl, Nat.le_of_ble_eq_true rfl⟩) hP hK hD hS hA [0, 2] (by decide) rfl 4 0 rfl rfl rfl rfl hl.1 rfl (Nat.le_of_ble_eq_true rfl) dL_law_981 ⟨Nat.le_of_ble_eq_true rfl, Nat.le_of_ble_eq_true rfl⟩ rfl rfl (fun Hh locs hP hD hS => ?_)
  refine lv_aload_n hx hb dL_law_984 rfl (lv_at hl 2 rfl) ?_
  refine kCallWI (r := r) (As := []) (rest := [.int r]) (sg := [wX aX adC adH adF adT X, wM ty adM M, wC ty adC C, wF ty adF F, wH ty adH adS H, wT ty adT T, wS ty adS S]) (sc := [wM ty adM M]) (s1 := [wM ty adM M]) (sn := [wX aX adC adH adF adT X, wM ty adM M, wC ty adC C, wF ty adF F, wH ty adH adS H, wT ty adT T, wS ty adS S]) ⟨hx, hb, hml, hown, hts⟩ (cX5_inversions_ok l D ty adM Hh.size M r e5) (cwV 0 hts gL_law_X5_inversions rfl rfl rfl (by decide +kernel) ⟨Nat.le_of_ble_eq_true rfl, Nat.le_of_ble_eq_true rfl⟩) hP hK hD hS hA [1] (by decide) rfl 5 1 rfl rfl rfl rfl hl.1 rfl (Nat.le_of_ble_eq_true rfl) dL_law_985 ⟨Nat.le_of_ble_eq_true rfl, Nat.le_of_ble_eq_true rfl⟩ rfl rfl (fun Hh locs hP hD hS => ?_)
  refine lv_icmp_eq (tgt := 1068) hx hb dL_law_988 (by decide) (fun _ => ?_) (fun z => absurd rfl z)
  exact K X M C F H T S hR1 Hh locs ls hP hD hS hl
abbrev hop_acts (RR : KX → KM → KC → KF → KH → KT → KS → Prop) : Prop := ∀ (X : KX) (M : KM) (C : KC) (F : KF) (H : KH) (T : KT) (S : KS), RR X M C F H T S → ∃ r, fX4_acts X = some r ∧ fX5_acts M = some r ∧ RR X M C F H T S
set_option maxHeartbeats 4000000 in
set_option maxRecDepth 100000 in
theorem lwk_acts (C0 : lw_At p s m meth c b L xs) (hK : kK D ty s) (hE : kStr adK adV (fun q : Nat => s.heap.size ≤ q) s s.heap) (hop : hop_acts RR) (K : lwK p l e s m below meth c b D ty RR aX adM adC adF adH adT adS x3 1068) : lwK p l e s m below meth c b D ty RR aX adM adC adF adH adT adS x3 993 := by
  intro X M C F H T S hR Hh locs ls hP hD hS hl
  obtain ⟨hx, hb, hr, hml, hown, hts0, hX, hbl, hlocks, hgv⟩ := id C0
  have hts : ∀ w ∈ wsL_law, w.before #[Value.ref b] s = true := fun w h => hts0 w (wsL_law_in w h)
  have hA : ∀ q : Nat, s.heap.size ≤ q → (fun q : Nat => s.heap.size ≤ q) q := fun _ h => h
  have hbA : ¬ (fun q : Nat => s.heap.size ≤ q) b := Nat.not_le.mpr hbl
  obtain ⟨r, e4, e5, hR1⟩ := hop X M C F H T S hR 
  refine lv_aload_n hx hb dL_law_993 rfl (lv_at hl 1 rfl) ?_
  refine kCallWI (r := r) (As := []) (rest := []) (sg := [wX aX adC adH adF adT X, wM ty adM M, wC ty adC C, wF ty adF F, wH ty adH adS H, wT ty adT T, wS ty adS S]) (sc := [wX aX adC adH adF adT X]) (s1 := [wX aX adC adH adF adT X]) (sn := [wX aX adC adH adF adT X, wM ty adM M, wC ty adC C, wF ty adF F, wH ty adH adS H, wT ty adT T, wS ty adS S]) ⟨hx, hb, hml, hown, hts⟩ (cX4_acts_ok l D ty aX adC adF adH adT Hh.size X r e4) (cwV 0 hts gL_law_X4_acts rfl rfl rfl (by decide +kernel) ⟨Nat.le_of_ble_eq_true rfl, Nat.le_of_ble_eq_true rfl⟩) hP hK hD hS hA [0] (by decide) rfl 4 0 rfl rfl rfl rfl hl.1 rfl (Nat.le_of_ble_eq_true rfl) dL_law_994 ⟨Nat.le_of_ble_eq_true rfl, Nat.le_of_ble_eq_true rfl⟩ rfl rfl (fun Hh locs hP hD hS => ?_)
  refine lv_aload_n hx hb dL_law_997 rfl (lv_at hl 2 rfl) ?_
  refine kCallWI (r := r) (As := []) (rest := [.int r]) (sg := [wX aX adC adH adF adT X, wM ty adM M, wC ty adC C, wF ty adF F, wH ty adH adS H, wT ty adT T, wS ty adS S]) (sc := [wM ty adM M]) (s1 := [wM ty adM M]) (sn := [wX aX adC adH adF adT X, wM ty adM M, wC ty adC C, wF ty adF F, wH ty adH adS H, wT ty adT T, wS ty adS S]) ⟨hx, hb, hml, hown, hts⟩ (cX5_acts_ok l D ty adM Hh.size M r e5) (cwV 0 hts gL_law_X5_acts rfl rfl rfl (by decide +kernel) ⟨Nat.le_of_ble_eq_true rfl, Nat.le_of_ble_eq_true rfl⟩) hP hK hD hS hA [1] (by decide) rfl 5 1 rfl rfl rfl rfl hl.1 rfl (Nat.le_of_ble_eq_true rfl) dL_law_998 ⟨Nat.le_of_ble_eq_true rfl, Nat.le_of_ble_eq_true rfl⟩ rfl rfl (fun Hh locs hP hD hS => ?_)
  refine lv_icmp_eq (tgt := 1068) hx hb dL_law_1001 (by decide) (fun _ => ?_) (fun z => absurd rfl z)
  exact K X M C F H T S hR1 Hh locs ls hP hD hS hl
abbrev hop_seal (RR : KX → KM → KC → KF → KH → KT → KS → Prop) : Prop := ∀ (X : KX) (M : KM) (C : KC) (F : KF) (H : KH) (T : KT) (S : KS), RR X M C F H T S → ∃ r, fX4_seal X C = some r ∧ fX5_seal M = some r ∧ RR X M C F H T S
set_option maxHeartbeats 4000000 in
set_option maxRecDepth 100000 in
theorem lwk_seal (C0 : lw_At p s m meth c b L xs) (hK : kK D ty s) (hE : kStr adK adV (fun q : Nat => s.heap.size ≤ q) s s.heap) (hop : hop_seal RR) (K : lwK p l e s m below meth c b D ty RR aX adM adC adF adH adT adS x3 1068) : lwK p l e s m below meth c b D ty RR aX adM adC adF adH adT adS x3 1006 := by
  intro X M C F H T S hR Hh locs ls hP hD hS hl
  obtain ⟨hx, hb, hr, hml, hown, hts0, hX, hbl, hlocks, hgv⟩ := id C0
  have hts : ∀ w ∈ wsL_law, w.before #[Value.ref b] s = true := fun w h => hts0 w (wsL_law_in w h)
  have hA : ∀ q : Nat, s.heap.size ≤ q → (fun q : Nat => s.heap.size ≤ q) q := fun _ h => h
  have hbA : ¬ (fun q : Nat => s.heap.size ≤ q) b := Nat.not_le.mpr hbl
  obtain ⟨r, e4, e5, hR1⟩ := hop X M C F H T S hR 
  refine lv_aload_n hx hb dL_law_1006 rfl (lv_at hl 1 rfl) ?_
  refine kCallWI (r := r) (As := []) (rest := []) (sg := [wX aX adC adH adF adT X, wM ty adM M, wC ty adC C, wF ty adF F, wH ty adH adS H, wT ty adT T, wS ty adS S]) (sc := [wX aX adC adH adF adT X, wC ty adC C]) (s1 := [wX aX adC adH adF adT X, wC ty adC C]) (sn := [wX aX adC adH adF adT X, wM ty adM M, wC ty adC C, wF ty adF F, wH ty adH adS H, wT ty adT T, wS ty adS S]) ⟨hx, hb, hml, hown, hts⟩ (cX4_seal_ok l D ty aX adC adF adH adT Hh.size X C r e4) (cwV 0 hts gL_law_X4_seal rfl rfl rfl (by decide +kernel) ⟨Nat.le_of_ble_eq_true rfl, Nat.le_of_ble_eq_true rfl⟩) hP hK hD hS hA [0, 2] (by decide) rfl 4 0 rfl rfl rfl rfl hl.1 rfl (Nat.le_of_ble_eq_true rfl) dL_law_1007 ⟨Nat.le_of_ble_eq_true rfl, Nat.le_of_ble_eq_true rfl⟩ rfl rfl (fun Hh locs hP hD hS => ?_)
  refine lv_aload_n hx hb dL_law_1010 rfl (lv_at hl 2 rfl) ?_
  refine kCallWI (r := r) (As := []) (rest := [.int r]) (sg := [wX aX adC adH adF adT X, wM ty adM M, wC ty adC C, wF ty adF F, wH ty adH adS H, wT ty adT T, wS ty adS S]) (sc := [wM ty adM M]) (s1 := [wM ty adM M]) (sn := [wX aX adC adH adF adT X, wM ty adM M, wC ty adC C, wF ty adF F, wH ty adH adS H, wT ty adT T, wS ty adS S]) ⟨hx, hb, hml, hown, hts⟩ (cX5_seal_ok l D ty adM Hh.size M r e5) (cwV 0 hts gL_law_X5_seal rfl rfl rfl (by decide +kernel) ⟨Nat.le_of_ble_eq_true rfl, Nat.le_of_ble_eq_true rfl⟩) hP hK hD hS hA [1] (by decide) rfl 5 1 rfl rfl rfl rfl hl.1 rfl (Nat.le_of_ble_eq_true rfl) dL_law_1011 ⟨Nat.le_of_ble_eq_true rfl, Nat.le_of_ble_eq_true rfl⟩ rfl rfl (fun Hh locs hP hD hS => ?_)
  refine lv_icmp_eq (tgt := 1068) hx hb dL_law_1014 (by decide) (fun _ => ?_) (fun z => absurd rfl z)
  exact K X M C F H T S hR1 Hh locs ls hP hD hS hl
abbrev hop_bestFunction (RR : KX → KM → KC → KF → KH → KT → KS → Prop) : Prop := ∀ (X : KX) (M : KM) (C : KC) (F : KF) (H : KH) (T : KT) (S : KS), RR X M C F H T S → ∃ r M', fX4_bestFunction X C = some r ∧ fX5_bestFunction M = some (r, M') ∧ RR X M' C F H T S
set_option maxHeartbeats 4000000 in
set_option maxRecDepth 100000 in
theorem lwk_bestFunction (C0 : lw_At p s m meth c b L xs) (hK : kK D ty s) (hE : kStr adK adV (fun q : Nat => s.heap.size ≤ q) s s.heap) (hop : hop_bestFunction RR) (K : lwK p l e s m below meth c b D ty RR aX adM adC adF adH adT adS x3 1068) : lwK p l e s m below meth c b D ty RR aX adM adC adF adH adT adS x3 1019 := by
  intro X M C F H T S hR Hh locs ls hP hD hS hl
  obtain ⟨hx, hb, hr, hml, hown, hts0, hX, hbl, hlocks, hgv⟩ := id C0
  have hts : ∀ w ∈ wsL_law, w.before #[Value.ref b] s = true := fun w h => hts0 w (wsL_law_in w h)
  have hA : ∀ q : Nat, s.heap.size ≤ q → (fun q : Nat => s.heap.size ≤ q) q := fun _ h => h
  have hbA : ¬ (fun q : Nat => s.heap.size ≤ q) b := Nat.not_le.mpr hbl
  obtain ⟨r, M', e4, e5, hR1⟩ := hop X M C F H T S hR 
  refine lv_aload_n hx hb dL_law_1019 rfl (lv_at hl 1 rfl) ?_
  refine kCallWI (r := r) (As := []) (rest := []) (sg := [wX aX adC adH adF adT X, wM ty adM M, wC ty adC C, wF ty adF F, wH ty adH adS H, wT ty adT T, wS ty adS S]) (sc := [wX aX adC adH adF adT X, wC ty adC C]) (s1 := [wX aX adC adH adF adT X, wC ty adC C]) (sn := [wX aX adC adH adF adT X, wM ty adM M, wC ty adC C, wF ty adF F, wH ty adH adS H, wT ty adT T, wS ty adS S]) ⟨hx, hb, hml, hown, hts⟩ (cX4_bestFunction_ok l D ty aX adC adF adH adT Hh.size X C r e4) (cwV 0 hts gL_law_X4_bestFunction rfl rfl rfl (by decide +kernel) ⟨Nat.le_of_ble_eq_true rfl, Nat.le_of_ble_eq_true rfl⟩) hP hK hD hS hA [0, 2] (by decide) rfl 4 0 rfl rfl rfl rfl hl.1 rfl (Nat.le_of_ble_eq_true rfl) dL_law_1020 ⟨Nat.le_of_ble_eq_true rfl, Nat.le_of_ble_eq_true rfl⟩ rfl rfl (fun Hh locs hP hD hS => ?_)
  refine lv_aload_n hx hb dL_law_1023 rfl (lv_at hl 2 rfl) ?_
  refine kCallWI (r := r) (As := []) (rest := [.int r]) (sg := [wX aX adC adH adF adT X, wM ty adM M, wC ty adC C, wF ty adF F, wH ty adH adS H, wT ty adT T, wS ty adS S]) (sc := [wM ty adM M]) (s1 := [wM ty adM M']) (sn := [wX aX adC adH adF adT X, wM ty adM M', wC ty adC C, wF ty adF F, wH ty adH adS H, wT ty adT T, wS ty adS S]) ⟨hx, hb, hml, hown, hts⟩ (cX5_bestFunction_ok l D ty adM Hh.size M (r, M') e5) (cwV 0 hts gL_law_X5_bestFunction rfl rfl rfl (by decide +kernel) ⟨Nat.le_of_ble_eq_true rfl, Nat.le_of_ble_eq_true rfl⟩) hP hK hD hS hA [1] (by decide) rfl 5 1 rfl rfl rfl rfl hl.1 rfl (Nat.le_of_ble_eq_true rfl) dL_law_1024 ⟨Nat.le_of_ble_eq_true rfl, Nat.le_of_ble_eq_true rfl⟩ rfl rfl (fun Hh locs hP hD hS => ?_)
  refine lv_icmp_eq (tgt := 1068) hx hb dL_law_1027 (by decide) (fun _ => ?_) (fun z => absurd rfl z)
  exact K X M' C F H T S hR1 Hh locs ls hP hD hS hl
abbrev hop_bestKink (RR : KX → KM → KC → KF → KH → KT → KS → Prop) : Prop := ∀ (X : KX) (M : KM) (C : KC) (F : KF) (H : KH) (T : KT) (S : KS), RR X M C F H T S → ∃ r M', fX4_bestKink X C = some r ∧ fX5_bestKink M = some (r, M') ∧ RR X M' C F H T S
set_option maxHeartbeats 4000000 in
set_option maxRecDepth 100000 in
theorem lwk_bestKink (C0 : lw_At p s m meth c b L xs) (hK : kK D ty s) (hE : kStr adK adV (fun q : Nat => s.heap.size ≤ q) s s.heap) (hop : hop_bestKink RR) (K : lwK p l e s m below meth c b D ty RR aX adM adC adF adH adT adS x3 1068) : lwK p l e s m below meth c b D ty RR aX adM adC adF adH adT adS x3 1032 := by
  intro X M C F H T S hR Hh locs ls hP hD hS hl
  obtain ⟨hx, hb, hr, hml, hown, hts0, hX, hbl, hlocks, hgv⟩ := id C0
  have hts : ∀ w ∈ wsL_law, w.before #[Value.ref b] s = true := fun w h => hts0 w (wsL_law_in w h)
  have hA : ∀ q : Nat, s.heap.size ≤ q → (fun q : Nat => s.heap.size ≤ q) q := fun _ h => h
  have hbA : ¬ (fun q : Nat => s.heap.size ≤ q) b := Nat.not_le.mpr hbl
  obtain ⟨r, M', e4, e5, hR1⟩ := hop X M C F H T S hR 
  refine lv_aload_n hx hb dL_law_1032 rfl (lv_at hl 1 rfl) ?_
  refine kCallWI (r := r) (As := []) (rest := []) (sg := [wX aX adC adH adF adT X, wM ty adM M, wC ty adC C, wF ty adF F, wH ty adH adS H, wT ty adT T, wS ty adS S]) (sc := [wX aX adC adH adF adT X, wC ty adC C]) (s1 := [wX aX adC adH adF adT X, wC ty adC C]) (sn := [wX aX adC adH adF adT X, wM ty adM M, wC ty adC C, wF ty adF F, wH ty adH adS H, wT ty adT T, wS ty adS S]) ⟨hx, hb, hml, hown, hts⟩ (cX4_bestKink_ok l D ty aX adC adF adH adT Hh.size X C r e4) (cwV 0 hts gL_law_X4_bestKink rfl rfl rfl (by decide +kernel) ⟨Nat.le_of_ble_eq_true rfl, Nat.le_of_ble_eq_true rfl⟩) hP hK hD hS hA [0, 2] (by decide) rfl 4 0 rfl rfl rfl rfl hl.1 rfl (Nat.le_of_ble_eq_true rfl) dL_law_1033 ⟨Nat.le_of_ble_eq_true rfl, Nat.le_of_ble_eq_true rfl⟩ rfl rfl (fun Hh locs hP hD hS => ?_)
  refine lv_aload_n hx hb dL_law_1036 rfl (lv_at hl 2 rfl) ?_
  refine kCallWI (r := r) (As := []) (rest := [.int r]) (sg := [wX aX adC adH adF adT X, wM ty adM M, wC ty adC C, wF ty adF F, wH ty adH adS H, wT ty adT T, wS ty adS S]) (sc := [wM ty adM M]) (s1 := [wM ty adM M']) (sn := [wX aX adC adH adF adT X, wM ty adM M', wC ty adC C, wF ty adF F, wH ty adH adS H, wT ty adT T, wS ty adS S]) ⟨hx, hb, hml, hown, hts⟩ (cX5_bestKink_ok l D ty adM Hh.size M (r, M') e5) (cwV 0 hts gL_law_X5_bestKink rfl rfl rfl (by decide +kernel) ⟨Nat.le_of_ble_eq_true rfl, Nat.le_of_ble_eq_true rfl⟩) hP hK hD hS hA [1] (by decide) rfl 5 1 rfl rfl rfl rfl hl.1 rfl (Nat.le_of_ble_eq_true rfl) dL_law_1037 ⟨Nat.le_of_ble_eq_true rfl, Nat.le_of_ble_eq_true rfl⟩ rfl rfl (fun Hh locs hP hD hS => ?_)
  refine lv_icmp_eq (tgt := 1068) hx hb dL_law_1040 (by decide) (fun _ => ?_) (fun z => absurd rfl z)
  exact K X M' C F H T S hR1 Hh locs ls hP hD hS hl
abbrev hop_neededAccumulation (RR : KX → KM → KC → KF → KH → KT → KS → Prop) : Prop := ∀ (X : KX) (M : KM) (C : KC) (F : KF) (H : KH) (T : KT) (S : KS), RR X M C F H T S → ∀ a1 : Int32, ∃ r F', fX4_neededAccumulation X C F a1 = some (r, F') ∧ fX5_neededAccumulation M a1 = some r ∧ RR X M C F' H T S
set_option maxHeartbeats 4000000 in
set_option maxRecDepth 100000 in
theorem lwk_neededAccumulation (C0 : lw_At p s m meth c b L xs) (hK : kK D ty s) (hE : kStr adK adV (fun q : Nat => s.heap.size ≤ q) s s.heap) (hop : hop_neededAccumulation RR) (h1 : vp_in (x3 + 1) L) (K : lwK p l e s m below meth c b D ty RR aX adM adC adF adH adT adS x3 1068) : lwK p l e s m below meth c b D ty RR aX adM adC adF adH adT adS x3 1045 := by
  intro X M C F H T S hR Hh locs ls hP hD hS hl
  obtain ⟨hx, hb, hr, hml, hown, hts0, hX, hbl, hlocks, hgv⟩ := id C0
  have hts : ∀ w ∈ wsL_law, w.before #[Value.ref b] s = true := fun w h => hts0 w (wsL_law_in w h)
  have hA : ∀ q : Nat, s.heap.size ≤ q → (fun q : Nat => s.heap.size ≤ q) q := fun _ h => h
  have hbA : ¬ (fun q : Nat => s.heap.size ≤ q) b := Nat.not_le.mpr hbl
  obtain ⟨r, F', e4, e5, hR1⟩ := hop X M C F H T S hR (xs (x3 + 1).toNatClampNeg)
  refine lv_aload_n hx hb dL_law_1045 rfl (lv_at hl 1 rfl) ?_
  refine lv_aload_n hx hb dL_law_1046 rfl (lv_at hl 0 rfl) ?_
  refine lv_iload_n hx hb dL_law_1047 rfl (lv_at hl 3 rfl) ?_
  refine lv_iconst (v := 1) hx hb dL_law_1048 (by decide) ?_
  refine lv_iadd hx hb dL_law_1049 ?_
  refine va_sld hx hb hX hbl hbA hS h1 dL_law_1050 ?_
  refine kCallWI (r := r) (As := [.int (xs (x3 + 1).toNatClampNeg)]) (rest := []) (sg := [wX aX adC adH adF adT X, wM ty adM M, wC ty adC C, wF ty adF F, wH ty adH adS H, wT ty adT T, wS ty adS S]) (sc := [wX aX adC adH adF adT X, wC ty adC C, wF ty adF F]) (s1 := [wX aX adC adH adF adT X, wC ty adC C, wF ty adF F']) (sn := [wX aX adC adH adF adT X, wM ty adM M, wC ty adC C, wF ty adF F', wH ty adH adS H, wT ty adT T, wS ty adS S]) ⟨hx, hb, hml, hown, hts⟩ (cX4_neededAccumulation_ok l D ty aX adC adF adH adT Hh.size X C F (xs (x3 + 1).toNatClampNeg) (r, F') e4) (cwV 1 hts gL_law_X4_neededAccumulation rfl rfl rfl (by decide +kernel) ⟨Nat.le_of_ble_eq_true rfl, Nat.le_of_ble_eq_true rfl⟩) hP hK hD hS hA [0, 2, 3] (by decide) rfl 4 0 rfl rfl rfl rfl hl.1 rfl (Nat.le_of_ble_eq_true rfl) dL_law_1051 ⟨Nat.le_of_ble_eq_true rfl, Nat.le_of_ble_eq_true rfl⟩ rfl rfl (fun Hh locs hP hD hS => ?_)
  refine lv_aload_n hx hb dL_law_1054 rfl (lv_at hl 2 rfl) ?_
  refine lv_aload_n hx hb dL_law_1055 rfl (lv_at hl 0 rfl) ?_
  refine lv_iload_n hx hb dL_law_1056 rfl (lv_at hl 3 rfl) ?_
  refine lv_iconst (v := 1) hx hb dL_law_1057 (by decide) ?_
  refine lv_iadd hx hb dL_law_1058 ?_
  refine va_sld hx hb hX hbl hbA hS h1 dL_law_1059 ?_
  refine kCallWI (r := r) (As := [.int (xs (x3 + 1).toNatClampNeg)]) (rest := [.int r]) (sg := [wX aX adC adH adF adT X, wM ty adM M, wC ty adC C, wF ty adF F', wH ty adH adS H, wT ty adT T, wS ty adS S]) (sc := [wM ty adM M]) (s1 := [wM ty adM M]) (sn := [wX aX adC adH adF adT X, wM ty adM M, wC ty adC C, wF ty adF F', wH ty adH adS H, wT ty adT T, wS ty adS S]) ⟨hx, hb, hml, hown, hts⟩ (cX5_neededAccumulation_ok l D ty adM Hh.size M (xs (x3 + 1).toNatClampNeg) r e5) (cwV 1 hts gL_law_X5_neededAccumulation rfl rfl rfl (by decide +kernel) ⟨Nat.le_of_ble_eq_true rfl, Nat.le_of_ble_eq_true rfl⟩) hP hK hD hS hA [1] (by decide) rfl 5 1 rfl rfl rfl rfl hl.1 rfl (Nat.le_of_ble_eq_true rfl) dL_law_1060 ⟨Nat.le_of_ble_eq_true rfl, Nat.le_of_ble_eq_true rfl⟩ rfl rfl (fun Hh locs hP hD hS => ?_)
  refine lv_icmp_eq (tgt := 1068) hx hb dL_law_1063 (by decide) (fun _ => ?_) (fun z => absurd rfl z)
  exact K X M C F' H T S hR1 Hh locs ls hP hD hS hl
end KLAW
