/-! ===== PURE: the law's change ===== -/
theorem x_low {n : Nat} (h0 : 0 < n) (hn : n < 2 ^ 31) (v : Int32) : ∃ r, r < n ∧ fL_low v (nI n) = some (nI r) := by
  have e : v &&& (2147483647 : Int32) = nI (v.toBitVec.toNat % 2 ^ 31) := pk_and v 31 (by decide)
  have hm : v.toBitVec.toNat % 2 ^ 31 < 2 ^ 31 := Nat.mod_lt _ (by decide)
  refine ⟨v.toBitVec.toNat % 2 ^ 31 % n, Nat.mod_lt _ h0, ?_⟩
  unfold fL_low
  rw [if_pos (nI_ne0 h0 hn), e]
  generalize v.toBitVec.toNat % 2 ^ 31 = m at *
  rw [pk_rem hm h0 hn]
def OkC (o : Option (Int32 × KX × KC × KF × KH × KS × KG)) : Prop := ∃ (X : KX) (C : KC) (F : KF) (H : KH) (S : KS) (G : KG) (st : Nat → Nat), o = some (1, X, C, F, H, S, G) ∧ K4 st C H S ∧ G 0 = X.1
theorem upd_0 (G : KG) (v : Int32) : upd G (0 : Int32).toNatClampNeg v 0 = v := by
  rw [k_c0, pk_us]
theorem c416_0 {X : KX} {C : KC} {F : KF} {H : KH} {S : KS} {G : KG} {a : Int32} (hG : G 0 = a) (hX : X.1 = a + 1) : fL_change_c416 X C F H S G a 0 = some (1, X, C, F, H, S, upd G (0 : Int32).toNatClampNeg (a + 1)) := by
  have k0 : kIn 0 1 = true := by decide
  unfold fL_change_c416
  rw [if_pos rfl, if_pos k0]
  unfold fL_change_c436
  rw [if_pos k0, x_acts, Option.bind_some, if_pos rfl]
  unfold fL_change_c455
  rw [if_neg (fun z => z hX), x_acts, Option.bind_some, if_pos k0, k_c0, hG, pk_us, if_neg (fun z => z hX)]
theorem c416_1 {X : KX} {C : KC} {F : KF} {H : KH} {S : KS} {G : KG} {a : Int32} (hG : G 0 = a) (hX : X.1 = a) : fL_change_c416 X C F H S G a 1 = some (1, X, C, F, H, S, upd G (0 : Int32).toNatClampNeg a) := by
  have k0 : kIn 0 1 = true := by decide
  unfold fL_change_c416
  rw [if_neg (by decide), if_pos k0]
  unfold fL_change_c436
  rw [if_pos k0, x_acts, Option.bind_some, if_neg (by decide)]
  unfold fL_change_c455
  rw [if_neg (fun z => z hX), x_acts, Option.bind_some, if_pos k0, k_c0, hG, pk_us, if_neg (fun z => z hX)]
theorem fin_ok {st' : Nat → Nat} {X : KX} {C : KC} {F : KF} {H : KH} {S : KS} {G : KG} {a r : Int32} (hG : G 0 = a) (hD : Done st' a r X C H S) : OkC (fL_change_c397 X C F H S G a r) := by
  obtain ⟨hK, ⟨hg, hX⟩ | ⟨he, hX⟩⟩ := hD
  · refine ⟨X, C, F, H, S, _, st', ?_, hK, (upd_0 G (a + 1)).trans hX.symm⟩
    unfold fL_change_c397
    rw [if_pos (show (-1000000001 : Int32) < r from hg)]
    unfold fL_change_c415
    exact c416_0 hG hX
  · refine ⟨X, C, F, H, S, _, st', ?_, hK, (upd_0 G a).trans hX.symm⟩
    unfold fL_change_c397
    rw [if_neg (by rcases he with h | h | h | h <;> (subst h; decide)), if_neg (by rcases he with h | h | h | h <;> (subst h; decide))]
    exact c416_1 hG hX
theorem chg_126 {st : Nat → Nat} {X : KX} {C : KC} {F : KF} {H : KH} {S : KS} {G : KG} (hK : K4 st C H S) (hG : G 0 = X.1) (x3 s1 s2 : Int32) {n : Nat} (h0 : 0 < n) (hn : n < 2 ^ 31) : OkC (fL_change_c126 X C F H S G x3 X.1 s1 s2 (nI n)) := by
  obtain ⟨r1, -, e1⟩ := x_low h0 hn s2
  obtain ⟨r2, -, e2⟩ := x_low (n := 1991) (by omega) (by omega) (x3 >>> ((13 : Int32) &&& 31))
  obtain ⟨r, X', C', H', S', st', e3, hD⟩ := y_addLayer (X := X) hK (s1 + nI r1) ((10 : Int32) + nI r2)
  unfold fL_change_c126
  rw [e1, Option.bind_some, show (1991 : Int32) = nI 1991 from rfl, e2, Option.bind_some, e3, Option.bind_some]
  exact fin_ok hG hD
theorem chg_104 {st : Nat → Nat} {X : KX} {C : KC} {F : KF} {H : KH} {S : KS} {G : KG} (hK : K4 st C H S) (hG : G 0 = X.1) (x2 x3 : Int32) : OkC (fL_change_c104 X C F H S G x2 x3 X.1) := by
  obtain ⟨r1, -, e1⟩ := x_low (n := 3) (by omega) (by omega) (x2 >>> ((5 : Int32) &&& 31))
  unfold fL_change_c104
  rw [show (3 : Int32) = nI 3 from rfl, e1, Option.bind_some]
  by_cases c : ¬ nI r1 = (0 : Int32)
  · rw [if_pos c]
    exact chg_126 hK hG x3 1 x3 (n := 300) (by omega) (by omega)
  · rw [if_neg c]
    exact chg_126 hK hG x3 1 x3 (n := 5000) (by omega) (by omega)
theorem chg_203 {st : Nat → Nat} {X : KX} {C : KC} {F : KF} {H : KH} {S : KS} {G : KG} (hK : K4 st C H S) (hG : G 0 = X.1) (s1 s2 : Int32) {n : Nat} (h0 : 0 < n) (hn : n < 2 ^ 31) : OkC (fL_change_c203 X C F H S G X.1 s1 s2 (nI n)) := by
  obtain ⟨r1, -, e1⟩ := x_low h0 hn s2
  obtain ⟨r, X', C', H', S', st', e3, hD⟩ := y_setBed (X := X) hK (s1 + nI r1)
  unfold fL_change_c203
  rw [e1, Option.bind_some, e3, Option.bind_some]
  exact fin_ok hG hD
theorem chg_321 {st : Nat → Nat} {X : KX} {C : KC} {F : KF} {H : KH} {S : KS} {G : KG} (hK : K4 st C H S) (hG : G 0 = X.1) (x3 x5 : Int32) {A : Nat} (hA : A ≤ 40000000) : OkC (fL_change_c321 X C F H S G x3 x5 X.1 (nI A)) := by
  obtain ⟨r1, -, e1⟩ := x_low (n := A + 1000) (by omega) (by omega) x3
  obtain ⟨r2, -, e2⟩ := x_low (n := 10001) (by omega) (by omega) (x3 >>> ((9 : Int32) &&& 31))
  obtain ⟨r, X', C', H', S', st', e3, hD⟩ := y_setAsh (X := X) hK x5 (nI r1) (nI r2)
  unfold fL_change_c321
  rw [show (1000 : Int32) = nI 1000 from rfl, nI_add, e1, Option.bind_some, show (10001 : Int32) = nI 10001 from rfl, e2, Option.bind_some, e3, Option.bind_some]
  exact fin_ok hG hD
theorem x_ageBottom {st : Nat → Nat} {X : KX} {C : KC} (h : RC st C) (hI : Inv st) (h0 : 0 < st 0) : ((fX4_depth X C).bind fun r => fX4_age X C r) = some (nI (ageN st (st 2) (st 3) (st 0))) := by
  rw [x_depth h hI, Option.bind_some, x_ageTop h hI h0 (Nat.le_refl _)]
theorem chg_24 {st : Nat → Nat} {X : KX} {C : KC} {F : KF} {H : KH} {S : KS} {G : KG} (hK : K4 st C H S) (hG : G 0 = X.1) (x2 x3 s0 : Int32) : OkC (fL_change_c24 X C F H S G x2 x3 (nI (st 0)) s0) := by
  have h16 := hK.2.1.1
  obtain ⟨j, hj, e0⟩ := x_low (n := 14) (by omega) (by omega) x2
  unfold fL_change_c24
  rw [x_acts, Option.bind_some, show (14 : Int32) = nI 14 from rfl, e0, Option.bind_some]
  rcases (show j = 0 ∨ j = 1 ∨ j = 2 ∨ j = 3 ∨ j = 4 ∨ j = 5 ∨ j = 6 ∨ j = 7 ∨ j = 8 ∨ j = 9 ∨ j = 10 ∨ j = 11 ∨ j = 12 ∨ j = 13 by omega) with ej | ej | ej | ej | ej | ej | ej | ej | ej | ej | ej | ej | ej | ej <;> subst ej
  · rw [if_pos (by decide)]
    exact chg_104 hK hG x2 x3
  · rw [if_neg (by decide), if_pos (by decide)]
    exact chg_104 hK hG x2 x3
  · rw [if_neg (by decide), if_neg (by decide), if_pos (by decide)]
    exact chg_104 hK hG x2 x3
  · rw [if_neg (by decide), if_neg (by decide), if_neg (by decide), if_pos (by decide)]
    obtain ⟨r, X', C', H', S', st', e3, hD⟩ := y_removeLowest (X := X) hK
    rw [e3, Option.bind_some]
    exact fin_ok hG hD
  · rw [if_neg (by decide), if_neg (by decide), if_neg (by decide), if_neg (by decide), if_pos (by decide)]
    obtain ⟨r1, -, e1⟩ := x_low (n := 200) (by omega) (by omega) x3
    obtain ⟨r, X', C', H', S', st', e3, hD⟩ := y_divide (X := X) hK s0 ((1 : Int32) + nI r1)
    rw [show (200 : Int32) = nI 200 from rfl, e1, Option.bind_some, e3, Option.bind_some]
    exact fin_ok hG hD
  · rw [if_neg (by decide), if_neg (by decide), if_neg (by decide), if_neg (by decide), if_neg (by decide), if_pos (by decide)]
    obtain ⟨r1, -, e1⟩ := x_low (n := 2) (by omega) (by omega) (x2 >>> ((5 : Int32) &&& 31))
    rw [show (2 : Int32) = nI 2 from rfl, e1, Option.bind_some]
    by_cases c : ¬ nI r1 = (0 : Int32)
    · rw [if_pos c]
      exact chg_203 hK hG 1000 x3 (n := 199001) (by omega) (by omega)
    · rw [if_neg c]
      exact chg_203 hK hG 1000 x3 (n := 5000) (by omega) (by omega)
  · rw [if_neg (by decide), if_neg (by decide), if_neg (by decide), if_neg (by decide), if_neg (by decide), if_neg (by decide), if_pos (by decide)]
    obtain ⟨r1, -, e1⟩ := x_low (n := 3) (by omega) (by omega) x3
    obtain ⟨r, X', C', H', S', st', e3, hD⟩ := y_setFunction (X := X) hK (nI r1)
    rw [show (3 : Int32) = nI 3 from rfl, e1, Option.bind_some, e3, Option.bind_some]
    exact fin_ok hG hD
  · rw [if_neg (by decide), if_neg (by decide), if_neg (by decide), if_neg (by decide), if_neg (by decide), if_neg (by decide), if_neg (by decide), if_pos (by decide)]
    obtain ⟨r1, -, e1⟩ := x_low (n := 901) (by omega) (by omega) x3
    obtain ⟨r, X', C', H', S', st', e3, hD⟩ := y_setKink (X := X) hK (nI r1)
    rw [show (901 : Int32) = nI 901 from rfl, e1, Option.bind_some, e3, Option.bind_some]
    exact fin_ok hG hD
  · rw [if_neg (by decide), if_neg (by decide), if_neg (by decide), if_neg (by decide), if_neg (by decide), if_neg (by decide), if_neg (by decide), if_neg (by decide), if_pos (by decide)]
    obtain ⟨r1, -, e1⟩ := x_low (n := 991) (by omega) (by omega) x3
    obtain ⟨r, X', C', H', S', st', e3, hD⟩ := y_tellThinning (X := X) hK s0 ((10 : Int32) + nI r1)
    rw [show (991 : Int32) = nI 991 from rfl, e1, Option.bind_some, e3, Option.bind_some]
    exact fin_ok hG hD
  · rw [if_neg (by decide), if_neg (by decide), if_neg (by decide), if_neg (by decide), if_neg (by decide), if_neg (by decide), if_neg (by decide), if_neg (by decide), if_neg (by decide), if_pos (by decide)]
    obtain ⟨r1, -, e1⟩ := x_low (n := 4801) (by omega) (by omega) x3
    obtain ⟨r, X', C', H', S', st', e3, hD⟩ := y_correct (X := X) hK s0 ((200 : Int32) + nI r1)
    rw [show (4801 : Int32) = nI 4801 from rfl, e1, Option.bind_some, e3, Option.bind_some]
    exact fin_ok hG hD
  · rw [if_neg (by decide), if_neg (by decide), if_neg (by decide), if_neg (by decide), if_neg (by decide), if_neg (by decide), if_neg (by decide), if_neg (by decide), if_neg (by decide), if_neg (by decide), if_pos (by decide)]
    obtain ⟨r1, -, e1⟩ := x_low (n := 15001) (by omega) (by omega) x3
    obtain ⟨r, X', C', H', S', st', e3, hD⟩ := y_setCloseOff (X := X) hK (nI r1)
    rw [show (15001 : Int32) = nI 15001 from rfl, e1, Option.bind_some, e3, Option.bind_some]
    exact fin_ok hG hD
  · rw [if_neg (by decide), if_neg (by decide), if_neg (by decide), if_neg (by decide), if_neg (by decide), if_neg (by decide), if_neg (by decide), if_neg (by decide), if_neg (by decide), if_neg (by decide), if_neg (by decide), if_pos (by decide)]
    by_cases h0 : st 0 = 0
    · rw [if_neg (by rw [h0]; exact fun z => z rfl)]
      exact chg_321 hK hG x3 s0 (A := 0) (by omega)
    · rw [if_pos (nI_ne0 (by omega) (by omega)), x_depth hK.1 hK.2.1, Option.bind_some, x_ageTop hK.1 hK.2.1 (by omega) (Nat.le_refl _), Option.bind_some]
      exact chg_321 hK hG x3 s0 (ageN_lt hK.2.1 (Nat.le_refl _))
  · rw [if_neg (by decide), if_neg (by decide), if_neg (by decide), if_neg (by decide), if_neg (by decide), if_neg (by decide), if_neg (by decide), if_neg (by decide), if_neg (by decide), if_neg (by decide), if_neg (by decide), if_neg (by decide), if_pos (by decide)]
    obtain ⟨r1, -, e1⟩ := x_low (n := 5000) (by omega) (by omega) x3
    obtain ⟨r, X', C', H', S', st', e3, hD⟩ := y_setCount (X := X) hK s0 ((1 : Int32) + nI r1)
    rw [show (5000 : Int32) = nI 5000 from rfl, e1, Option.bind_some, e3, Option.bind_some]
    exact fin_ok hG hD
  · rw [if_neg (by decide), if_neg (by decide), if_neg (by decide), if_neg (by decide), if_neg (by decide), if_neg (by decide), if_neg (by decide), if_neg (by decide), if_neg (by decide), if_neg (by decide), if_neg (by decide), if_neg (by decide), if_neg (by decide)]
    obtain ⟨r1, -, e1⟩ := x_low (n := 2) (by omega) (by omega) x3
    rw [show (2 : Int32) = nI 2 from rfl, e1, Option.bind_some]
    by_cases c : ¬ nI r1 = (0 : Int32)
    · rw [if_pos c]
      obtain ⟨r, X', C', F', H', S', st', e3, hD⟩ := y_tune (X := X) (F := F) hK
      rw [e3, Option.bind_some]
      unfold fL_change_c395
      exact fin_ok hG hD
    · rw [if_neg c]
      obtain ⟨r, X', C', H', S', st', e3, hD⟩ := y_removeAsh (X := X) hK s0
      rw [e3, Option.bind_some]
      unfold fL_change_c395
      exact fin_ok hG hD
theorem chg_ok {st : Nat → Nat} {X : KX} {C : KC} {F : KF} {H : KH} {S : KS} {G : KG} (hK : K4 st C H S) (hG : G 0 = X.1) (v more : Int32) : OkC (fL_change X C F H S G v more) := by
  have h16 := hK.2.1.1
  unfold fL_change
  rw [x_layers hK.1, Option.bind_some]
  by_cases h0 : st 0 = 0
  · rw [if_neg (by rw [h0]; exact fun z => z rfl)]
    exact chg_24 hK hG v more 0
  · obtain ⟨r1, -, e1⟩ := x_low (n := st 0) (by omega) (by omega) (v >>> ((6 : Int32) &&& 31))
    rw [if_pos (nI_ne0 (by omega) (by omega)), e1, Option.bind_some]
    exact chg_24 hK hG v more (nI r1)
