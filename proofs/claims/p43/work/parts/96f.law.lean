/-! ===== PURE: the law ===== -/
theorem x_cell {L : Nat} (xs : Nat → Int32) (hL : L ≤ 260) {k : Nat} (hk : k < 100) : ∃ r, fL_cell L xs (nI k) = some r := by
  unfold fL_cell
  by_cases c : L ≤ k
  · rw [if_pos (show Int32.ofNat L ≤ nI k from (k_le (by omega) (by omega)).mpr c)]
    exact ⟨_, rfl⟩
  · rw [if_neg (show ¬ Int32.ofNat L ≤ nI k from fun z => c ((k_le (by omega) (by omega)).mp z)), if_pos (k_in rfl (by omega) (by omega))]
    exact ⟨_, rfl⟩
theorem upd_0' (G : KG) (v : Int32) : upd G (0 : Int32).toNatClampNeg v (0 : Int32).toNatClampNeg = v := by
  rw [k_c0, pk_us]
section LAW
variable {L : Nat} {xs : Nat → Int32} {t : Nat} {nx : KX × KC × KF × KH × KS × KG × Int32 → Option Int32}
theorem law_80 (ht : t < 24) (hnx : ∀ (X : KX) (C : KC) (F : KF) (H : KH) (S : KS) (G : KG) (st : Nat → Nat), K4 st C H S → G 0 = X.1 → nx (X, C, F, H, S, G, nI (t + 1)) = some 1) {st : Nat → Nat} {X : KX} {C : KC} {F : KF} {H : KH} {S : KS} {G : KG} (hK : K4 st C H S) (hG : G 0 = X.1) (x5 : Int32) {A : Nat} (hA : A ≤ 40000000) : fL_law_c80 L xs X C F H S G (nI t) x5 (nI A) nx = some 1 := by
  have h16 := hK.2.1.1
  have k0 : kIn 0 1 = true := by decide
  obtain ⟨r, hr, e1⟩ := x_low (n := A + 2) (by omega) (by omega) (x5 >>> ((5 : Int32) &&& 31))
  have eR : nI t - nI t / (4 : Int32) * (4 : Int32) = nI (t % 4) := by
    rw [show (4 : Int32) = nI 4 from rfl]
    exact pk_rem (by omega) (by omega) (by omega)
  have e2 : nI A + (2 : Int32) = nI (A + 2) := nI_add A 2
  unfold fL_law_c80
  rw [e2, e1, Option.bind_some, dep_ok hK.1 hK.2.1 (by omega), Option.bind_some, if_neg (by decide), dep_ok hK.1 hK.2.1 (by omega), Option.bind_some, if_pos (by decide), eR, nI_1]
  by_cases c : ¬ nI (t % 4) = (3 : Int32)
  · rw [if_pos c]
    exact hnx X C F H S G st hK hG
  · rw [if_neg c, x_acts, Option.bind_some]
    obtain ⟨X', C', H', S', e, hK', hX⟩ := best_ok (X := X) hK
    rw [e, Option.bind_some]
    dsimp only
    rw [x_acts, Option.bind_some, if_pos k0, if_neg (by decide), if_pos k0, upd_0']
    by_cases ca : ashN st (st 0) = 0
    · rw [if_pos ca] at hX
      rw [x_best0 hK'.1 hK'.2.1 ca, Option.bind_some, if_neg (by decide)]
      unfold fL_law_c159
      rw [if_pos hX, nI_1]
      exact hnx X' C' F H' S' _ st hK' (upd_0 G X'.1)
    · have hb := amin_le (g := fun f => misN st f (st 3) (st 0)) 2
      rw [if_neg ca] at hX
      rw [c_bestFunction hK'.1 hK'.2.1 (by omega), Option.bind_some, if_pos (nI_pos' (by omega))]
      unfold fL_law_c159
      rw [if_pos hX, nI_1]
      exact hnx X' C' F H' S' _ st hK' (upd_0 G X'.1)
theorem law_step (hL : L ≤ 260) (ht : t < 24) (hnx : ∀ (X : KX) (C : KC) (F : KF) (H : KH) (S : KS) (G : KG) (st : Nat → Nat), K4 st C H S → G 0 = X.1 → nx (X, C, F, H, S, G, nI (t + 1)) = some 1) {st : Nat → Nat} {X : KX} {C : KC} {F : KF} {H : KH} {S : KS} {G : KG} (hK : K4 st C H S) (hG : G 0 = X.1) : fL_law_c14 L xs X C F H S G (nI t) nx = some 1 := by
  have ea : (2 : Int32) * nI t = nI (2 * t) := pk_mul 2 t
  obtain ⟨r1, e1⟩ := x_cell xs hL (k := 2 * t) (by omega)
  obtain ⟨r2, e2⟩ := x_cell xs hL (k := 2 * t + 1) (by omega)
  obtain ⟨X1, C1, F1, H1, S1, G1, st1, e3, hK1, hG1⟩ := chg_ok (X := X) (F := F) hK hG r1 r2
  have h16 := hK1.2.1.1
  unfold fL_law_c14
  rw [if_neg (by rw [show (24 : Int32) = nI 24 from rfl, k_le (by omega) (by omega)]; omega), ea, nI_1, e1, Option.bind_some, e2, Option.bind_some, e3, Option.bind_some]
  dsimp only
  rw [if_neg (by decide), ages_ok hK1.1 hK1.2.1, Option.bind_some, if_pos (by decide), x_layers hK1.1, Option.bind_some]
  by_cases h0 : st1 0 = 0
  · rw [if_neg (by rw [h0]; exact fun z => z rfl)]
    exact law_80 ht hnx hK1 hG1 r2 (A := 0) (by omega)
  · rw [if_pos (nI_ne0 (by omega) (by omega)), x_depth hK1.1 hK1.2.1, Option.bind_some, x_ageTop hK1.1 hK1.2.1 (by omega) (Nat.le_refl _), Option.bind_some]
    exact law_80 ht hnx hK1 hG1 r2 (ageN_lt hK1.2.1 (Nat.le_refl _))
theorem law_end {st : Nat → Nat} {X : KX} {C : KC} {F : KF} {H : KH} {S : KS} {G : KG} (hK : K4 st C H S) : fL_law_c14 L xs X C F H S G (nI 24) nx = some 1 := by
  obtain ⟨hC, hI, pst, n, q, h7, h8, h10, h12⟩ := hK
  unfold fL_law_c14
  rw [if_pos (by decide), x_acts, Option.bind_some, h10]
  cases n with
  | zero =>
    rw [y_undo0, Option.bind_some, Option.bind_some, if_neg (fun z => z rfl), if_neg (show ¬ (0 : Int32) ≤ -1000000005 by decide), if_neg (fun z => z rfl)]
  | succ n =>
    obtain ⟨c, e, -, -⟩ := y_undo (X := X) (C := C) h7 h8 h12
    rw [e, Option.bind_some, Option.bind_some, if_neg (fun z => z rfl), if_pos (nI_pos' (by omega))]
end LAW
theorem law_ind {L : Nat} {xs : Nat → Int32} (hL : L ≤ 260) (fu : Nat) : ∀ (m t : Nat) (X : KX) (C : KC) (F : KF) (H : KH) (S : KS) (G : KG) (st : Nat → Nat), t + m = 24 → K4 st C H S → G 0 = X.1 → kLoopC (fu + (m + 1)) (fun q nx14 => fL_law_c14 L xs q.1 q.2.1 q.2.2.1 q.2.2.2.1 q.2.2.2.2.1 q.2.2.2.2.2.1 q.2.2.2.2.2.2 nx14) (X, C, F, H, S, G, nI t) = some 1 := by
  intro m
  induction m with
  | zero =>
    intro t X C F H S G st ht hK hG
    have e : t = 24 := by omega
    subst e
    rw [show fu + (0 + 1) = fu + 1 from rfl, kLoopC_s]
    dsimp only
    exact law_end hK
  | succ m ih =>
    intro t X C F H S G st ht hK hG
    rw [show fu + (m + 1 + 1) = fu + (m + 1) + 1 from rfl, kLoopC_s]
    dsimp only
    exact law_step hL (by omega) (fun X C F H S G st hK hG => ih (t + 1) X C F H S G st (by omega) hK hG) hK hG
theorem law_true {L : Nat} {xs : Nat → Int32} (hL : L ≤ 260) : fL_law L xs kX0 kC0 kF0 kH0 (fun _ => kC0) (fun _ => 0) 0 = some 1 := by
  have hK : K4 (fun i => if i = 4 then 7000 else if i = 3 then 300 else if i = 1 then 100000 else 0) kC0 kH0 (fun _ => kC0) :=
    ⟨⟨rfl, rfl, rfl, rfl, rfl, fun k hk => absurd hk (Nat.not_lt_zero _)⟩, ⟨by decide, by decide, by decide, by decide, by decide, fun k hk => absurd hk (Nat.not_lt_zero _), by decide⟩, fun _ _ => 0, 0, 0, by omega, by omega, rfl, fun r hr => absurd hr (by omega)⟩
  have h := law_ind (xs := xs) hL 99975 24 0 kX0 kC0 kF0 kH0 (fun _ => kC0) (fun _ => 0) _ (by omega) hK rfl
  unfold fL_law
  exact h
