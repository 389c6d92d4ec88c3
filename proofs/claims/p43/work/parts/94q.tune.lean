/-! ===== PURE: tuning ===== -/
theorem kLoop_ex1 {σ R : Type} {b : σ → (σ → Option R) → Option R} {Q : R → Prop} : ∀ (n : Nat) (P : Nat → σ → Prop) (s0 : σ) (f : Nat), P 0 s0 → (∀ j, j < n → ∀ s, P j s → ∃ s', P (j + 1) s' ∧ ∀ nx, b s nx = nx s') → (∀ s, P n s → ∃ r, Q r ∧ ∀ nx, b s nx = some r) → ∃ r, Q r ∧ kLoopC (n + (f + 1)) b s0 = some r := by
  intro n
  induction n with
  | zero =>
    intro P s0 f h0 _ he
    obtain ⟨r, h1, h2⟩ := he s0 h0
    refine ⟨r, h1, ?_⟩
    rw [Nat.zero_add]
    exact h2 _
  | succ n ih =>
    intro P s0 f h0 hs he
    obtain ⟨s', h1, h2⟩ := hs 0 (Nat.succ_pos n) s0 h0
    obtain ⟨r, h3, h4⟩ := ih (fun j => P (j + 1)) s' f h1 (fun j hj s hP => hs (j + 1) (Nat.succ_lt_succ hj) s hP) he
    refine ⟨r, h3, ?_⟩
    have h5 : kLoopC (n + 1 + (f + 1)) b s0 = b s0 (kLoopC (n + (f + 1)) b) := by
      rw [Nat.add_right_comm]
      rfl
    rw [h5, h2, h4]
/-- a loop whose states are known by a property -/
theorem kLoop_ex {σ R : Type} {b : σ → (σ → Option R) → Option R} {s0 : σ} (P : Nat → σ → Prop) (Q : R → Prop) (n : Nat) (h0 : P 0 s0) (hs : ∀ j, j < n → ∀ s, P j s → ∃ s', P (j + 1) s' ∧ ∀ nx, b s nx = nx s') (he : ∀ s, P n s → ∃ r, Q r ∧ ∀ nx, b s nx = some r) (hn : n < kFu) : ∃ r, Q r ∧ kLoopC kFu b s0 = some r := by
  obtain ⟨f, hf⟩ : ∃ f, kFu = n + (f + 1) := ⟨kFu - n - 1, by omega⟩
  rw [hf]
  exact kLoop_ex1 n P s0 f h0 hs he
/-! may it be tuned -/
def lastA (st : Nat → Nat) : Nat → Nat
  | 0 => 0
  | j + 1 => if st (8 * j + 9) = 1 then st (8 * j + 10) else lastA st j
def OkA (st : Nat → Nat) (i : Nat) : Prop := st (8 * i + 9) = 1 → lastA st i ≤ st (8 * i + 10)
theorem lastA_le {st : Nat → Nat} (hI : Inv st) : ∀ j, j ≤ st 0 → lastA st j ≤ 100000000
  | 0, _ => Nat.zero_le _
  | j + 1, h => by
    have h1 := (hI.2.2.2.2.2.1 j h).2.2.2.2.2.1
    have h2 := lastA_le hI j (by omega)
    unfold lastA
    split <;> omega
def CanT (st : Nat → Nat) : Prop := (∀ i, i < st 0 → OkA st i) ∧ 0 < ashN st (st 0)
theorem c_canStep {st : Nat → Nat} {c : KC} (h : RC st c) (hI : Inv st) {j : Nat} (hj : j < st 0) (ho : OkA st j) (nx : Int32 × Int32 → Option Int32) : fX0_canBeTuned_c4 c (nI (lastA st j)) (nI j) nx = nx (nI (lastA st (j + 1)), nI (j + 1)) := by
  have h16 := hI.1
  have hb := (hI.2.2.2.2.2.1 j hj).2.2.2.2
  have hl := h.2.2.2.2.2 j hj
  have hA := lastA_le hI j (by omega)
  have eL : lastA st (j + 1) = if st (8 * j + 9) = 1 then st (8 * j + 10) else lastA st j := rfl
  rw [eL]
  unfold fX0_canBeTuned_c4
  rw [h.1, if_neg (by rw [k_le (by omega) (by omega)]; omega), c_hasAsh h hI rfl hj, Option.bind_some, nI_1]
  by_cases h1 : st (8 * j + 9) = 1
  · have := ho h1
    rw [h1, if_neg (by decide), if_pos (k_in rfl (by omega) (by omega)), if_pos (k_in rfl (by omega) (by omega)), nI_clamp (by omega), hl.2.2.2.2.1, if_pos h1, if_pos ((k_le (by omega) (by omega)).mpr this), Option.bind_some, if_pos rfl]
  · rw [show st (8 * j + 9) = 0 by omega, if_pos nI_0, if_neg (by omega)]
theorem m_canStep {st : Nat → Nat} {u : KM} (h : RM st u) (hI : Inv st) {j : Nat} (hj : j < st 0) (ho : OkA st j) (nx : Int32 × Int32 → Option Int32) : fX5_canTune_c4 u (nI (lastA st j)) (nI j) nx = nx (nI (lastA st (j + 1)), nI (j + 1)) := by
  have h16 := hI.1
  have hb := (hI.2.2.2.2.2.1 j hj).2.2.2.2
  have hA := lastA_le hI j (by omega)
  have eL : lastA st (j + 1) = if st (8 * j + 9) = 1 then st (8 * j + 10) else lastA st j := rfl
  rw [eL]
  unfold fX5_canTune_c4
  rw [if_pos k_i0, k_c0, h 0 (by omega), if_neg (by rw [k_le (by omega) (by omega)]; omega), m_of9 h (by omega), Option.bind_some, nI_1]
  by_cases h1 : st (8 * j + 9) = 1
  · have := ho h1
    rw [h1, if_neg (fun z => z rfl), m_of10 h (by omega), Option.bind_some, if_pos ((k_le (by omega) (by omega)).mpr this), Option.bind_some, if_pos rfl]
  · rw [if_pos (by rw [show (1 : Int32) = nI 1 from rfl, k_eq (by omega) (by omega)]; exact h1), if_neg h1]
theorem can_both {st : Nat → Nat} {c : KC} {u : KM} (hM : RM st u) (hC : RC st c) (hI : Inv st) : (CanT st ∧ fX0_canBeTuned c = some 1 ∧ fX5_canTune u = some 1) ∨ (fX0_canBeTuned c = some 0 ∧ fX5_canTune u = some 0) := by
  have h16 := hI.1
  have hal := ashN_le hI _ (Nat.le_refl _)
  by_cases hb : ∃ i, i < st 0 ∧ ¬ OkA st i
  · obtain ⟨b, ⟨hb1, hb2⟩, hb3⟩ := pk_least (fun i => i < st 0 ∧ ¬ OkA st i) hb
    have hok : ∀ j, j < b → OkA st j := fun j hj => Classical.byContradiction (fun z => hb3 j hj ⟨by omega, z⟩)
    have hq : st (8 * b + 9) = 1 ∧ ¬ lastA st b ≤ st (8 * b + 10) := by
      unfold OkA at hb2
      exact ⟨Classical.byContradiction (fun z => hb2 (fun y => absurd y z)), fun z => hb2 (fun _ => z)⟩
    have hl := hC.2.2.2.2.2 b hb1
    have hbb := (hI.2.2.2.2.2.1 b hb1).2.2.2.2
    have hA := lastA_le hI b (by omega)
    refine Or.inr ⟨?_, ?_⟩
    · unfold fX0_canBeTuned
      refine kLoop_to (fun j => (nI (lastA st j), nI j)) b rfl (fun j hj nx => c_canStep hC hI (by omega) (hok j hj) nx) (fun nx => ?_) (by rw [kFu_eq]; omega)
      show fX0_canBeTuned_c4 c (nI (lastA st b)) (nI b) nx = _
      unfold fX0_canBeTuned_c4
      rw [hC.1, if_neg (by rw [k_le (by omega) (by omega)]; omega), c_hasAsh hC hI rfl hb1, Option.bind_some, hq.1, if_neg (by decide), if_pos (k_in rfl (by omega) (by omega)), nI_clamp (by omega), hl.2.2.2.2.1, if_pos hq.1, if_neg (by rw [k_le (by omega) (by omega)]; exact hq.2)]
    · unfold fX5_canTune
      refine kLoop_to (fun j => (nI (lastA st j), nI j)) b rfl (fun j hj nx => m_canStep hM hI (by omega) (hok j hj) nx) (fun nx => ?_) (by rw [kFu_eq]; omega)
      show fX5_canTune_c4 u (nI (lastA st b)) (nI b) nx = _
      unfold fX5_canTune_c4
      rw [if_pos k_i0, k_c0, hM 0 (by omega), if_neg (by rw [k_le (by omega) (by omega)]; omega), m_of9 hM (by omega), Option.bind_some, hq.1, if_neg (fun z => z rfl), m_of10 hM (by omega), Option.bind_some, if_neg (by rw [k_le (by omega) (by omega)]; exact hq.2)]
  · have hok : ∀ j, j < st 0 → OkA st j := fun j hj => Classical.byContradiction (fun z => hb ⟨j, hj, z⟩)
    by_cases ha : 0 < ashN st (st 0)
    · refine Or.inl ⟨⟨hok, ha⟩, ?_, ?_⟩
      · unfold fX0_canBeTuned
        refine kLoop_to (fun j => (nI (lastA st j), nI j)) (st 0) rfl (fun j hj nx => c_canStep hC hI (by omega) (hok j hj) nx) (fun nx => ?_) (by rw [kFu_eq]; omega)
        show fX0_canBeTuned_c4 c (nI (lastA st (st 0))) (nI (st 0)) nx = _
        unfold fX0_canBeTuned_c4
        rw [hC.1, if_pos (by rw [k_le (by omega) (by omega)]; omega), c_ashBeds hC hI, Option.bind_some, if_neg (nI_nle ha (by omega))]
      · unfold fX5_canTune
        refine kLoop_to (fun j => (nI (lastA st j), nI j)) (st 0) rfl (fun j hj nx => m_canStep hM hI (by omega) (hok j hj) nx) (fun nx => ?_) (by rw [kFu_eq]; omega)
        show fX5_canTune_c4 u (nI (lastA st (st 0))) (nI (st 0)) nx = _
        unfold fX5_canTune_c4
        rw [if_pos k_i0, k_c0, hM 0 (by omega), if_pos (by rw [k_le (by omega) (by omega)]; omega), m_ashes hM hI, Option.bind_some, if_neg (nI_nle ha (by omega))]
    · refine Or.inr ⟨?_, ?_⟩
      · unfold fX0_canBeTuned
        refine kLoop_to (fun j => (nI (lastA st j), nI j)) (st 0) rfl (fun j hj nx => c_canStep hC hI (by omega) (hok j hj) nx) (fun nx => ?_) (by rw [kFu_eq]; omega)
        show fX0_canBeTuned_c4 c (nI (lastA st (st 0))) (nI (st 0)) nx = _
        unfold fX0_canBeTuned_c4
        rw [hC.1, if_pos (by rw [k_le (by omega) (by omega)]; omega), c_ashBeds hC hI, Option.bind_some, show ashN st (st 0) = 0 by omega, if_pos (by decide)]
      · unfold fX5_canTune
        refine kLoop_to (fun j => (nI (lastA st j), nI j)) (st 0) rfl (fun j hj nx => m_canStep hM hI (by omega) (hok j hj) nx) (fun nx => ?_) (by rw [kFu_eq]; omega)
        show fX5_canTune_c4 u (nI (lastA st (st 0))) (nI (st 0)) nx = _
        unfold fX5_canTune_c4
        rw [if_pos k_i0, k_c0, hM 0 (by omega), if_pos (by rw [k_le (by omega) (by omega)]; omega), m_ashes hM hI, Option.bind_some, show ashN st (st 0) = 0 by omega, if_pos (by decide)]
/-! a segment -/
def sgD (st : Nat → Nat) (a i : Nat) : Nat := 10000000 * st (8 * (a + i) + 5)
def sgF (st : Nat → Nat) (a i : Nat) : Nat := st (8 * (a + i) + 6) * thinN st (st 2) (st 3) (a + i)
def segD (st : Nat → Nat) (a n t v : Nat) : Nat := adN (sumN (sgD st a) (sgF st a) v n) t
def segB (st : Nat → Nat) (a n t : Nat) : Nat := lmin (segD st a n t) 200 4800
theorem segB_b {st : Nat → Nat} {a n t : Nat} : 200 ≤ segB st a n t ∧ segB st a n t ≤ 5000 := lmin_le
def setCor (st : Nat → Nat) (a b r : Nat) : Nat → Nat := fun i => if i % 8 = 7 ∧ 8 * a + 7 ≤ i ∧ i ≤ 8 * b + 7 then r else st i
theorem sc_o {st : Nat → Nat} {a b r i : Nat} (h : i % 8 ≠ 7) : setCor st a b r i = st i := if_neg (fun z => h z.1)
theorem sc_7 {st : Nat → Nat} {a b r k : Nat} : setCor st a b r (8 * k + 7) = if a ≤ k ∧ k ≤ b then r else st (8 * k + 7) := by
  unfold setCor
  by_cases h : a ≤ k ∧ k ≤ b
  · rw [if_pos h, if_pos (by omega)]
  · rw [if_neg h, if_neg (by omega)]
theorem sc_inv {st : Nat → Nat} (hI : Inv st) {a b r : Nat} (h1 : 200 ≤ r) (h2 : r ≤ 5000) : Inv (setCor st a b r) := by
  refine inv_lay hI (fun i hi => sc_o (by omega)) (fun k => sc_o (by omega)) (fun k hk0 => ?_)
  have hk := hI.2.2.2.2.2.1 k hk0
  unfold LayOk
  rw [sc_o (i := 8 * k + 5) (by omega), sc_o (i := 8 * k + 6) (by omega), sc_o (i := 8 * k + 8) (by omega), sc_o (i := 8 * k + 9) (by omega), sc_o (i := 8 * k + 10) (by omega), sc_o (i := 8 * k + 11) (by omega), sc_o (i := 8 * k + 12) (by omega), sc_7]
  refine ⟨hk.1, hk.2.1, ?_, hk.2.2.2⟩
  split
  · exact ⟨h1, h2⟩
  · exact hk.2.2.1
def corR (f : Nat → Int32) (a m r : Nat) : Nat → Int32 := fun k => if a ≤ k ∧ k < a + m then nI r else f k
theorem sc_rc {st : Nat → Nat} {C : KC} (hC : RC st C) {a b r : Nat} (hab : a ≤ b) : RC (setCor st a b r) (C.1, C.2.1, C.2.2.1, C.2.2.2.1, C.2.2.2.2.1, C.2.2.2.2.2.1, C.2.2.2.2.2.2.1, corR C.2.2.2.2.2.2.2.1 a (b + 1 - a) r, C.2.2.2.2.2.2.2.2) := by
  refine ⟨?_, ?_, ?_, ?_, ?_, fun k hk => ?_⟩
  · rw [sc_o (by omega)]; exact hC.1
  · rw [sc_o (by omega)]; exact hC.2.1
  · rw [sc_o (by omega)]; exact hC.2.2.1
  · rw [sc_o (by omega)]; exact hC.2.2.2.1
  · rw [sc_o (by omega)]; exact hC.2.2.2.2.1
  · rw [sc_o (by omega)] at hk
    obtain ⟨l1, l2, l3, l4, l5, l6, l7⟩ := hC.2.2.2.2.2 k hk
    rw [sc_o (i := 8 * k + 5) (by omega), sc_o (i := 8 * k + 6) (by omega), sc_o (i := 8 * k + 8) (by omega), sc_o (i := 8 * k + 9) (by omega), sc_o (i := 8 * k + 10) (by omega), sc_o (i := 8 * k + 11) (by omega), sc_o (i := 8 * k + 12) (by omega), sc_7]
    refine ⟨l1, l2, ?_, l4, l5, l6, l7⟩
    show corR C.2.2.2.2.2.2.2.1 a (b + 1 - a) r k = _
    unfold corR
    by_cases h : a ≤ k ∧ k ≤ b
    · rw [if_pos h, if_pos (by omega)]
    · rw [if_neg h, if_neg (by omega)]
      exact l3
theorem sg_b {st : Nat → Nat} (hI : Inv st) {a i : Nat} (h : a + i < st 0) : sgD st a i ≤ 50000000000 ∧ 0 < sgF st a i ∧ sgF st a i ≤ 10000000 := by
  obtain ⟨l5, l6, -⟩ := hI.2.2.2.2.2.1 (a + i) h
  have ht := thinN_b hI (f := st 2) hI.2.2.2.1 h
  have hp : st (8 * (a + i) + 6) * thinN st (st 2) (st 3) (a + i) ≤ 2000 * 1000 := Nat.mul_le_mul l6.2 ht.2
  unfold sgD sgF
  refine ⟨by omega, Nat.mul_pos (by omega) (by omega), by omega⟩
theorem c_fitSegment {st : Nat → Nat} {C : KC} {F : KF} (hC : RC st C) (hI : Inv st) {x y z : Int32} {a b t : Nat} (hx : x = nI a) (hy : y = nI b) (hz : z = nI t) (hab : a ≤ b) (hb : b < st 0) (ht : t < 2 ^ 30) : ∃ F', fX0_fitSegment C F x y z = some ((C.1, C.2.1, C.2.2.1, C.2.2.2.1, C.2.2.2.2.1, C.2.2.2.2.2.1, C.2.2.2.2.2.2.1, corR C.2.2.2.2.2.2.2.1 a (b + 1 - a) (segB st a (b + 1 - a) t), C.2.2.2.2.2.2.2.2), F') := by
  subst hx hy hz
  have h16 := hI.1
  unfold fX0_fitSegment
  obtain ⟨F1, e1, g1⟩ := f_clear F (sgD st a) (sgF st a)
  rw [e1, Option.bind_some]
  have K : ∃ r, (∃ F', r = ((C.1, C.2.1, C.2.2.1, C.2.2.2.1, C.2.2.2.2.1, C.2.2.2.2.2.1, C.2.2.2.2.2.2.1, corR C.2.2.2.2.2.2.2.1 a (b + 1 - a) (segB st a (b + 1 - a) t), C.2.2.2.2.2.2.2.2), F')) ∧ kLoopC kFu (fun (q : KF × Int32) (nx8 : KF × Int32 → Option (KC × KF)) => fX0_fitSegment_c8 C q.1 (nI a) (nI b) (nI t) q.2 nx8) (F1, nI a) = some r := by
    refine kLoop_ex (fun j s => FOk s.1 j (sgD st a) (sgF st a) ∧ s.2 = nI (a + j)) _ (b + 1 - a) ⟨g1, rfl⟩ ?_ ?_ (by rw [kFu_eq]; omega)
    · rintro j hj ⟨F2, x5⟩ ⟨g2, e2⟩
      have hs := sg_b hI (a := a) (i := j) (by omega)
      obtain ⟨l5, l6, -⟩ := hI.2.2.2.2.2.1 (a + j) (by omega)
      have htb := thinN_b hI (f := st 2) hI.2.2.2.1 (n := a + j) (by omega)
      have hl := hC.2.2.2.2.2 (a + j) (by omega)
      replace e2 : x5 = nI (a + j) := e2
      subst e2
      obtain ⟨F3, e3, g3⟩ := f_add g2 (by omega) (x := lN (10000000 * st (8 * (a + j) + 5))) (y := lN (st (8 * (a + j) + 6) * thinN st (st 2) (st 3) (a + j))) rfl rfl hs.1 hs.2.1 hs.2.2
      refine ⟨(F3, nI (a + (j + 1))), ⟨g3, rfl⟩, fun nx => ?_⟩
      show fX0_fitSegment_c8 C F2 (nI a) (nI b) (nI t) (nI (a + j)) nx = _
      unfold fX0_fitSegment_c8
      rw [if_neg (by rw [k_lt (by omega) (by omega)]; omega), if_neg (by rw [hC.1, k_le (by omega) (by omega)]; omega), c_yearsDividend hC hI rfl (by omega), Option.bind_some, if_pos (k_in rfl (by omega) (by omega)), c_thinningOf hC hI rfl (by omega) hC.2.2.1 hI.2.2.1 hC.2.2.2.1 hI.2.2.2.1, Option.bind_some, nI_clamp (by omega), hl.2.1, nI_l (by omega), nI_l (by omega), lN_mul, e3, Option.bind_some, nI_1, Nat.add_assoc]
    · rintro ⟨F2, x5⟩ ⟨g2, e2⟩
      replace e2 : x5 = nI (a + (b + 1 - a)) := e2
      rw [show a + (b + 1 - a) = b + 1 by omega] at e2
      subst e2
      obtain ⟨r, e3, g3⟩ := f_nearest g2 (x := 200) (y := 5000) (z := lN t) (lo := 200) (hi := 5000) rfl rfl rfl (by omega) (by omega) (by omega) (by omega)
      have hr : r = segB st a (b + 1 - a) t := best_uniq g3 (lmin_best (D := segD st a (b + 1 - a) t) (lo := 200) 4800)
      refine ⟨_, ⟨F2, rfl⟩, fun nx => ?_⟩
      show fX0_fitSegment_c8 C F2 (nI a) (nI b) (nI t) (nI (b + 1)) nx = _
      unfold fX0_fitSegment_c8
      rw [if_pos (by rw [k_lt (by omega) (by omega)]; omega), nI_l (by omega), e3, Option.bind_some, hr]
      generalize segB st a (b + 1 - a) t = r
      refine kLoop_to (fun j => ((C.1, C.2.1, C.2.2.1, C.2.2.2.1, C.2.2.2.2.1, C.2.2.2.2.2.1, C.2.2.2.2.2.2.1, corR C.2.2.2.2.2.2.2.1 a j r, C.2.2.2.2.2.2.2.2), nI (a + j))) (b + 1 - a) ?_ (fun j hj nx => ?_) (fun nx => ?_) (by rw [kFu_eq]; omega)
      · have e : corR C.2.2.2.2.2.2.2.1 a 0 r = C.2.2.2.2.2.2.2.1 := by
          funext k
          unfold corR
          rw [if_neg (by omega)]
        show _ = ((C.1, C.2.1, C.2.2.1, C.2.2.2.1, C.2.2.2.2.1, C.2.2.2.2.2.1, C.2.2.2.2.2.2.1, corR C.2.2.2.2.2.2.2.1 a 0 r, C.2.2.2.2.2.2.2.2), nI (a + 0))
        rw [e]
        rfl
      · show fX0_fitSegment_c82 (C.1, C.2.1, C.2.2.1, C.2.2.2.1, C.2.2.2.2.1, C.2.2.2.2.2.1, C.2.2.2.2.2.2.1, corR C.2.2.2.2.2.2.2.1 a j r, C.2.2.2.2.2.2.2.2) F2 (nI b) (nI r) (nI (a + j)) nx = nx ((C.1, C.2.1, C.2.2.1, C.2.2.2.1, C.2.2.2.2.1, C.2.2.2.2.2.1, C.2.2.2.2.2.2.1, corR C.2.2.2.2.2.2.2.1 a (j + 1) r, C.2.2.2.2.2.2.2.2), nI (a + (j + 1)))
        have e : upd (corR C.2.2.2.2.2.2.2.1 a j r) (a + j) (nI r) = corR C.2.2.2.2.2.2.2.1 a (j + 1) r := by
          funext k
          by_cases ek : k = a + j
          · rw [ek, pk_us]
            unfold corR
            rw [if_pos (by omega)]
          · rw [pk_un ek]
            unfold corR
            by_cases c : a ≤ k ∧ k < a + j
            · rw [if_pos c, if_pos (by omega)]
            · rw [if_neg c, if_neg (by omega)]
        unfold fX0_fitSegment_c82
        rw [if_neg (by rw [k_lt (by omega) (by omega)]; omega), if_neg (by show ¬ C.1 ≤ nI (a + j); rw [hC.1, k_le (by omega) (by omega)]; omega), if_pos (k_in rfl (by omega) (by omega)), nI_clamp (by omega), nI_1, ← Nat.add_assoc, ← e]
      · show fX0_fitSegment_c82 (C.1, C.2.1, C.2.2.1, C.2.2.2.1, C.2.2.2.2.1, C.2.2.2.2.2.1, C.2.2.2.2.2.2.1, corR C.2.2.2.2.2.2.2.1 a (b + 1 - a) r, C.2.2.2.2.2.2.2.2) F2 (nI b) (nI r) (nI (a + (b + 1 - a))) nx = _
        unfold fX0_fitSegment_c82
        rw [if_pos (by rw [k_lt (by omega) (by omega)]; omega)]
  obtain ⟨r, ⟨F', rfl⟩, he⟩ := K
  exact ⟨F', he⟩
