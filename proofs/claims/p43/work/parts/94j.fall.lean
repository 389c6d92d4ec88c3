/-! ===== PURE: the nearest of a falling sum ===== -/
def FOk (F : KF) (n : Nat) (dv fc : Nat → Nat) : Prop := F.1 = nI n ∧ n ≤ 16 ∧ ∀ i, i < n → F.2.1 i = lN (dv i) ∧ F.2.2 i = lN (fc i) ∧ dv i ≤ 50000000000 ∧ 0 < fc i ∧ fc i ≤ 10000000
theorem f_clear (F : KF) (dv fc : Nat → Nat) : ∃ F', fX1_clear F = some F' ∧ FOk F' 0 dv fc := ⟨_, rfl, rfl, by omega, fun i hi => absurd hi (by omega)⟩
theorem f_add {F : KF} {n : Nat} {dv fc : Nat → Nat} (h : FOk F n dv fc) (hn : n < 16) {x y : Int64} (hx : x = lN (dv n)) (hy : y = lN (fc n)) (hd : dv n ≤ 50000000000) (h0 : 0 < fc n) (h1 : fc n ≤ 10000000) : ∃ F', fX1_add F x y = some F' ∧ FOk F' (n + 1) dv fc := by
  obtain ⟨f1, f2, f3⟩ := F
  obtain ⟨e1, -, e3⟩ := h
  replace e1 : f1 = nI n := e1
  subst e1
  refine ⟨(nI n + 1, vp_updL f2 n x, vp_updL f3 n y), ?_, nI_1 n, by omega, fun i hi => ?_⟩
  · unfold fX1_add
    show (if (16 : Int32) ≤ nI n then _ else (if kIn (nI n) 16 = true then (if kIn (nI n) 16 = true then some (nI n + 1, vp_updL f2 (nI n).toNatClampNeg x, vp_updL f3 (nI n).toNatClampNeg y) else none) else none)) = _
    rw [if_neg (by rw [show (16 : Int32) = nI 16 from rfl, k_le (by omega) (by omega)]; omega), if_pos (k_in rfl (by omega) (by omega)), if_pos (k_in rfl (by omega) (by omega)), nI_clamp (by omega)]
  · show vp_updL f2 n x i = _ ∧ vp_updL f3 n y i = _ ∧ _
    by_cases hc : i = n
    · subst hc
      rw [pk_uLs, pk_uLs]
      exact ⟨hx, hy, hd, h0, h1⟩
    · rw [pk_uLn hc, pk_uLn hc]
      exact e3 i (by omega)
def sumN (dv fc : Nat → Nat) (v : Nat) : Nat → Nat
  | 0 => 0
  | i + 1 => sumN dv fc v i + dv i / (fc i * v)
theorem sumN_le {dv fc : Nat → Nat} {v : Nat} : ∀ n, (∀ i, i < n → dv i ≤ 50000000000) → sumN dv fc v n ≤ 50000000000 * n
  | 0, _ => Nat.le_refl _
  | n + 1, h => by
    have h1 := sumN_le (fc := fc) (v := v) n (fun i hi => h i (by omega))
    have h2 := h n (by omega)
    have h3 : dv n / (fc n * v) ≤ dv n := Nat.div_le_self _ _
    unfold sumN
    omega
theorem sumN_anti {dv fc : Nat → Nat} {v w : Nat} (h1 : 1 ≤ v) (hvw : v ≤ w) : ∀ n, (∀ i, i < n → 0 < fc i) → sumN dv fc w n ≤ sumN dv fc v n
  | 0, _ => Nat.le_refl _
  | n + 1, h => by
    have a1 := sumN_anti (dv := dv) (fc := fc) h1 hvw n (fun i hi => h i (by omega))
    have h2 : dv n / (fc n * w) ≤ dv n / (fc n * v) := Nat.div_le_div_left (Nat.mul_le_mul_left _ hvw) (Nat.mul_pos (h n (by omega)) h1)
    unfold sumN
    omega
theorem f_sum {F : KF} {n : Nat} {dv fc : Nat → Nat} (h : FOk F n dv fc) {x : Int32} {v : Nat} (hx : x = nI v) (h1 : 1 ≤ v) (h5 : v ≤ 5000) : fX1_sum F x = some (lN (sumN dv fc v n)) := by
  subst hx
  have h16 := h.2.1
  unfold fX1_sum
  refine kLoop_to (fun j => (lN (sumN dv fc v j), nI j)) n rfl (fun j hj nx => ?_) (fun nx => ?_) (by rw [kFu_eq]; omega)
  · show fX1_sum_c5 F (nI v) (lN (sumN dv fc v j)) (nI j) nx = nx (lN (sumN dv fc v j + dv j / (fc j * v)), nI (j + 1))
    obtain ⟨a1, a2, a3, a4, a5⟩ := h.2.2 j hj
    have b1 : fc j * v ≤ 10000000 * 5000 := Nat.mul_le_mul a5 h5
    have b2 : 0 < fc j * v := Nat.mul_pos a4 h1
    unfold fX1_sum_c5
    rw [h.1, if_neg (by rw [k_le (by omega) (by omega)]; omega), if_pos (k_in rfl (by omega) (by omega)), nI_clamp (by omega), a2, nI_l (by omega), lN_mul, if_neg (by rw [show (0 : Int64) = lN 0 from rfl, pk_lLE (by omega) (by omega)]; omega), if_pos (k_in rfl (by omega) (by omega)), if_pos (by rw [show (0 : Int64) = lN 0 from rfl, pk_lEQ (by omega) (by omega)]; omega), a1, lN_div (by omega) b2 (by omega), lN_add, Option.bind_some, nI_1]
  · show fX1_sum_c5 F (nI v) (lN (sumN dv fc v n)) (nI n) nx = _
    unfold fX1_sum_c5
    rw [h.1, if_pos (by rw [k_le (by omega) (by omega)]; omega)]
/-! halving -/
def sN : Nat → Nat
  | 0 => 4096
  | j + 1 => sN j / 2
def wN : Nat → Nat
  | 0 => 8192
  | j + 1 => sN j
theorem sN_w : ∀ j, j < 13 → wN j = 2 * sN j := by decide
theorem sN_pos : ∀ j, j < 13 → 0 < sN j := by decide
theorem sN_le : ∀ j, j < 14 → sN j ≤ 4096 := by decide
def famB (g : Nat → Nat) (lo hi t : Nat) : Nat → Nat
  | 0 => lo - 1
  | j + 1 => if hi < famB g lo hi t j + sN j then famB g lo hi t j else if g (famB g lo hi t j + sN j) ≤ t then famB g lo hi t j else famB g lo hi t j + sN j
theorem fam_inv {g : Nat → Nat} {lo hi t : Nat} (h1 : 1 ≤ lo) (h2 : lo ≤ hi) (h3 : hi ≤ 5000) (hg : ∀ v w, 1 ≤ v → v ≤ w → g w ≤ g v) : ∀ j, j < 14 → lo - 1 ≤ famB g lo hi t j ∧ famB g lo hi t j ≤ hi ∧ (∀ v, lo ≤ v → v ≤ famB g lo hi t j → t < g v) ∧ (hi < famB g lo hi t j + wN j ∨ g (famB g lo hi t j + wN j) ≤ t)
  | 0, _ => by
    refine ⟨Nat.le_refl _, ?_, fun v a b => ?_, Or.inl ?_⟩
    · show lo - 1 ≤ hi
      omega
    · exfalso
      have : v ≤ lo - 1 := b
      omega
    · show hi < lo - 1 + 8192
      omega
  | j + 1, hj => by
    obtain ⟨b1, b2, b3, b4⟩ := fam_inv h1 h2 h3 hg j (by omega)
    have hw := sN_w j (by omega)
    have hp := sN_pos j (by omega)
    unfold famB
    show _ ∧ _ ∧ _ ∧ (hi < _ + sN j ∨ g (_ + sN j) ≤ t)
    generalize famB g lo hi t j = b at *
    by_cases c1 : hi < b + sN j
    · rw [if_pos c1]
      exact ⟨b1, b2, b3, Or.inl c1⟩
    · rw [if_neg c1]
      by_cases c2 : g (b + sN j) ≤ t
      · rw [if_pos c2]
        exact ⟨b1, b2, b3, Or.inr c2⟩
      · rw [if_neg c2]
        refine ⟨by omega, by omega, fun v a c => Nat.lt_of_lt_of_le (Nat.lt_of_not_le c2) (hg v _ (by omega) c), ?_⟩
        rw [hw] at b4
        rw [show b + sN j + sN j = b + 2 * sN j by omega]
        exact b4
theorem f_first {F : KF} {n : Nat} {dv fc : Nat → Nat} (h : FOk F n dv fc) {x y : Int32} {z : Int64} {lo hi t : Nat} (hx : x = nI lo) (hy : y = nI hi) (hz : z = lN t) (h1 : 1 ≤ lo) (h2 : lo ≤ hi) (h3 : hi ≤ 5000) (ht : t < 2 ^ 62) : ∃ r, fX1_firstAtMost F x y z = some (nI r) ∧ lo ≤ r ∧ r ≤ hi + 1 ∧ (∀ v, lo ≤ v → v < r → t < sumN dv fc v n) ∧ (r ≤ hi → sumN dv fc r n ≤ t) := by
  subst hx hy hz
  have hg : ∀ v w, 1 ≤ v → v ≤ w → sumN dv fc w n ≤ sumN dv fc v n := fun v w a b => sumN_anti a b n (fun i hi => (h.2.2 i hi).2.2.2.1)
  have hb : ∀ v, sumN dv fc v n ≤ 50000000000 * n := fun v => sumN_le n (fun i hi => (h.2.2 i hi).2.2.1)
  have h16 := h.2.1
  have hI := fam_inv (g := fun v => sumN dv fc v n) (t := t) h1 h2 h3 hg
  obtain ⟨i1, i2, i3, i4⟩ := hI 13 (by omega)
  refine ⟨famB (fun v => sumN dv fc v n) lo hi t 13 + 1, ?_, by omega, by omega, fun v a b => i3 v a (by omega), fun a => ?_⟩
  · unfold fX1_firstAtMost
    refine kLoop_to (fun j => (nI (famB (fun v => sumN dv fc v n) lo hi t j), nI (sN j))) 13 ?_ (fun j hj nx => ?_) (fun nx => ?_) (by rw [kFu_eq]; omega)
    · show (nI lo - 1, (4096 : Int32)) = (nI (lo - 1), nI 4096)
      rw [show (1 : Int32) = nI 1 from rfl, pk_sub h1]
      rfl
    · obtain ⟨b1, b2, b3, b4⟩ := hI j (by omega)
      have hp := sN_pos j hj
      have hl := sN_le j (by omega)
      show fX1_firstAtMost_c10 F (nI hi) (lN t) (nI (famB _ lo hi t j)) (nI (sN j)) nx = nx (nI (if hi < famB _ lo hi t j + sN j then famB _ lo hi t j else if sumN dv fc (famB _ lo hi t j + sN j) n ≤ t then famB _ lo hi t j else famB _ lo hi t j + sN j), nI (sN j / 2))
      generalize famB _ lo hi t j = b at *
      generalize sN j = s at *
      have hbs := hb (b + s)
      unfold fX1_firstAtMost_c10
      rw [if_neg (nI_nle hp (by omega)), nI_add, show (2 : Int32) = nI 2 from rfl, k_div (by omega) (by omega) (by omega)]
      by_cases c1 : hi < b + s
      · rw [if_pos ((k_lt (by omega) (by omega)).mpr c1), if_pos c1]
      · rw [if_neg (fun z => c1 ((k_lt (by omega) (by omega)).mp z)), if_neg c1, f_sum h rfl (by omega) (by omega), Option.bind_some]
        by_cases c2 : sumN dv fc (b + s) n ≤ t
        · rw [if_pos ((pk_lLE (by omega) (by omega)).mpr c2), if_pos c2]
        · rw [if_neg (fun z => c2 ((pk_lLE (by omega) (by omega)).mp z)), if_neg c2]
    · show fX1_firstAtMost_c10 F (nI hi) (lN t) (nI (famB _ lo hi t 13)) (nI (sN 13)) nx = _
      unfold fX1_firstAtMost_c10
      rw [if_pos (by decide), nI_1]
  · rcases i4 with a4 | a4
    · exact absurd a4 (by show ¬ hi < _ + 1; omega)
    · exact a4
/-! the nearest -/
def BestIn (D : Nat → Nat) (lo hi r : Nat) : Prop := (lo ≤ r ∧ r ≤ hi) ∧ (∀ v, lo ≤ v → v ≤ hi → D r ≤ D v) ∧ ∀ v, lo ≤ v → v < r → D r < D v
theorem best_uniq {D : Nat → Nat} {lo hi r s : Nat} (h1 : BestIn D lo hi r) (h2 : BestIn D lo hi s) : r = s := by
  have a1 := h1.2.1 s h2.1.1 h2.1.2
  have a2 := h2.2.1 r h1.1.1 h1.1.2
  rcases Nat.lt_trichotomy r s with c | c | c
  · have := h2.2.2 r h1.1.1 c
    omega
  · exact c
  · have := h1.2.2 s h2.1.1 c
    omega
def lmin (D : Nat → Nat) (lo : Nat) : Nat → Nat
  | 0 => lo
  | j + 1 => if D (lmin D lo j) ≤ D (lo + (j + 1)) then lmin D lo j else lo + (j + 1)
theorem lmin_best {D : Nat → Nat} {lo : Nat} : ∀ j, BestIn D lo (lo + j) (lmin D lo j)
  | 0 => by
    refine ⟨⟨Nat.le_refl _, Nat.le_refl _⟩, fun v a b => ?_, fun v a b => ?_⟩
    · rw [show v = lo by omega]
      exact Nat.le_refl _
    · exfalso
      have : v < lo := b
      omega
  | j + 1 => by
    obtain ⟨⟨b1, b2⟩, b3, b4⟩ := lmin_best (D := D) (lo := lo) j
    unfold lmin
    generalize lmin D lo j = r at *
    by_cases c : D r ≤ D (lo + (j + 1))
    · rw [if_pos c]
      refine ⟨⟨b1, by omega⟩, fun v a d => ?_, b4⟩
      by_cases e : v = lo + (j + 1)
      · rw [e]
        exact c
      · exact b3 v a (by omega)
    · rw [if_neg c]
      refine ⟨⟨by omega, Nat.le_refl _⟩, fun v a d => ?_, fun v a d => ?_⟩
      · by_cases e : v = lo + (j + 1)
        · rw [e]
          exact Nat.le_refl _
        · have := b3 v a (by omega)
          omega
      · have := b3 v a (by omega)
        omega
theorem f_nearest {F : KF} {n : Nat} {dv fc : Nat → Nat} (h : FOk F n dv fc) {x y : Int32} {z : Int64} {lo hi t : Nat} (hx : x = nI lo) (hy : y = nI hi) (hz : z = lN t) (h1 : 1 ≤ lo) (h2 : lo ≤ hi) (h3 : hi ≤ 5000) (ht : t < 2 ^ 62) : ∃ r, fX1_nearest F x y z = some (nI r) ∧ BestIn (fun v => adN (sumN dv fc v n) t) lo hi r := by
  subst hx hy hz
  have hg : ∀ v w, 1 ≤ v → v ≤ w → sumN dv fc w n ≤ sumN dv fc v n := fun v w a b => sumN_anti a b n (fun i hi => (h.2.2 i hi).2.2.2.1)
  have hb : ∀ v, sumN dv fc v n ≤ 50000000000 * n := fun v => sumN_le n (fun i hi => (h.2.2 i hi).2.2.1)
  have h16 := h.2.1
  obtain ⟨f, e1, l1, l2, l3, l4⟩ := f_first h (x := nI lo) (y := nI hi) (z := lN t) rfl rfl rfl h1 h2 h3 ht
  unfold fX1_nearest
  rw [e1, Option.bind_some]
  by_cases c1 : f = lo
  · rw [if_neg (by rw [c1]; exact fun z => z rfl)]
    refine ⟨lo, rfl, ⟨Nat.le_refl _, h2⟩, fun v a b => ?_, fun v a b => absurd b (by omega)⟩
    have a1 := hg lo v h1 a
    have a2 := l4 (by omega)
    rw [c1] at a2
    show adN (sumN dv fc lo n) t ≤ adN (sumN dv fc v n) t
    unfold adN
    omega
  · have c2 : lo ≤ f - 1 := by omega
    have hA := l3 (f - 1) c2 (by omega)
    have hAb := hb (f - 1)
    obtain ⟨r, e2, m1, m2, m3, m4⟩ := f_first h (x := nI lo) (y := nI hi) (z := lN (sumN dv fc (f - 1) n)) rfl rfl rfl h1 h2 h3 (by omega)
    have hr : r ≤ f - 1 := by
      refine Nat.le_of_not_lt (fun z => ?_)
      have := m3 (f - 1) c2 z
      omega
    have hrv : sumN dv fc r n = sumN dv fc (f - 1) n := Nat.le_antisymm (m4 (by omega)) (hg r (f - 1) (by omega) hr)
    rw [if_pos (by rw [k_eq (by omega) (by omega)]; exact c1), show (1 : Int32) = nI 1 from rfl, pk_sub (by omega : 1 ≤ f), f_sum h rfl (by omega) (by omega), Option.bind_some]
    by_cases c3 : hi < f
    · rw [if_pos ((k_lt (by omega) (by omega)).mpr c3), e2, Option.bind_some]
      refine ⟨r, rfl, ⟨m1, by omega⟩, fun v a b => ?_, fun v a b => ?_⟩
      · have a1 := hg v (f - 1) (by omega) (by omega)
        show adN (sumN dv fc r n) t ≤ adN (sumN dv fc v n) t
        unfold adN
        omega
      · have a1 := m3 v a b
        show adN (sumN dv fc r n) t < adN (sumN dv fc v n) t
        unfold adN
        omega
    · have hB := l4 (by omega)
      rw [if_neg (fun z => c3 ((k_lt (by omega) (by omega)).mp z)), f_sum h rfl (by omega) (by omega), Option.bind_some, lN_sub (Nat.le_of_lt hA), lN_sub hB]
      by_cases c4 : sumN dv fc (f - 1) n - t ≤ t - sumN dv fc f n
      · rw [if_pos ((pk_lLE (by omega) (by omega)).mpr c4), e2, Option.bind_some]
        refine ⟨r, rfl, ⟨m1, by omega⟩, fun v a b => ?_, fun v a b => ?_⟩
        · show adN (sumN dv fc r n) t ≤ adN (sumN dv fc v n) t
          by_cases d : v ≤ f - 1
          · have a1 := hg v (f - 1) (by omega) d
            unfold adN
            omega
          · have a1 := hg f v (by omega) (by omega)
            unfold adN
            omega
        · have a1 := m3 v a b
          show adN (sumN dv fc r n) t < adN (sumN dv fc v n) t
          unfold adN
          omega
      · rw [if_neg (fun z => c4 ((pk_lLE (by omega) (by omega)).mp z))]
        refine ⟨f, rfl, ⟨l1, by omega⟩, fun v a b => ?_, fun v a b => ?_⟩
        · show adN (sumN dv fc f n) t ≤ adN (sumN dv fc v n) t
          by_cases d : v ≤ f - 1
          · have a1 := hg v (f - 1) (by omega) d
            unfold adN
            omega
          · have a1 := hg f v (by omega) (by omega)
            unfold adN
            omega
        · have a1 := hg v (f - 1) (by omega) (by omega)
          show adN (sumN dv fc f n) t < adN (sumN dv fc v n) t
          unfold adN
          omega
