/-! ===== PURE: the reference's numbers ===== -/
def MD (tx : Nat → Nat) (t : Nat) (u : KM) (c : Nat) (s e : Nat → Nat) : Prop := u.2.2.2.2.2.1 = nI c ∧ c < 100 ∧ (∀ i, i < t → 32 ≤ tx i ∧ tx i ≤ 126) ∧ ∀ w, w < c → u.2.2.2.2.2.2.2.2.2.2.1 w = lN (hsW tx (s w) (e w)) ∧ u.2.2.2.2.2.2.2.2.2.2.2 w = nuW tx (s w) (e w) ∧ s w < e w ∧ e w ≤ t
theorem valN_lt {tx : Nat → Nat} {s : Nat} : ∀ n, (∀ k, k < n → 48 ≤ tx (s + k) ∧ tx (s + k) ≤ 57) → valN tx s n < 10 ^ n
  | 0, _ => Nat.zero_lt_one
  | n + 1, h => by
    have h1 := valN_lt (tx := tx) (s := s) n (fun k hk => h k (by omega))
    have h2 := h n (by omega)
    have e : 10 ^ (n + 1) = 10 ^ n * 10 := Nat.pow_succ ..
    rw [e]
    show 10 * valN tx s n + (tx (s + n) - 48) < _
    omega
theorem nm_dg {tx : Nat → Nat} {s e : Nat} : nmW tx s e ↔ e - s ≤ 9 ∧ dgN tx s (e - s) = true := by
  unfold nmW
  rw [dg_iff]
  constructor
  · rintro ⟨h1, h2⟩
    exact ⟨h1, fun k hk => h2 (s + k) (by omega) (by omega)⟩
  · rintro ⟨h1, h2⟩
    refine ⟨h1, fun k h3 h4 => ?_⟩
    have := h2 (k - s) (by omega)
    rw [show s + (k - s) = k by omega] at this
    exact this
theorem nu_t {tx : Nat → Nat} {s e : Nat} (h : nmW tx s e) : nuW tx s e = nI (valN tx s (e - s)) ∧ ¬ nuW tx s e = -1000000005 := by
  have h1 := nm_dg.mp h
  have h2 : nuW tx s e = nI (valN tx s (e - s)) := if_pos h1
  refine ⟨h2, ?_⟩
  have h3 := valN_lt (tx := tx) (s := s) (e - s) ((dg_iff _).mp h1.2)
  have h4 : 10 ^ (e - s) ≤ 10 ^ 9 := Nat.pow_le_pow_right (by omega) h1.1
  have h5 : 10 ^ 9 = 1000000000 := by decide
  rw [h2]
  intro z
  have h6 := good_n (n := valN tx s (e - s)) (by omega)
  rw [z] at h6
  exact absurd h6 (by unfold Good; decide)
theorem nu_f {tx : Nat → Nat} {s e : Nat} (h : ¬ nmW tx s e) : nuW tx s e = -1000000005 := if_neg (fun z => h (nm_dg.mpr z))
theorem m_hasNumbers_t {tx : Nat → Nat} {t : Nat} {u : KM} {c : Nat} {s e : Nat → Nat} (h : MD tx t u c s e) {x : Int32} {p : Nat} (hx : x = nI p) (h4 : p < 4) (hc : c = p + 1) (hn : ∀ i, 1 ≤ i → i ≤ p → nmW tx (s i) (e i)) : fX5_hasNumbers u x = some 1 := by
  subst hx
  obtain ⟨g1, g2, -, g3⟩ := h
  unfold fX5_hasNumbers
  rw [if_neg (by rw [g1, hc, nI_1]; exact fun z => z rfl)]
  refine kLoop_to (fun j => ((1 : Int32), nI (1 + j))) p rfl (fun j hj nx => ?_) (fun nx => ?_) (by rw [kFu_eq]; omega)
  · show fX5_hasNumbers_c18 u (nI p) (1 : Int32) (nI (1 + j)) nx = nx ((1 : Int32), nI (1 + (j + 1)))
    obtain ⟨-, k2, -⟩ := g3 (1 + j) (by omega)
    have := (nu_t (hn (1 + j) (by omega) (by omega))).2
    unfold fX5_hasNumbers_c18
    rw [if_neg (by rw [k_lt (by omega) (by omega)]; omega), if_neg (by decide), if_pos (k_in rfl (by omega) (by omega)), nI_clamp (by omega), k2, if_neg this, nI_1, Nat.add_assoc]
  · show fX5_hasNumbers_c18 u (nI p) (1 : Int32) (nI (1 + p)) nx = _
    unfold fX5_hasNumbers_c18
    rw [if_pos (by rw [k_lt (by omega) (by omega)]; omega), if_pos k_Z1]
theorem m_hasNumbers_f {tx : Nat → Nat} {t : Nat} {u : KM} {c : Nat} {s e : Nat → Nat} (h : MD tx t u c s e) {x : Int32} {p : Nat} (hx : x = nI p) (h4 : p < 4) (h0 : 1 ≤ p) (hs : ¬ (c = p + 1 ∧ ∀ i, 1 ≤ i → i ≤ p → nmW tx (s i) (e i))) : fX5_hasNumbers u x = some 0 := by
  subst hx
  obtain ⟨g1, g2, -, g3⟩ := h
  unfold fX5_hasNumbers
  by_cases hc : c = p + 1
  · rw [if_neg (by rw [g1, hc, nI_1]; exact fun z => z rfl)]
    have hb : ∃ j, j < p ∧ ¬ nmW tx (s (1 + j)) (e (1 + j)) := by
      refine Classical.byContradiction (fun z => hs ⟨hc, fun i h3 h5 => Classical.byContradiction (fun y => z ⟨i - 1, by omega, ?_⟩)⟩)
      rw [show 1 + (i - 1) = i by omega]
      exact y
    obtain ⟨b, ⟨hb1, hb2⟩, hb3⟩ := pk_least (fun j => j < p ∧ ¬ nmW tx (s (1 + j)) (e (1 + j))) hb
    have hz : ∀ nx, fX5_hasNumbers_c18 u (nI p) (0 : Int32) (nI (1 + (b + 1))) nx = some 0 := by
      intro nx
      unfold fX5_hasNumbers_c18
      by_cases c1 : nI p < nI (1 + (b + 1))
      · rw [if_pos c1, if_pos k_Z0]
      · rw [if_neg c1, if_pos rfl, if_pos k_Z0]
    refine kLoop_to (fun j => ((if j ≤ b then (1 : Int32) else 0), nI (1 + j))) (b + 1) rfl (fun j hj nx => ?_) (fun nx => ?_) (by rw [kFu_eq]; omega)
    · show fX5_hasNumbers_c18 u (nI p) (if j ≤ b then (1 : Int32) else 0) (nI (1 + j)) nx = nx ((if j + 1 ≤ b then (1 : Int32) else 0), nI (1 + (j + 1)))
      obtain ⟨-, k2, -⟩ := g3 (1 + j) (by omega)
      rw [if_pos (by omega : j ≤ b)]
      unfold fX5_hasNumbers_c18
      rw [if_neg (by rw [k_lt (by omega) (by omega)]; omega), if_neg (by decide), if_pos (k_in rfl (by omega) (by omega)), nI_clamp (by omega), k2, nI_1, Nat.add_assoc]
      by_cases ej : j = b
      · rw [if_pos (nu_f (by rw [ej]; exact hb2)), if_neg (by omega)]
      · have hok : nmW tx (s (1 + j)) (e (1 + j)) := Classical.byContradiction (fun y => hb3 j (by omega) ⟨by omega, y⟩)
        rw [if_neg (nu_t hok).2, if_pos (by omega)]
    · show fX5_hasNumbers_c18 u (nI p) (if b + 1 ≤ b then (1 : Int32) else 0) (nI (1 + (b + 1))) nx = _
      rw [if_neg (by omega)]
      exact hz nx
  · rw [if_pos (by rw [g1, nI_1, k_eq (by omega) (by omega)]; exact hc)]
    refine kLoop_to (fun _ => ((0 : Int32), nI 1)) 0 rfl (fun j hj nx => absurd hj (by omega)) (fun nx => ?_) (by rw [kFu_eq]; omega)
    show fX5_hasNumbers_c18 u (nI p) (0 : Int32) (nI 1) nx = _
    unfold fX5_hasNumbers_c18
    rw [if_neg (by rw [k_lt (by omega) (by omega)]; omega), if_pos rfl, if_pos k_Z0]
