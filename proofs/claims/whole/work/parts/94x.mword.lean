/-! ===== PURE: the reference reads a word ===== -/
def hsN (tx : Nat → Nat) (s : Nat) : Nat → Nat
  | 0 => 0
  | n + 1 => 128 * hsN tx s n + tx (s + n)
def dgN (tx : Nat → Nat) (s : Nat) : Nat → Bool
  | 0 => true
  | n + 1 => dgN tx s n && (decide (48 ≤ tx (s + n)) && decide (tx (s + n) ≤ 57))
theorem hsN_lt {tx : Nat → Nat} {s : Nat} : ∀ n, (∀ k, k < n → tx (s + k) ≤ 127) → hsN tx s n < 128 ^ n
  | 0, _ => Nat.zero_lt_one
  | n + 1, h => by
    have h1 := hsN_lt (tx := tx) (s := s) n (fun k hk => h k (by omega))
    have h2 := h n (by omega)
    have e : 128 ^ (n + 1) = 128 ^ n * 128 := Nat.pow_succ ..
    rw [e]
    show 128 * hsN tx s n + tx (s + n) < _
    omega
theorem hash_inj {f g : Nat → Nat} {a b : Nat} : ∀ n m, (∀ k, k < n → 1 ≤ f (a + k) ∧ f (a + k) ≤ 127) → (∀ k, k < m → 1 ≤ g (b + k) ∧ g (b + k) ≤ 127) → hsN f a n = hsN g b m → n = m ∧ ∀ k, k < n → f (a + k) = g (b + k)
  | 0, 0, _, _, _ => ⟨rfl, fun k hk => absurd hk (Nat.not_lt_zero _)⟩
  | 0, m + 1, _, h2, h3 => by
    have h4 := (h2 m (by omega)).1
    have h5 : 0 = 128 * hsN g b m + g (b + m) := h3
    omega
  | n + 1, 0, h1, _, h3 => by
    have h4 := (h1 n (by omega)).1
    have h5 : 128 * hsN f a n + f (a + n) = 0 := h3
    omega
  | n + 1, m + 1, h1, h2, h3 => by
    have h4 := h1 n (by omega)
    have h5 := h2 m (by omega)
    have h6 : 128 * hsN f a n + f (a + n) = 128 * hsN g b m + g (b + m) := h3
    have h7 : hsN f a n = hsN g b m := by omega
    have h8 : f (a + n) = g (b + m) := by omega
    obtain ⟨h9, h10⟩ := hash_inj n m (fun k hk => h1 k (by omega)) (fun k hk => h2 k (by omega)) h7
    subst h9
    refine ⟨rfl, fun k hk => ?_⟩
    by_cases e : k = n
    · rw [e]
      exact h8
    · exact h10 k (by omega)
theorem dg_iff {tx : Nat → Nat} {s : Nat} : ∀ n, dgN tx s n = true ↔ ∀ k, k < n → 48 ≤ tx (s + k) ∧ tx (s + k) ≤ 57
  | 0 => ⟨fun _ k hk => absurd hk (Nat.not_lt_zero _), fun _ => rfl⟩
  | n + 1 => by
    have ih := dg_iff (tx := tx) (s := s) n
    unfold dgN
    rw [Bool.and_eq_true, Bool.and_eq_true, decide_eq_true_iff, decide_eq_true_iff, ih]
    refine ⟨fun h k hk => ?_, fun h => ⟨fun k hk => h k (by omega), h n (by omega)⟩⟩
    by_cases e : k = n
    · rw [e]
      exact h.2
    · exact h.1 k (by omega)
/-- what is kept of a word -/
def hsW (tx : Nat → Nat) (s e : Nat) : Nat := if e - s ≤ 8 then hsN tx s (e - s) else 0
def nuW (tx : Nat → Nat) (s e : Nat) : Int32 := if e - s ≤ 9 ∧ dgN tx s (e - s) = true then nI (valN tx s (e - s)) else -1000000005
def hsJ (tx : Nat → Nat) (s n j : Nat) : Nat := if n ≤ 8 then hsN tx s j else 0
def flJ (tx : Nat → Nat) (s n j : Nat) : Int32 := if n ≤ 9 ∧ dgN tx s j = true then 1 else 0
def nuJ (tx : Nat → Nat) (s n j : Nat) : Int32 := if n ≤ 9 ∧ dgN tx s j = true then nI (valN tx s j) else 0
def TmOk (u : KM) (t : Nat) (tx : Nat → Nat) : Prop := u.2.2.2.1 = nI t ∧ t ≤ 80 ∧ ∀ i, i < t → u.2.2.2.2.2.2.2.2.2.1 i = nI (tx i) ∧ 32 ≤ tx i ∧ tx i ≤ 126
def mWd (u : KM) (c : Nat) (sp : Nat → Int64) (nu : Nat → Int32) : KM := (u.1, u.2.1, u.2.2.1, u.2.2.2.1, u.2.2.2.2.1, nI c, u.2.2.2.2.2.2.1, u.2.2.2.2.2.2.2.1, u.2.2.2.2.2.2.2.2.1, u.2.2.2.2.2.2.2.2.2.1, sp, nu)
theorem m_readWord {u : KM} {t : Nat} {tx : Nat → Nat} (h : TmOk u t tx) {x y : Int32} {s e c : Nat} (hx : x = nI s) (hy : y = nI e) (hse : s < e) (het : e ≤ t) (hc : u.2.2.2.2.2.1 = nI c) (hc4 : c < 40) : fX5_readWord u x y = some (mWd u (c + 1) (vp_updL u.2.2.2.2.2.2.2.2.2.2.1 c (lN (hsW tx s e))) (upd u.2.2.2.2.2.2.2.2.2.2.2 c (nuW tx s e))) := by
  subst hx hy
  have h80 := h.2.1
  have K : ∀ z, z = (if e - s ≤ 9 then (1 : Int32) else 0) → kLoopC kFu (fun (q : Int64 × Int32 × Int32 × Int32) (nx23 : Int64 × Int32 × Int32 × Int32 → Option KM) => fX5_readWord_c23 u (nI s) (nI e) q.1 q.2.1 q.2.2.1 q.2.2.2 nx23) ((0 : Int64), (0 : Int32), z, nI s) = some (mWd u (c + 1) (vp_updL u.2.2.2.2.2.2.2.2.2.2.1 c (lN (hsW tx s e))) (upd u.2.2.2.2.2.2.2.2.2.2.2 c (nuW tx s e))) := by
    intro z hz
    refine kLoop_to (fun j => (lN (hsJ tx s (e - s) j), nuJ tx s (e - s) j, flJ tx s (e - s) j, nI (s + j))) (e - s) ?_ (fun j hj nx => ?_) (fun nx => ?_) (by rw [kFu_eq]; omega)
    · have e1 : hsJ tx s (e - s) 0 = 0 := by
        unfold hsJ
        split <;> rfl
      have e2 : nuJ tx s (e - s) 0 = 0 := by
        unfold nuJ
        split <;> rfl
      have e3 : flJ tx s (e - s) 0 = z := by
        unfold flJ
        rw [hz]
        by_cases c9 : e - s ≤ 9
        · rw [if_pos c9, if_pos ⟨c9, rfl⟩]
        · rw [if_neg c9, if_neg (fun y => c9 y.1)]
      show _ = (lN (hsJ tx s (e - s) 0), nuJ tx s (e - s) 0, flJ tx s (e - s) 0, nI (s + 0))
      rw [e1, e2, e3]
      rfl
    · show fX5_readWord_c23 u (nI s) (nI e) (lN (hsJ tx s (e - s) j)) (nuJ tx s (e - s) j) (flJ tx s (e - s) j) (nI (s + j)) nx = nx (lN (hsJ tx s (e - s) (j + 1)), nuJ tx s (e - s) (j + 1), flJ tx s (e - s) (j + 1), nI (s + (j + 1)))
      obtain ⟨t1, t2, t3⟩ := h.2.2 (s + j) (by omega)
      have i80 : kIn (nI (s + j)) 80 = true := k_in rfl (by omega) (by omega)
      have eD : dgN tx s (j + 1) = (dgN tx s j && (decide (48 ≤ tx (s + j)) && decide (tx (s + j) ≤ 57))) := rfl
      have eV : valN tx s (j + 1) = 10 * valN tx s j + (tx (s + j) - 48) := rfl
      have eH : (some (((128 : Int64) * lN (hsJ tx s (e - s) j)) + (nI (tx (s + j))).toInt64)) = (some (lN (128 * hsJ tx s (e - s) j + tx (s + j)))) := by
        rw [nI_l (by omega), show (128 : Int64) = lN 128 from rfl, lN_mul, lN_add]
      have tail : ∀ H : Int64, (if flJ tx s (e - s) j = (0 : Int32) then (if (0 : Int32) = (0 : Int32) then (nx (H, (0 : Int32), (0 : Int32), (nI (s + j) + 1))) else (if kIn (nI (s + j)) 80 = true then ((some ((((10 : Int32) * nuJ tx s (e - s) j) + (u.2.2.2.2.2.2.2.2.2.1 (nI (s + j)).toNatClampNeg)) - (48 : Int32))).bind fun y110 => nx (H, y110, (0 : Int32), (nI (s + j) + 1))) else none)) else (if kIn (nI (s + j)) 80 = true then ((fX5_in (u.2.2.2.2.2.2.2.2.2.1 (nI (s + j)).toNatClampNeg) (48 : Int32) (57 : Int32)).bind fun r72 => if r72 = (0 : Int32) then (if (0 : Int32) = (0 : Int32) then (nx (H, (0 : Int32), (0 : Int32), (nI (s + j) + 1))) else (if kIn (nI (s + j)) 80 = true then ((some ((((10 : Int32) * nuJ tx s (e - s) j) + (u.2.2.2.2.2.2.2.2.2.1 (nI (s + j)).toNatClampNeg)) - (48 : Int32))).bind fun y110 => nx (H, y110, (0 : Int32), (nI (s + j) + 1))) else none)) else (if (1 : Int32) = (0 : Int32) then (nx (H, (0 : Int32), (1 : Int32), (nI (s + j) + 1))) else (if kIn (nI (s + j)) 80 = true then ((some ((((10 : Int32) * nuJ tx s (e - s) j) + (u.2.2.2.2.2.2.2.2.2.1 (nI (s + j)).toNatClampNeg)) - (48 : Int32))).bind fun y110 => nx (H, y110, (1 : Int32), (nI (s + j) + 1))) else none))) else none)) = nx (H, nuJ tx s (e - s) (j + 1), flJ tx s (e - s) (j + 1), nI (s + (j + 1))) := by
        intro H
        rw [nI_clamp (by omega), t1, nI_1]
        by_cases c0 : e - s ≤ 9 ∧ dgN tx s j = true
        · have f1 : flJ tx s (e - s) j = 1 := if_pos c0
          have f2 : nuJ tx s (e - s) j = nI (valN tx s j) := if_pos c0
          rw [f1, f2, if_neg (by decide), if_pos i80]
          by_cases c1 : 48 ≤ tx (s + j) ∧ tx (s + j) ≤ 57
          · have g : e - s ≤ 9 ∧ dgN tx s (j + 1) = true := ⟨c0.1, by rw [eD, c0.2, decide_eq_true c1.1, decide_eq_true c1.2]; rfl⟩
            have g1 : flJ tx s (e - s) (j + 1) = 1 := if_pos g
            have g2 : nuJ tx s (e - s) (j + 1) = nI (valN tx s (j + 1)) := if_pos g
            have d : fX5_in (nI (tx (s + j))) 48 57 = some 1 := fX5_in_t (a := 48) (b := 57) rfl c1.1 c1.2 (by omega)
            rw [d, Option.bind_some, if_neg (by decide), if_neg (by decide), if_pos i80, g1, g2, eV, show (10 : Int32) = nI 10 from rfl, pk_mul, nI_add, show (48 : Int32) = nI 48 from rfl, pk_sub (by omega), Option.bind_some, show 10 * valN tx s j + tx (s + j) - 48 = 10 * valN tx s j + (tx (s + j) - 48) by omega]
            rfl
          · have g : ¬ (e - s ≤ 9 ∧ dgN tx s (j + 1) = true) := by
              intro z
              have := (dg_iff (tx := tx) (s := s) (j + 1)).mp z.2 j (by omega)
              exact c1 this
            have g1 : flJ tx s (e - s) (j + 1) = 0 := if_neg g
            have g2 : nuJ tx s (e - s) (j + 1) = 0 := if_neg g
            have d : fX5_in (nI (tx (s + j))) 48 57 = some 0 := by
              refine fX5_in_f (a := 48) (b := 57) ?_
              rw [k_lt (by omega) (by omega), k_lt (by omega) (by omega)]
              omega
            rw [d, Option.bind_some, if_pos rfl, if_pos rfl, g1, g2]
            rfl
        · have f1 : flJ tx s (e - s) j = 0 := if_neg c0
          have g : ¬ (e - s ≤ 9 ∧ dgN tx s (j + 1) = true) := by
            intro z
            refine c0 ⟨z.1, (dg_iff j).mpr (fun k hk => (dg_iff (tx := tx) (s := s) (j + 1)).mp z.2 k (by omega))⟩
          have g1 : flJ tx s (e - s) (j + 1) = 0 := if_neg g
          have g2 : nuJ tx s (e - s) (j + 1) = 0 := if_neg g
          rw [f1, if_pos rfl, if_pos rfl, g1, g2]
          rfl
      unfold fX5_readWord_c23
      rw [if_neg (by rw [k_le (by omega) (by omega)]; omega), pk_sub (by omega)]
      by_cases c8 : e - s ≤ 8
      · have e8 : hsJ tx s (e - s) (j + 1) = 128 * hsJ tx s (e - s) j + tx (s + j) := by
          unfold hsJ
          rw [if_pos c8, if_pos c8]
          rfl
        rw [if_pos (by rw [show (8 : Int32) = nI 8 from rfl, k_le (by omega) (by omega)]; exact c8), if_pos i80, e8]
        have := tail (lN (128 * hsJ tx s (e - s) j + tx (s + j)))
        rw [nI_clamp (by omega), t1] at this ⊢
        rw [eH, Option.bind_some]
        exact this
      · have e8 : hsJ tx s (e - s) (j + 1) = 0 := if_neg c8
        rw [if_neg (by rw [show (8 : Int32) = nI 8 from rfl, k_le (by omega) (by omega)]; exact c8), e8]
        exact tail (0 : Int64)
    · show fX5_readWord_c23 u (nI s) (nI e) (lN (hsJ tx s (e - s) (e - s))) (nuJ tx s (e - s) (e - s)) (flJ tx s (e - s) (e - s)) (nI (s + (e - s))) nx = _
      have i40 : kIn (nI c) 40 = true := k_in rfl hc4 (by omega)
      have eh : hsJ tx s (e - s) (e - s) = hsW tx s e := rfl
      unfold fX5_readWord_c23
      rw [if_pos (by rw [k_le (by omega) (by omega)]; omega), hc, if_pos i40, if_pos i40, if_pos i40, nI_clamp (by omega), nI_1, eh]
      by_cases c9 : e - s ≤ 9 ∧ dgN tx s (e - s) = true
      · have f1 : flJ tx s (e - s) (e - s) = 1 := if_pos c9
        have f2 : nuJ tx s (e - s) (e - s) = nuW tx s e := by
          unfold nuJ nuW
          rw [if_pos c9, if_pos c9]
        rw [f1, f2, if_neg (by decide)]
        rfl
      · have f1 : flJ tx s (e - s) (e - s) = 0 := if_neg c9
        have f2 : nuW tx s e = -1000000005 := if_neg c9
        rw [f1, f2, if_pos rfl]
        rfl
  unfold fX5_readWord
  rw [pk_sub (by omega)]
  by_cases c9 : e - s ≤ 9
  · rw [if_neg (by rw [show (9 : Int32) = nI 9 from rfl, k_lt (by omega) (by omega)]; omega)]
    exact K 1 (by rw [if_pos c9])
  · rw [if_pos (by rw [show (9 : Int32) = nI 9 from rfl, k_lt (by omega) (by omega)]; omega)]
    exact K 0 (by rw [if_neg c9])
