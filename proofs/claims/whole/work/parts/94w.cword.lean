/-! ===== PURE: the class knows words and numbers ===== -/
def RD (tx : Nat → Nat) (t : Nat) (T : KT) (c : Nat) (s e : Nat → Nat) : Prop := TxOk T t tx ∧ T.2.1 = nI c ∧ c < 100 ∧ ∀ w, w < 4 → w < c → T.2.2.2.1 w = nI (s w) ∧ T.2.2.2.2 w = nI (e w) ∧ s w < e w ∧ e w ≤ t
def spW (tx : Nat → Nat) (s e q : Nat) : Prop := e = s + kLen.getD q 0 ∧ ∀ k, k < kLen.getD q 0 → nI (tx (s + k)) = kChr q k
def nmW (tx : Nat → Nat) (s e : Nat) : Prop := e - s ≤ 9 ∧ ∀ k, s ≤ k → k < e → 48 ≤ tx k ∧ tx k ≤ 57
def valN (tx : Nat → Nat) (s : Nat) : Nat → Nat
  | 0 => 0
  | n + 1 => 10 * valN tx s n + (tx (s + n) - 48)
theorem kLen_b : ∀ q, q < 12 → 1 ≤ kLen.getD q 0 ∧ kLen.getD q 0 ≤ 6 := by decide
theorem c_hasWord_t {tx : Nat → Nat} {t : Nat} {T : KT} {c : Nat} {s e : Nat → Nat} (h : RD tx t T c s e) {w : Nat} (h4 : w < 4) (hw : w < c) : fX3_hasWord T (nI w) = some 1 := by
  obtain ⟨-, hc, hc2, -⟩ := h
  unfold fX3_hasWord
  rw [if_neg (nI_pos (by omega)), hc, if_neg (by rw [k_le (by omega) (by omega)]; omega), if_neg (by rw [show (4 : Int32) = nI 4 from rfl, k_le (by omega) (by omega)]; omega)]
theorem c_hasWord_f {tx : Nat → Nat} {t : Nat} {T : KT} {c : Nat} {s e : Nat → Nat} (h : RD tx t T c s e) {w : Nat} (h4 : w < 4) (hw : ¬ w < c) : fX3_hasWord T (nI w) = some 0 := by
  obtain ⟨-, hc, hc2, -⟩ := h
  unfold fX3_hasWord
  rw [if_neg (nI_pos (by omega)), hc, if_pos (by rw [k_le (by omega) (by omega)]; omega)]
theorem c_isWord_t {tx : Nat → Nat} {t : Nat} {T : KT} {c : Nat} {s e : Nat → Nat} (h : RD tx t T c s e) {x : Int32} {w q : Nat} (hx : x = nI w) (h4 : w < 4) (hq : q < 12) (hw : w < c) (hs : spW tx (s w) (e w) q) : fX3_isWord T x q = some 1 := by
  subst hx
  obtain ⟨g1, g2, g3, g4⟩ := id h
  obtain ⟨r1, r2, r3, r4⟩ := g4 w h4 hw
  have hl := kLen_b q hq
  have h80 := g1.2.1
  have hw' := c_hasWord_t h h4 hw
  unfold fX3_isWord
  rw [hw', Option.bind_some, if_neg (by decide), if_pos (k_in rfl h4 (by omega)), if_pos (k_in rfl h4 (by omega)), nI_clamp (by omega), r1, r2, pk_sub (by omega), if_pos (by rw [hs.1, Nat.add_sub_cancel_left])]
  refine kLoop_to (fun j => nI j) (kLen.getD q 0) rfl (fun j hj nx => ?_) (fun nx => ?_) (by rw [kFu_eq]; omega)
  · show fX3_isWord_c32 T q (nI w) (nI j) nx = nx (nI (j + 1))
    unfold fX3_isWord_c32
    have he := hs.1
    rw [if_neg (by rw [k_le (by omega) (by omega)]; omega), if_pos (k_in rfl h4 (by omega)), nI_clamp (by omega), r1, nI_add, c_at g1 rfl (by omega), Option.bind_some, if_pos (k_in rfl hj (by omega)), nI_clamp (by omega), if_pos (hs.2 j hj), nI_1]
  · show fX3_isWord_c32 T q (nI w) (nI (kLen.getD q 0)) nx = _
    unfold fX3_isWord_c32
    rw [if_pos (by rw [k_le (by omega) (by omega)]; omega)]
theorem c_isWord_f {tx : Nat → Nat} {t : Nat} {T : KT} {c : Nat} {s e : Nat → Nat} (h : RD tx t T c s e) {x : Int32} {w q : Nat} (hx : x = nI w) (h4 : w < 4) (hq : q < 12) (hs : ¬ (w < c ∧ spW tx (s w) (e w) q)) : fX3_isWord T x q = some 0 := by
  subst hx
  by_cases hw : w < c
  · obtain ⟨g1, g2, g3, g4⟩ := id h
    obtain ⟨r1, r2, r3, r4⟩ := g4 w h4 hw
    have hl := kLen_b q hq
    have h80 := g1.2.1
    have hw' := c_hasWord_t h h4 hw
    unfold fX3_isWord
    rw [hw', Option.bind_some, if_neg (by decide), if_pos (k_in rfl h4 (by omega)), if_pos (k_in rfl h4 (by omega)), nI_clamp (by omega), r1, r2, pk_sub (by omega)]
    by_cases he : e w - s w = kLen.getD q 0
    · rw [if_pos (by rw [he])]
      have hb : ∃ k, k < kLen.getD q 0 ∧ ¬ nI (tx (s w + k)) = kChr q k := by
        refine Classical.byContradiction (fun z => hs ⟨hw, by omega, fun k hk => Classical.byContradiction (fun y => z ⟨k, hk, y⟩)⟩)
      obtain ⟨b, ⟨hb1, hb2⟩, hb3⟩ := pk_least (fun k => k < kLen.getD q 0 ∧ ¬ nI (tx (s w + k)) = kChr q k) hb
      refine kLoop_to (fun j => nI j) b rfl (fun j hj nx => ?_) (fun nx => ?_) (by rw [kFu_eq]; omega)
      · show fX3_isWord_c32 T q (nI w) (nI j) nx = nx (nI (j + 1))
        have hok : nI (tx (s w + j)) = kChr q j := Classical.byContradiction (fun y => hb3 j hj ⟨by omega, y⟩)
        unfold fX3_isWord_c32
        rw [if_neg (by rw [k_le (by omega) (by omega)]; omega), if_pos (k_in rfl h4 (by omega)), nI_clamp (by omega), r1, nI_add, c_at g1 rfl (by omega), Option.bind_some, if_pos (k_in rfl (by omega) (by omega)), nI_clamp (by omega), if_pos hok, nI_1]
      · show fX3_isWord_c32 T q (nI w) (nI b) nx = _
        unfold fX3_isWord_c32
        rw [if_neg (by rw [k_le (by omega) (by omega)]; omega), if_pos (k_in rfl h4 (by omega)), nI_clamp (by omega), r1, nI_add, c_at g1 rfl (by omega), Option.bind_some, if_pos (k_in rfl (by omega) (by omega)), nI_clamp (by omega), if_neg hb2]
    · rw [if_neg (by rw [k_eq (by omega) (by omega)]; exact he)]
  · unfold fX3_isWord
    rw [c_hasWord_f h h4 hw, Option.bind_some, if_pos rfl]
theorem c_isNumber_t {tx : Nat → Nat} {t : Nat} {T : KT} {c : Nat} {s e : Nat → Nat} (h : RD tx t T c s e) {x : Int32} {w : Nat} (hx : x = nI w) (h4 : w < 4) (hw : w < c) (hs : nmW tx (s w) (e w)) : fX3_isNumber T x = some 1 := by
  subst hx
  obtain ⟨g1, g2, g3, g4⟩ := id h
  obtain ⟨r1, r2, r3, r4⟩ := g4 w h4 hw
  have h80 := g1.2.1
  have hw' := c_hasWord_t h h4 hw
  have he := hs.1
  have k4 : kIn (nI w) 4 = true := k_in rfl h4 (by omega)
  unfold fX3_isNumber
  rw [hw', Option.bind_some, if_neg (by decide), if_pos k4, if_pos k4, nI_clamp (by omega), r1, r2, pk_sub (by omega), if_pos (by rw [show (9 : Int32) = nI 9 from rfl, k_le (by omega) (by omega)]; exact hs.1), if_pos k4]
  refine kLoop_to (fun j => nI (s w + j)) (e w - s w) rfl (fun j hj nx => ?_) (fun nx => ?_) (by rw [kFu_eq]; omega)
  · show fX3_isNumber_c35 T (nI w) (nI (s w + j)) nx = nx (nI (s w + (j + 1)))
    obtain ⟨d1, d2⟩ := hs.2 (s w + j) (by omega) (by omega)
    have hat := c_at g1 (x := nI (s w + j)) rfl (by omega)
    unfold fX3_isNumber_c35
    rw [if_pos k4, nI_clamp (by omega), r2, if_neg (by rw [k_le (by omega) (by omega)]; omega), hat, Option.bind_some, if_neg (by rw [show (48 : Int32) = nI 48 from rfl, k_lt (by omega) (by omega)]; omega), Option.bind_some, if_pos (by rw [show (57 : Int32) = nI 57 from rfl, k_le (by omega) (by omega)]; omega), nI_1, Nat.add_assoc]
  · show fX3_isNumber_c35 T (nI w) (nI (s w + (e w - s w))) nx = _
    unfold fX3_isNumber_c35
    rw [if_pos k4, nI_clamp (by omega), r2, if_pos (by rw [k_le (by omega) (by omega)]; omega)]
theorem c_isNumber_f {tx : Nat → Nat} {t : Nat} {T : KT} {c : Nat} {s e : Nat → Nat} (h : RD tx t T c s e) {x : Int32} {w : Nat} (hx : x = nI w) (h4 : w < 4) (hw : w < c) (hs : ¬ nmW tx (s w) (e w)) : fX3_isNumber T x = some 0 := by
  subst hx
  obtain ⟨g1, g2, g3, g4⟩ := id h
  obtain ⟨r1, r2, r3, r4⟩ := g4 w h4 hw
  have h80 := g1.2.1
  have hw' := c_hasWord_t h h4 hw
  have k4 : kIn (nI w) 4 = true := k_in rfl h4 (by omega)
  unfold fX3_isNumber
  rw [hw', Option.bind_some, if_neg (by decide), if_pos k4, if_pos k4, nI_clamp (by omega), r1, r2, pk_sub (by omega)]
  by_cases he : e w - s w ≤ 9
  · rw [if_pos (by rw [show (9 : Int32) = nI 9 from rfl, k_le (by omega) (by omega)]; exact he), if_pos k4]
    have hb : ∃ k, k < e w - s w ∧ ¬ (48 ≤ tx (s w + k) ∧ tx (s w + k) ≤ 57) := by
      refine Classical.byContradiction (fun z => hs ⟨he, fun k h1 h2 => Classical.byContradiction (fun y => z ⟨k - s w, by omega, ?_⟩)⟩)
      rw [show s w + (k - s w) = k by omega]
      exact y
    obtain ⟨b, ⟨hb1, hb2⟩, hb3⟩ := pk_least (fun k => k < e w - s w ∧ ¬ (48 ≤ tx (s w + k) ∧ tx (s w + k) ≤ 57)) hb
    refine kLoop_to (fun j => nI (s w + j)) b rfl (fun j hj nx => ?_) (fun nx => ?_) (by rw [kFu_eq]; omega)
    · show fX3_isNumber_c35 T (nI w) (nI (s w + j)) nx = nx (nI (s w + (j + 1)))
      obtain ⟨d1, d2⟩ : 48 ≤ tx (s w + j) ∧ tx (s w + j) ≤ 57 := Classical.byContradiction (fun y => hb3 j hj ⟨by omega, y⟩)
      have hat := c_at g1 (x := nI (s w + j)) rfl (by omega)
      unfold fX3_isNumber_c35
      rw [if_pos k4, nI_clamp (by omega), r2, if_neg (by rw [k_le (by omega) (by omega)]; omega), hat, Option.bind_some, if_neg (by rw [show (48 : Int32) = nI 48 from rfl, k_lt (by omega) (by omega)]; omega), Option.bind_some, if_pos (by rw [show (57 : Int32) = nI 57 from rfl, k_le (by omega) (by omega)]; omega), nI_1, Nat.add_assoc]
    · show fX3_isNumber_c35 T (nI w) (nI (s w + b)) nx = _
      have hat := c_at g1 (x := nI (s w + b)) rfl (by omega)
      obtain ⟨-, ch1, ch2⟩ := g1.2.2 (s w + b) (by omega)
      unfold fX3_isNumber_c35
      rw [if_pos k4, nI_clamp (by omega), r2, if_neg (by rw [k_le (by omega) (by omega)]; omega), hat, Option.bind_some]
      by_cases d1 : tx (s w + b) < 48
      · rw [if_pos (by rw [show (48 : Int32) = nI 48 from rfl, k_lt (by omega) (by omega)]; exact d1)]
      · rw [if_neg (by rw [show (48 : Int32) = nI 48 from rfl, k_lt (by omega) (by omega)]; exact d1), Option.bind_some, if_neg (by rw [show (57 : Int32) = nI 57 from rfl, k_le (by omega) (by omega)]; omega)]
  · rw [if_neg (by rw [show (9 : Int32) = nI 9 from rfl, k_le (by omega) (by omega)]; exact he)]
theorem c_number {tx : Nat → Nat} {t : Nat} {T : KT} {c : Nat} {s e : Nat → Nat} (h : RD tx t T c s e) {x : Int32} {w : Nat} (hx : x = nI w) (h4 : w < 4) (hw : w < c) (hs : nmW tx (s w) (e w)) : fX3_number T x = some (nI (valN tx (s w) (e w - s w))) := by
  subst hx
  obtain ⟨g1, g2, g3, g4⟩ := id h
  obtain ⟨r1, r2, r3, r4⟩ := g4 w h4 hw
  have h80 := g1.2.1
  have hw' := c_hasWord_t h h4 hw
  have k4 : kIn (nI w) 4 = true := k_in rfl h4 (by omega)
  unfold fX3_number
  rw [hw', Option.bind_some, if_pos (by decide), if_pos k4, nI_clamp (by omega), r1]
  refine kLoop_to (fun j => (nI (valN tx (s w) j), nI (s w + j))) (e w - s w) rfl (fun j hj nx => ?_) (fun nx => ?_) (by rw [kFu_eq]; omega)
  · show fX3_number_c19 T (nI w) (nI (valN tx (s w) j)) (nI (s w + j)) nx = nx (nI (10 * valN tx (s w) j + (tx (s w + j) - 48)), nI (s w + (j + 1)))
    obtain ⟨d1, d2⟩ := hs.2 (s w + j) (by omega) (by omega)
    unfold fX3_number_c19
    rw [if_pos k4, nI_clamp (by omega), r2, if_neg (by rw [k_le (by omega) (by omega)]; omega), c_at g1 rfl (by omega), Option.bind_some, show (48 : Int32) = nI 48 from rfl, pk_sub d1, show (10 : Int32) = nI 10 from rfl, pk_mul, nI_add, Option.bind_some, nI_1, Nat.add_assoc]
  · show fX3_number_c19 T (nI w) (nI (valN tx (s w) (e w - s w))) (nI (s w + (e w - s w))) nx = _
    unfold fX3_number_c19
    rw [if_pos k4, nI_clamp (by omega), r2, if_pos (by rw [k_le (by omega) (by omega)]; omega)]
def cmdOk (tx : Nat → Nat) (c : Nat) (s e : Nat → Nat) (q p : Nat) : Prop := c = p + 1 ∧ spW tx (s 0) (e 0) q ∧ ∀ i, 1 ≤ i → i ≤ p → nmW tx (s i) (e i)
theorem c_isCommand_t {tx : Nat → Nat} {t : Nat} {T : KT} {c : Nat} {s e : Nat → Nat} (h : RD tx t T c s e) {x : Int32} {q p : Nat} (hx : x = nI p) (h4 : p < 4) (hq : q < 12) (hs : cmdOk tx c s e q p) : fX3_isCommand T q x = some 1 := by
  subst hx
  have hc := h.2.1
  unfold fX3_isCommand
  rw [if_neg (by rw [hc, hs.1, nI_1]; exact fun z => z rfl), c_isWord_t h (x := 0) (w := 0) rfl (by omega) hq (by have := hs.1; omega) hs.2.1, Option.bind_some, if_pos (by decide)]
  refine kLoop_to (fun j => nI (1 + j)) p rfl (fun j hj nx => ?_) (fun nx => ?_) (by rw [kFu_eq]; omega)
  · show fX3_isCommand_c23 T q (nI p) (nI (1 + j)) nx = nx (nI (1 + (j + 1)))
    unfold fX3_isCommand_c23
    rw [if_neg (by rw [k_lt (by omega) (by omega)]; omega), c_isNumber_t h rfl (by omega) (by have := hs.1; omega) (hs.2.2 (1 + j) (by omega) (by omega)), Option.bind_some, if_pos (by decide), nI_1, Nat.add_assoc]
  · show fX3_isCommand_c23 T q (nI p) (nI (1 + p)) nx = _
    unfold fX3_isCommand_c23
    rw [if_pos (by rw [k_lt (by omega) (by omega)]; omega)]
theorem c_isCommand_f {tx : Nat → Nat} {t : Nat} {T : KT} {c : Nat} {s e : Nat → Nat} (h : RD tx t T c s e) {x : Int32} {q p : Nat} (hx : x = nI p) (h4 : p < 4) (hq : q < 12) (hs : ¬ cmdOk tx c s e q p) : fX3_isCommand T q x = some 0 := by
  subst hx
  have hc := h.2.1
  have hc2 := h.2.2.1
  unfold fX3_isCommand
  by_cases h1 : c = p + 1
  · rw [if_neg (by rw [hc, h1, nI_1]; exact fun z => z rfl)]
    by_cases h2 : spW tx (s 0) (e 0) q
    · rw [c_isWord_t h (x := 0) (w := 0) rfl (by omega) hq (by omega) h2, Option.bind_some, if_pos (by decide)]
      have hb : ∃ j, j < p ∧ ¬ nmW tx (s (1 + j)) (e (1 + j)) := by
        refine Classical.byContradiction (fun z => hs ⟨h1, h2, fun i h3 h5 => Classical.byContradiction (fun y => z ⟨i - 1, by omega, ?_⟩)⟩)
        rw [show 1 + (i - 1) = i by omega]
        exact y
      obtain ⟨b, ⟨hb1, hb2⟩, hb3⟩ := pk_least (fun j => j < p ∧ ¬ nmW tx (s (1 + j)) (e (1 + j))) hb
      refine kLoop_to (fun j => nI (1 + j)) b rfl (fun j hj nx => ?_) (fun nx => ?_) (by rw [kFu_eq]; omega)
      · show fX3_isCommand_c23 T q (nI p) (nI (1 + j)) nx = nx (nI (1 + (j + 1)))
        have hok : nmW tx (s (1 + j)) (e (1 + j)) := Classical.byContradiction (fun y => hb3 j hj ⟨by omega, y⟩)
        unfold fX3_isCommand_c23
        rw [if_neg (by rw [k_lt (by omega) (by omega)]; omega), c_isNumber_t h rfl (by omega) (by omega) hok, Option.bind_some, if_pos (by decide), nI_1, Nat.add_assoc]
      · show fX3_isCommand_c23 T q (nI p) (nI (1 + b)) nx = _
        unfold fX3_isCommand_c23
        rw [if_neg (by rw [k_lt (by omega) (by omega)]; omega), c_isNumber_f h rfl (by omega) (by omega) hb2, Option.bind_some, if_neg (fun z => z rfl)]
    · rw [c_isWord_f h (x := 0) (w := 0) rfl (by omega) hq (fun z => h2 z.2), Option.bind_some, if_neg (fun z => z rfl)]
  · rw [if_pos (by rw [hc, nI_1, k_eq (by omega) (by omega)]; exact h1)]
