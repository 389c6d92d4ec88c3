/-! ===== PURE: the class reads a command ===== -/
theorem k_ch {n : Nat} (h : n < 65536) : kCh (nI n) = true := by
  unfold kCh
  rw [nI_toInt (by omega)]
  simp
  omega
def TxOk (T : KT) (t : Nat) (tx : Nat → Nat) : Prop := T.1 = nI t ∧ t ≤ 80 ∧ ∀ i, i < t → T.2.2.1 i = nI (tx i) ∧ 32 ≤ tx i ∧ tx i ≤ 126
theorem c_at {T : KT} {t : Nat} {tx : Nat → Nat} (h : TxOk T t tx) {x : Int32} {i : Nat} (hx : x = nI i) (hi : i < t) : fX3_at T x = some (nI (tx i)) := by
  subst hx
  obtain ⟨h1, h2, h3⟩ := h
  obtain ⟨c1, c2, c3⟩ := h3 i hi
  unfold fX3_at
  rw [if_neg (nI_pos (by omega)), h1, if_neg (by rw [k_le (by omega) (by omega)]; omega), if_pos (k_in rfl (by omega) (by omega)), nI_clamp (by omega), c1, if_pos (k_ch (by omega))]
def CW (tx : Nat → Nat) (a n : Nat) (T0 T : KT) : Prop := T.1 = T0.1 ∧ T.2.2.1 = T0.2.2.1 ∧ T.2.1 = nI (cnt tx a n) ∧ ∀ w, w < 4 → w < cnt tx a n → T.2.2.2.1 w = nI (sF tx a n w) ∧ T.2.2.2.2 w = nI (eF tx a n w)
theorem c_markStart {T : KT} {c p : Nat} (hc : T.2.1 = nI c) (h1 : 1 ≤ c) (h2 : c < 100) : ∃ r, fX3_markStart T (nI p) = some (T.1, nI c, T.2.2.1, r, T.2.2.2.2) ∧ ∀ w, w < 4 → r w = if w = c - 1 then nI p else T.2.2.2.1 w := by
  obtain ⟨t1, t2, t3, t4, t5⟩ := T
  replace hc : t2 = nI c := hc
  subst hc
  unfold fX3_markStart
  show ∃ r, (if nI c < (1 : Int32) then some (t1, nI c, t3, t4, t5) else (if (4 : Int32) < nI c then some (t1, nI c, t3, t4, t5) else (if kIn (nI c - (1 : Int32)) 4 = true then some (t1, nI c, t3, upd t4 (nI c - (1 : Int32)).toNatClampNeg (nI p), t5) else none))) = some (t1, nI c, t3, r, t5) ∧ ∀ w, w < 4 → r w = if w = c - 1 then nI p else t4 w
  rw [if_neg (by rw [show (1 : Int32) = nI 1 from rfl, k_lt (by omega) (by omega)]; omega)]
  by_cases h4 : 4 < c
  · rw [if_pos (by rw [show (4 : Int32) = nI 4 from rfl, k_lt (by omega) (by omega)]; exact h4)]
    exact ⟨t4, rfl, fun w hw => by rw [if_neg (by omega)]⟩
  · have e : nI c - (1 : Int32) = nI (c - 1) := by rw [show (1 : Int32) = nI 1 from rfl, pk_sub h1]
    rw [if_neg (by rw [show (4 : Int32) = nI 4 from rfl, k_lt (by omega) (by omega)]; exact h4), e, if_pos (k_in rfl (by omega) (by omega)), nI_clamp (by omega)]
    refine ⟨_, rfl, fun w hw => ?_⟩
    by_cases ew : w = c - 1
    · rw [if_pos ew, ew, pk_us]
    · rw [if_neg ew, pk_un ew]
theorem c_markEnd {T : KT} {c p : Nat} (hc : T.2.1 = nI c) (h1 : 1 ≤ c) (h2 : c < 100) : ∃ r, fX3_markEnd T (nI p) = some (T.1, nI c, T.2.2.1, T.2.2.2.1, r) ∧ ∀ w, w < 4 → r w = if w = c - 1 then nI p else T.2.2.2.2 w := by
  obtain ⟨t1, t2, t3, t4, t5⟩ := T
  replace hc : t2 = nI c := hc
  subst hc
  unfold fX3_markEnd
  show ∃ r, (if nI c < (1 : Int32) then some (t1, nI c, t3, t4, t5) else (if (4 : Int32) < nI c then some (t1, nI c, t3, t4, t5) else (if kIn (nI c - (1 : Int32)) 4 = true then some (t1, nI c, t3, t4, upd t5 (nI c - (1 : Int32)).toNatClampNeg (nI p)) else none))) = some (t1, nI c, t3, t4, r) ∧ ∀ w, w < 4 → r w = if w = c - 1 then nI p else t5 w
  rw [if_neg (by rw [show (1 : Int32) = nI 1 from rfl, k_lt (by omega) (by omega)]; omega)]
  by_cases h4 : 4 < c
  · rw [if_pos (by rw [show (4 : Int32) = nI 4 from rfl, k_lt (by omega) (by omega)]; exact h4)]
    exact ⟨t5, rfl, fun w hw => by rw [if_neg (by omega)]⟩
  · have e : nI c - (1 : Int32) = nI (c - 1) := by rw [show (1 : Int32) = nI 1 from rfl, pk_sub h1]
    rw [if_neg (by rw [show (4 : Int32) = nI 4 from rfl, k_lt (by omega) (by omega)]; exact h4), e, if_pos (k_in rfl (by omega) (by omega)), nI_clamp (by omega)]
    refine ⟨_, rfl, fun w hw => ?_⟩
    by_cases ew : w = c - 1
    · rw [if_pos ew, ew, pk_us]
    · rw [if_neg ew, pk_un ew]
def flI (tx : Nat → Nat) (a n : Nat) : Int32 := if n = 0 ∨ tx (a + n - 1) = 32 then 0 else 1
theorem c_readCommand {T : KT} {t : Nat} {tx : Nat → Nat} (h : TxOk T t tx) {a e : Nat} (hae : a ≤ e) (het : e ≤ t) : ∃ T', fX3_readCommand T (nI a) (nI e) = some T' ∧ CW tx a (e - a) T T' := by
  have h80 := h.2.1
  have K : ∃ r, CW tx a (e - a) T r ∧ kLoopC kFu (fun (q : KT × Int32 × Int32) (nx10 : KT × Int32 × Int32 → Option KT) => fX3_readCommand_c10 q.1 (nI e) q.2.1 q.2.2 nx10) ((T.1, (0 : Int32), T.2.2), (0 : Int32), nI a) = some r := by
    refine kLoop_ex (fun n (s : KT × Int32 × Int32) => CW tx a n T s.1 ∧ s.2 = (flI tx a n, nI (a + n))) _ (e - a) ⟨⟨rfl, rfl, rfl, fun w _ hw => absurd hw (Nat.not_lt_zero _)⟩, rfl⟩ ?_ ?_ (by rw [kFu_eq]; omega)
    · rintro n hn ⟨T1, x3, x4⟩ ⟨⟨g1, g2, g3, g4⟩, he⟩
      obtain ⟨rfl, rfl⟩ : x3 = flI tx a n ∧ x4 = nI (a + n) := ⟨congrArg (fun p => p.1) he, congrArg (fun p => p.2) he⟩
      replace g1 : T1.1 = T.1 := g1
      replace g2 : T1.2.2.1 = T.2.2.1 := g2
      replace g3 : T1.2.1 = nI (cnt tx a n) := g3
      have hat : fX3_at T1 (nI (a + n)) = some (nI (tx (a + n))) := c_at (t := t) ⟨g1.trans h.1, h80, fun i hi => by rw [g2]; exact h.2.2 i hi⟩ rfl (by omega)
      obtain ⟨-, c32, c126⟩ := h.2.2 (a + n) (by omega)
      have hb := (cnt_b (tx := tx) (a := a) n).1
      have eC : cnt tx a (n + 1) = if isS tx a n then cnt tx a n + 1 else cnt tx a n := rfl
      have eS : sF tx a (n + 1) = if isS tx a n then upN (sF tx a n) (cnt tx a n) (a + n) else sF tx a n := rfl
      have eE : eF tx a (n + 1) = if tx (a + n) = 32 then eF tx a n else upN (eF tx a n) (cnt tx a (n + 1) - 1) (a + n + 1) := rfl
      have eF1 : flI tx a (n + 1) = if tx (a + n) = 32 then 0 else 1 := by
        unfold flI
        rw [show a + (n + 1) - 1 = a + n by omega]
        by_cases c : tx (a + n) = 32
        · rw [if_pos c, if_pos (Or.inr c)]
        · rw [if_neg c, if_neg (fun z => z.elim (by omega) c)]
      have hlt : ¬ nI e ≤ nI (a + n) := by
        rw [k_le (by omega) (by omega)]
        omega
      by_cases c : tx (a + n) = 32
      · have hni : ¬ isS tx a n := fun z => z.1 c
        rw [if_neg hni] at eC eS
        rw [if_pos c] at eE eF1
        refine ⟨(T1, 0, nI (a + (n + 1))), ⟨⟨g1, g2, ?_, ?_⟩, ?_⟩, fun nx => ?_⟩
        · rw [eC]
          exact g3
        · rw [eC, eS, eE]
          exact g4
        · rw [eF1]
        · show fX3_readCommand_c10 T1 (nI e) (flI tx a n) (nI (a + n)) nx = _
          unfold fX3_readCommand_c10
          rw [if_neg hlt, hat, Option.bind_some, if_neg (by rw [c]; exact fun z => z rfl), if_pos (by decide), if_pos (by decide), if_pos (by decide), nI_1, Nat.add_assoc]
      · have hne : ¬ nI (tx (a + n)) = (32 : Int32) := by
          rw [show (32 : Int32) = nI 32 from rfl, k_eq (by omega) (by omega)]
          exact c
        rw [if_neg c] at eE eF1
        by_cases cs : isS tx a n
        · rw [if_pos cs] at eC eS
          rw [eC, Nat.add_sub_cancel] at eE
          have hx : flI tx a n = 0 := if_pos cs.2
          obtain ⟨r1, m1, m2⟩ := c_markStart (T := (T1.1, T1.2.1 + 1, T1.2.2)) (c := cnt tx a n + 1) (p := a + n) (by show T1.2.1 + 1 = _; rw [g3, nI_1]) (by omega) (by omega)
          obtain ⟨r2, m3, m4⟩ := c_markEnd (T := (T1.1, nI (cnt tx a n + 1), T1.2.2.1, r1, T1.2.2.2.2)) (c := cnt tx a n + 1) (p := a + n + 1) rfl (by omega) (by omega)
          refine ⟨((T1.1, nI (cnt tx a n + 1), T1.2.2.1, r1, r2), 1, nI (a + (n + 1))), ⟨⟨g1, g2, ?_, fun w w4 hw => ?_⟩, ?_⟩, fun nx => ?_⟩
          · rw [eC]
          · rw [eC] at hw
            rw [eS, eE]
            show r1 w = _ ∧ r2 w = _
            rw [m2 w w4, m4 w w4, Nat.add_sub_cancel]
            by_cases ew : w = cnt tx a n
            · rw [if_pos ew, if_pos ew, ew, up_s, up_s]
              exact ⟨rfl, rfl⟩
            · rw [if_neg ew, if_neg ew, up_n ew, up_n ew]
              exact g4 w w4 (by omega)
          · rw [eF1]
          · show fX3_readCommand_c10 T1 (nI e) (flI tx a n) (nI (a + n)) nx = _
            unfold fX3_readCommand_c10
            rw [if_neg hlt, hat, Option.bind_some, if_pos hne, if_neg (fun z => z rfl), hx, if_neg (fun z => z rfl), m1, Option.bind_some, if_neg (fun z => z rfl), nI_1, m3, Option.bind_some, if_neg (fun z => z rfl), Nat.add_assoc]
        · have hor : ¬ (n = 0 ∨ tx (a + n - 1) = 32) := fun z => cs ⟨c, z⟩
          have hcp := cnt_pos (tx := tx) (a := a) n (fun z => hor (Or.inl z)) (fun z => hor (Or.inr z))
          rw [if_neg cs] at eC eS
          rw [eC] at eE
          have hx : flI tx a n = 1 := if_neg hor
          obtain ⟨r2, m3, m4⟩ := c_markEnd (T := T1) (c := cnt tx a n) (p := a + n + 1) g3 (by omega) (by omega)
          refine ⟨((T1.1, nI (cnt tx a n), T1.2.2.1, T1.2.2.2.1, r2), 1, nI (a + (n + 1))), ⟨⟨g1, g2, ?_, fun w w4 hw => ?_⟩, ?_⟩, fun nx => ?_⟩
          · rw [eC]
          · rw [eC] at hw
            rw [eS, eE]
            show T1.2.2.2.1 w = _ ∧ r2 w = _
            obtain ⟨k1, k2⟩ := g4 w w4 hw
            rw [m4 w w4]
            by_cases ew : w = cnt tx a n - 1
            · rw [if_pos ew, ew, up_s, ← ew]
              exact ⟨k1, rfl⟩
            · rw [if_neg ew, up_n ew]
              exact ⟨k1, k2⟩
          · rw [eF1]
          · show fX3_readCommand_c10 T1 (nI e) (flI tx a n) (nI (a + n)) nx = _
            unfold fX3_readCommand_c10
            rw [if_neg hlt, hat, Option.bind_some, if_pos hne, if_neg (fun z => z rfl), hx, if_pos (by decide), if_neg (fun z => z rfl), nI_1, m3, Option.bind_some, if_neg (fun z => z rfl), Nat.add_assoc]
    · rintro ⟨T1, x3, x4⟩ ⟨hw, he⟩
      obtain ⟨rfl, rfl⟩ : x3 = flI tx a (e - a) ∧ x4 = nI (a + (e - a)) := ⟨congrArg (fun p => p.1) he, congrArg (fun p => p.2) he⟩
      refine ⟨T1, hw, fun nx => ?_⟩
      show fX3_readCommand_c10 T1 (nI e) _ (nI (a + (e - a))) nx = _
      unfold fX3_readCommand_c10
      rw [if_pos (by rw [k_le (by omega) (by omega)]; omega)]
  obtain ⟨r, hr, he⟩ := K
  exact ⟨r, he, hr⟩
