/-! ===== PURE: the commands, one after the other ===== -/
abbrev KR : Type := KX × KC × KF × KT × Int32 × Int32 × Int32
def bC (H : KH) (S : KS) : KR → (KR → Option (Int32 × KX × KC × KF × KH × KT × KS)) → Option (Int32 × KX × KC × KF × KH × KT × KS) := fun q nx39 => fX4_run_c39 q.1 q.2.1 q.2.2.1 H q.2.2.2.1 S q.2.2.2.2.1 q.2.2.2.2.2.1 q.2.2.2.2.2.2 nx39
def bM : KM × Int32 × Int32 × Int32 → (KM × Int32 × Int32 × Int32 → Option (Int32 × KM)) → Option (Int32 × KM) := fun q nx20 => fX5_run_c20 q.1 q.2.1 q.2.2.1 q.2.2.2 nx20
def RU (tx : Nat → Nat) (t : Nat) (st : Nat → Nat) (X : KX) (C : KC) (T : KT) (M : KM) : Prop := TxOk T t tx ∧ TmOk M t tx ∧ RM st M ∧ RC st C ∧ Inv st ∧ ¬ M.2.2.1 = 0 ∧ X.2 = M.2.2.2.2.1
def RV (M0 M : KM) : Prop := M.1 = M0.1 ∧ M.2.1 = M0.2.1 ∧ M.2.2.2.2.2.2.2.1 = M0.2.2.2.2.2.2.2.1
theorem ce_ex {tx : Nat → Nat} {t a : Nat} (h : a ≤ t) : ∃ e, CEnd tx t a e := by
  obtain ⟨b, ⟨h1, h2⟩, h3⟩ := pk_least (fun e => a ≤ e ∧ (e = t ∨ tx e = 59)) ⟨t, h, Or.inl rfl⟩
  have hb : b ≤ t := Classical.byContradiction (fun z => h3 t (by omega) ⟨h, Or.inl rfl⟩)
  refine ⟨b, h1, hb, fun i hi hib z => h3 i hib ⟨hi, Or.inr z⟩, ?_⟩
  rcases h2 with z | z
  · exact Or.inl z
  · by_cases c : b = t
    · exact Or.inl c
    · exact Or.inr ⟨by omega, z⟩
theorem run_step {tx : Nat → Nat} {t a e : Nat} {st : Nat → Nat} {X : KX} {C : KC} {F : KF} {T : KT} {M : KM} (h : RU tx t st X C T M) (hE : CEnd tx t a e) : ∃ T1 p r st' C' F' u1 u2, fX3_readCommand T (nI a) (nI e) = some T1 ∧ fX4_execute X C F T1 = some (p, C', F') ∧ fX4_failureOf p = some r ∧ fX5_readCommand M (nI a) = some (nI e, u1) ∧ fX5_perform u1 = some (r, u2) ∧ u2.2.2.2.1 = nI t ∧ RU tx t st' (X.1, r) C' T1 (u2.1, u2.2.1, u2.2.2.1, u2.2.2.2.1, r, u2.2.2.2.2.2) ∧ RV M u2 := by
  obtain ⟨hT, hTm, hM, hC, hI, hr, hx⟩ := h
  have h80 := hT.2.1
  obtain ⟨hae, het, h59, hend⟩ := id hE
  obtain ⟨T1, c1, c2, c3, c4, c5⟩ := c_readCommand hT hae het
  obtain ⟨u1, m1, sp, nu, rfl, m2⟩ := m_readCommand hTm hE
  have hcn := (cnt_b (tx := tx) (a := a) (e - a)).1
  have hT1 : TxOk T1 t tx := ⟨c2.trans hT.1, h80, fun i hi => by rw [c3]; exact hT.2.2 i hi⟩
  have hRD : RD tx t T1 (cnt tx a (e - a)) (sF tx a (e - a)) (eF tx a (e - a)) := by
    refine ⟨hT1, c4, by omega, fun w w4 hw => ?_⟩
    have hb := ws_b (tx := tx) (a := a) (e - a) w hw
    exact ⟨(c5 w w4 hw).1, (c5 w w4 hw).2, hb.2.1, by omega⟩
  have hMD : MD tx t (mWd M (cnt tx a (e - a)) sp nu) (cnt tx a (e - a)) (sF tx a (e - a)) (eF tx a (e - a)) := by
    refine ⟨rfl, by omega, fun i hi => (hTm.2.2 i hi).2, fun w hw => ?_⟩
    have hb := ws_b (tx := tx) (a := a) (e - a) w hw
    exact ⟨(m2 w hw).1, (m2 w hw).2, hb.2.1, by omega⟩
  have hM1 : RM st (mWd M (cnt tx a (e - a)) sp nu) := fun i hi => hM i hi
  obtain ⟨p, r, st', C', F', w, th, e1, e2, e3, e4, e5, e6⟩ := ex_both (X := X) (F := F) hM1 hC hI hRD hMD hr
  refine ⟨T1, p, r, st', C', F', _, _, c1, e1, e2, m1, e3, hTm.1, ⟨hT1, ⟨hTm.1, h80, fun i hi => hTm.2.2 i hi⟩, fun i hi => e4 i hi, e5, e6, hr, rfl⟩, rfl, rfl, rfl⟩
theorem run_end {tx : Nat → Nat} {t a : Nat} {H : KH} {S : KS} {M0 : KM} {ac : Int32} {st : Nat → Nat} {X : KX} {C : KC} {F : KF} {T : KT} {M : KM} {x1 x2 z : Int32} (ha : a < 1000) (hz : (a ≤ t ∧ z = 1) ∨ (a = t + 1 ∧ z = 0)) (hU : RU tx t st X C T M) (hV : RV M0 M) (hac : X.1 = ac) (hs : t < a ∨ ¬ X.2 = 0) (n m : Nat) : ∃ r f' T' C' F' M' st', kLoopC (n + 1) (bC H S) (X, C, F, T, x1, x2, nI a) = some (r, (ac, f'), C', F', H, ((0 : Int32), T'), S) ∧ kLoopC (m + 1) bM (M, x1, x2, z) = some (r, (M'.1, M'.2.1, (0 : Int32), (0 : Int32), M'.2.2.2.2)) ∧ RV M0 M' ∧ f' = M'.2.2.2.2.1 ∧ RM st' M' ∧ RC st' C' ∧ Inv st' := by
  obtain ⟨hT, hTm, hM, hC, hI, hr, hx⟩ := hU
  have h80 := hT.2.1
  refine ⟨x1, X.2, T.2, C, F, M, st, ?_, ?_, hV, hx, hM, hC, hI⟩
  · show fX4_run_c39 X C F H T S x1 x2 (nI a) _ = _
    have eX : X = (ac, X.2) := by rw [← hac]
    unfold fX4_run_c39
    by_cases c : t < a
    · rw [hT.1, if_pos (by rw [k_lt (by omega) (by omega)]; exact c), ← eX]
      rfl
    · rw [hT.1, if_neg (by rw [k_lt (by omega) (by omega)]; exact c), if_pos (hs.resolve_left c), ← eX]
      rfl
  · show fX5_run_c20 M x1 x2 z _ = _
    unfold fX5_run_c20
    rcases hz with ⟨z1, z2⟩ | ⟨z1, z2⟩
    · rw [z2, if_neg (by decide), if_pos (by rw [← hx]; exact hs.resolve_left (by omega))]
    · rw [z2, if_pos rfl]
theorem run_loop {tx : Nat → Nat} {t : Nat} {H : KH} {S : KS} {M0 : KM} {ac : Int32} (k : Nat) : ∀ (a : Nat) (st : Nat → Nat) (X : KX) (C : KC) (F : KF) (T : KT) (M : KM) (x1 z : Int32), t + 1 ≤ k + a → ((a ≤ t ∧ z = 1) ∨ (a = t + 1 ∧ z = 0)) → RU tx t st X C T M → RV M0 M → X.1 = ac → ∀ f g, ∃ r f' T' C' F' M' st', kLoopC (k + f + 1) (bC H S) (X, C, F, T, x1, nI a, nI a) = some (r, (ac, f'), C', F', H, ((0 : Int32), T'), S) ∧ kLoopC (k + g + 1) bM (M, x1, nI a, z) = some (r, (M'.1, M'.2.1, (0 : Int32), (0 : Int32), M'.2.2.2.2)) ∧ RV M0 M' ∧ f' = M'.2.2.2.2.1 ∧ RM st' M' ∧ RC st' C' ∧ Inv st' := by
  induction k using Nat.strongRecOn with
  | ind k ih =>
    intro a st X C F T M x1 z hk hz hU hV hac f g
    have h80 := hU.1.2.1
    by_cases hs : t < a ∨ ¬ X.2 = 0
    · exact run_end (by omega) hz hU hV hac hs (k + f) (k + g)
    · have hat : a ≤ t := by omega
      have hx0 : X.2 = 0 := Classical.byContradiction (fun y => hs (Or.inr y))
      have hz1 : z = 1 := by
        rcases hz with y | y
        · exact y.2
        · omega
      obtain ⟨e, hE⟩ := ce_ex (tx := tx) hat
      obtain ⟨T1, p, r, st', C', F', u1, u2, s1, s2, s3, s4, s5, s6, hU', hV'⟩ := run_step (F := F) hU hE
      obtain ⟨hae, het, h59, hend⟩ := id hE
      have hT := hU.1
      have hscan : ∀ n, kLoopC ((e - a) + n) (bC H S) (X, C, F, T, x1, nI a, nI a) = kLoopC n (bC H S) (X, C, F, T, x1, nI a, nI e) := by
        intro n
        have hstep : ∀ j, j < e - a → ∀ nx, bC H S ((fun j => ((X, C, F, T, x1, nI a, nI (a + j)) : KR)) j) nx = nx ((fun j => ((X, C, F, T, x1, nI a, nI (a + j)) : KR)) (j + 1)) := by
          intro j hj nx
          show fX4_run_c39 X C F H T S x1 (nI a) (nI (a + j)) nx = nx (X, C, F, T, x1, nI a, nI (a + (j + 1)))
          have hch := hT.2.2 (a + j) (by omega)
          have h59' := h59 (a + j) (by omega) (by omega)
          unfold fX4_run_c39
          rw [hT.1, if_neg (by rw [k_lt (by omega) (by omega)]; omega), if_neg (fun y => y hx0), if_neg (by rw [k_eq (by omega) (by omega)]; omega), c_at hT rfl (by omega), Option.bind_some, if_pos (by rw [show (59 : Int32) = nI 59 from rfl, k_eq (by omega) (by omega)]; exact h59'), nI_1, Nat.add_assoc]
        have K := kLoop_run (bC H S) (e - a) (fun j => ((X, C, F, T, x1, nI a, nI (a + j)) : KR)) hstep n
        replace K : kLoopC ((e - a) + n) (bC H S) (X, C, F, T, x1, nI a, nI a) = kLoopC n (bC H S) (X, C, F, T, x1, nI a, nI (a + (e - a))) := K
        rw [show a + (e - a) = e by omega] at K
        exact K
      have hcs : ∀ nx, fX4_run_c39 X C F H T S x1 (nI a) (nI e) nx = nx ((X.1, r), C', F', T1, (if r = 0 then x1 + 1 else x1), nI (e + 1), nI (e + 1)) := by
        intro nx
        have core : ((fX3_readCommand T (nI a) (nI e)).bind fun r87 => (fX4_execute X C F r87).bind fun r96 => (fX4_failureOf r96.1).bind fun r99 => if ¬ r99 = (0 : Int32) then (nx ((X.1, r99), r96.2.1, r96.2.2, r87, x1, (nI e + (1 : Int32)), (nI e + 1))) else (nx ((X.1, r99), r96.2.1, r96.2.2, r87, (x1 + 1), (nI e + (1 : Int32)), (nI e + 1)))) = nx ((X.1, r), C', F', T1, (if r = 0 then x1 + 1 else x1), nI (e + 1), nI (e + 1)) := by
          rw [s1, Option.bind_some, s2, Option.bind_some, s3, Option.bind_some, nI_1]
          by_cases r0 : r = 0
          · rw [if_neg (fun y => y r0), if_pos r0]
          · rw [if_pos r0, if_neg r0]
        unfold fX4_run_c39
        rw [hT.1, if_neg (by rw [k_lt (by omega) (by omega)]; omega), if_neg (fun y => y hx0)]
        rcases hend with y | ⟨y1, y2⟩
        · rw [if_pos (by rw [y])]
          exact core
        · rw [if_neg (by rw [k_eq (by omega) (by omega)]; omega), c_at hT rfl y1, Option.bind_some, y2, if_neg (fun y => y rfl)]
          exact core
      have hms : ∀ nx, fX5_run_c20 M x1 (nI a) z nx = nx ((u2.1, u2.2.1, u2.2.2.1, u2.2.2.2.1, r, u2.2.2.2.2.2), (if r = 0 then x1 + 1 else x1), nI (e + 1), (if t ≤ e then (0 : Int32) else 1)) := by
        intro nx
        have hf0 : M.2.2.2.2.1 = 0 := by rw [← hU.2.2.2.2.2.2]; exact hx0
        unfold fX5_run_c20
        rw [hz1, if_neg (by decide), if_neg (fun y => y hf0), s4, Option.bind_some, s5, Option.bind_some]
        show (if ¬ r = (0 : Int32) then (if u2.2.2.2.1 ≤ nI e then _ else _) else (if u2.2.2.2.1 ≤ nI e then _ else _)) = _
        have hle : (u2.2.2.2.1 ≤ nI e) ↔ t ≤ e := by
          rw [s6, k_le (by omega) (by omega)]
        by_cases r0 : r = 0
        · rw [if_neg (fun y => y r0), if_pos r0]
          by_cases te : t ≤ e
          · rw [if_pos (hle.mpr te), if_pos te, nI_1]
          · rw [if_neg (fun y => te (hle.mp y)), if_neg te, nI_1]
        · rw [if_pos r0, if_neg r0, Int32.add_zero]
          by_cases te : t ≤ e
          · rw [if_pos (hle.mpr te), if_pos te, nI_1]
          · rw [if_neg (fun y => te (hle.mp y)), if_neg te, nI_1]
      have hV2 : RV M0 (u2.1, u2.2.1, u2.2.2.1, u2.2.2.2.1, r, u2.2.2.2.2.2) := ⟨hV'.1.trans hV.1, hV'.2.1.trans hV.2.1, hV'.2.2.trans hV.2.2⟩
      have hz' : (e + 1 ≤ t ∧ (if t ≤ e then (0 : Int32) else 1) = 1) ∨ (e + 1 = t + 1 ∧ (if t ≤ e then (0 : Int32) else 1) = 0) := by
        by_cases te : t ≤ e
        · exact Or.inr ⟨by omega, if_pos te⟩
        · exact Or.inl ⟨by omega, if_neg te⟩
      obtain ⟨r', f', T', C2, F2, M', st2, g1, g2, g3⟩ := ih (k - (e - a) - 1) (by omega) (e + 1) st' (X.1, r) C' F' T1 (u2.1, u2.2.1, u2.2.2.1, u2.2.2.2.1, r, u2.2.2.2.2.2) (if r = 0 then x1 + 1 else x1) (if t ≤ e then (0 : Int32) else 1) (by omega) hz' hU' hV2 hac f (g + (e - a))
      refine ⟨r', f', T', C2, F2, M', st2, ?_, ?_, g3⟩
      · rw [show k + f + 1 = (e - a) + ((k - (e - a) - 1 + f + 1) + 1) by omega, hscan]
        exact (hcs _).trans g1
      · rw [show k + g + 1 = (k - (e - a) - 1 + (g + (e - a)) + 1) + 1 by omega]
        exact (hms _).trans g2
theorem hr_run : hop_run RR := by
  intro X M C F H T S hR
  obtain ⟨st, pst, n, q, t, hr⟩ := id hR
  obtain ⟨hM, hC, hI, h4, h5, h6, ⟨h7, h8, h9, h10, h11, h12⟩, ht, hT, hm, hch⟩ := hr
  obtain ⟨c, e1, e2⟩ := prep_ok (S := S) hC hI.1 h8 h7 h10
  obtain ⟨past', e3, e4⟩ := m_record hM h4 h9 h7 h11
  have ek := keep_ok h8 h7
  obtain ⟨tx, hTx, hTm⟩ : ∃ tx : Nat → Nat, TxOk T t tx ∧ ∀ i, i < t → M.2.2.2.2.2.2.2.2.2.1 i = nI (tx i) ∧ 32 ≤ tx i ∧ tx i ≤ 126 := by
    have hw : ∀ i, i < t → T.2.2.1 i = nI ((T.2.2.1 i).toNatClampNeg) ∧ M.2.2.2.2.2.2.2.2.2.1 i = nI ((T.2.2.1 i).toNatClampNeg) ∧ 32 ≤ (T.2.2.1 i).toNatClampNeg ∧ (T.2.2.1 i).toNatClampNeg ≤ 126 := by
      intro i hi
      obtain ⟨ch, g1, g2, g3, g4⟩ := hch i hi
      rw [g3, g4, nI_clamp (by omega)]
      exact ⟨rfl, rfl, g1, g2⟩
    exact ⟨fun i => (T.2.2.1 i).toNatClampNeg, ⟨hT, ht, fun i hi => ⟨(hw i hi).1, (hw i hi).2.2⟩⟩, fun i hi => (hw i hi).2⟩
  obtain ⟨r, f', T', C', F', M', st', g1, g2, g3, g4, g5, g6, g7⟩ := run_loop (tx := tx) (t := t) (H := (nI (if n = 8 then (q + 1) % 9 else q), nI (min (n + 1) 8))) (S := va_up S ((q + n) % 9) c) (M0 := (M.1 + 1, nI (min (n + 1) 8), (1 : Int32), M.2.2.2.1, (0 : Int32), M.2.2.2.2.2.1, M.2.2.2.2.2.2.1, past', M.2.2.2.2.2.2.2.2)) (ac := X.1 + 1) 81 0 st (X.1 + 1, (0 : Int32)) C F T (M.1 + 1, nI (min (n + 1) 8), (1 : Int32), M.2.2.2.1, (0 : Int32), M.2.2.2.2.2.1, M.2.2.2.2.2.2.1, past', M.2.2.2.2.2.2.2.2) (0 : Int32) (1 : Int32) (by omega) (Or.inl ⟨by omega, rfl⟩) ⟨hTx, ⟨hm, ht, fun i hi => hTm i hi⟩, fun i hi => hM i hi, hC, hI, (show ¬ (1 : Int32) = 0 by decide), rfl⟩ ⟨rfl, rfl, rfl⟩ rfl (kFu - 82) (kFu - 82)
  have efu : 81 + (kFu - 82) + 1 = kFu := by
    have := kFu_eq
    omega
  rw [efu] at g1 g2
  obtain ⟨v1, v2, v3⟩ := g3
  replace v1 : M'.1 = M.1 + 1 := v1
  replace v2 : M'.2.1 = nI (min (n + 1) 8) := v2
  replace v3 : M'.2.2.2.2.2.2.2.1 = past' := v3
  refine ⟨r, (X.1 + 1, f'), (M'.1, M'.2.1, (0 : Int32), (0 : Int32), M'.2.2.2.2), C', F', (nI (if n = 8 then (q + 1) % 9 else q), nI (min (n + 1) 8)), ((0 : Int32), T'), va_up S ((q + n) % 9) c, ?_, ?_, st', pushP n st pst, min (n + 1) 8, (if n = 8 then (q + 1) % 9 else q), 0, fun i hi => g5 i hi, g6, g7, rfl, ?_, g4, ⟨by omega, by split <;> omega, v2, rfl, ?_, log_push h12 h7 e2 hI⟩, by omega, rfl, rfl, fun i hi => absurd hi (by omega)⟩
  · unfold fX4_run
    rw [e1, Option.bind_some, h10, ek, Option.bind_some]
    exact g1
  · unfold fX5_run
    rw [e3, Option.bind_some]
    exact g2
  · show X.1 + 1 = M'.1
    rw [v1, h5]
  · show RP _ _ M'.2.2.2.2.2.2.2.1
    rw [v3]
    exact e4
