/-! ===== PURE: a command done by both ===== -/
theorem act_run {pc : KC → Option (Int32 × KC)} {pm : KM → Option (Int32 × KM)} (h : Act pc pm) {st : Nat → Nat} {C : KC} {M : KM} (hM : RM st M) (hC : RC st C) (hI : Inv st) (hr : ¬ M.2.2.1 = 0) : ∃ p r st' C' w th, pc C = some (p, C') ∧ pm M = some (p, mSet2 M w th) ∧ fX4_failureOf p = some r ∧ fX5_outcome p = some r ∧ RM st' (mSet2 M w th) ∧ RC st' C' ∧ Inv st' := by
  rcases h st C M hM hC hI with ⟨e, he, e1, e2⟩ | ⟨r, st', C', hg, hI', hC', e1, hm⟩
  · refine ⟨e, e, st, C, M.2.2.2.2.2.2.1, M.2.2.2.2.2.2.2.2.1, e1, e2, ?_, ?_, hM, hC, hI⟩
    · rcases he with he | he | he | he <;> (subst he; rfl)
    · rcases he with he | he | he | he <;> (subst he; rfl)
  · obtain ⟨w, th, e2, e3⟩ := hm M (m_record_off hr) hM
    refine ⟨r, 0, st', C', w, th, e1, e2, ?_, ?_, e3, hC', hI'⟩
    · unfold fX4_failureOf
      rw [if_pos (fun z => by rw [z] at hg; exact absurd hg (by unfold Good; decide)), good_err hg, Option.bind_some, if_pos rfl]
    · unfold fX5_outcome
      exact if_pos hg
theorem tune_run {st : Nat → Nat} {C : KC} {F : KF} {M : KM} (hM : RM st M) (hC : RC st C) (hI : Inv st) (hr : ¬ M.2.2.1 = 0) : ∃ p r st' C' F' w th, fX0_fitCorrections C F = some (p, C', F') ∧ fX5_tune M = some (p, mSet2 M w th) ∧ fX4_failureOf p = some r ∧ fX5_outcome p = some r ∧ RM st' (mSet2 M w th) ∧ RC st' C' ∧ Inv st' := by
  rcases tune_core (F := F) hM hC hI with ⟨e, he, e1, e2⟩ | ⟨r, st', C', F', hg, hI', hC', e1, hm⟩
  · refine ⟨e, e, st, C, F, M.2.2.2.2.2.2.1, M.2.2.2.2.2.2.2.2.1, e1, e2, ?_, ?_, hM, hC, hI⟩
    · rcases he with he | he | he | he <;> (subst he; rfl)
    · rcases he with he | he | he | he <;> (subst he; rfl)
  · obtain ⟨w, th, e2, e3⟩ := hm M (m_record_off hr) hM
    refine ⟨r, 0, st', C', F', w, th, e1, e2, ?_, ?_, e3, hC', hI'⟩
    · unfold fX4_failureOf
      rw [if_pos (fun z => by rw [z] at hg; exact absurd hg (by unfold Good; decide)), good_err hg, Option.bind_some, if_pos rfl]
    · unfold fX5_outcome
      exact if_pos hg
def fstW (tx : Nat → Nat) (c : Nat) (s e : Nat → Nat) (q : Nat) : Prop := 0 < c ∧ spW tx (s 0) (e 0) q
theorem HQ_inj : ∀ q, q < 12 → ∀ r, r < 12 → HQ q = HQ r → q = r := by decide
theorem sp_inj {tx : Nat → Nat} {s e q r : Nat} (hq : q < 12) (hr : r < 12) (h1 : spW tx s e q) (h2 : spW tx s e r) (hch : ∀ k, k < e - s → 32 ≤ tx (s + k) ∧ tx (s + k) ≤ 126) : q = r := by
  have hk := kLen_b q hq
  have hse : s < e := by
    have := h1.1
    omega
  have e1 := (hs_iff hq hse hch).mpr h1
  have e2 := (hs_iff hr hse hch).mpr h2
  rw [e1] at e2
  have b1 := HQ_b q hq
  have b2 := HQ_b r hr
  rw [pk_lEQ (by omega) (by omega)] at e2
  exact HQ_inj q hq r hr e2
theorem fst_f {tx : Nat → Nat} {t c : Nat} {s e : Nat → Nat} {u : KM} (hD : MD tx t u c s e) {q r : Nat} (hq : q < 12) (hr : r < 12) (hne : q ≠ r) (h : fstW tx c s e q) : ¬ fstW tx c s e r := by
  intro h2
  obtain ⟨-, -, g3, g4⟩ := hD
  obtain ⟨-, -, g5, g6⟩ := g4 0 h.1
  exact hne (sp_inj hq hr h.2 h2.2 (fun k hk => g3 _ (by omega)))
theorem c_cmd_f {tx : Nat → Nat} {t : Nat} {T : KT} {c : Nat} {s e : Nat → Nat} (h : RD tx t T c s e) {x : Int32} {q p : Nat} (hx : x = nI p) (h4 : p < 4) (hq : q < 12) (hs : ¬ fstW tx c s e q) : fX3_isCommand T q x = some 0 := by
  refine c_isCommand_f h hx h4 hq (fun z => hs ⟨?_, z.2.1⟩)
  have := z.1
  omega
theorem m_sp {tx : Nat → Nat} {t : Nat} {u : KM} {c : Nat} {s e : Nat → Nat} (h : MD tx t u c s e) : ∃ s0, fX5_perform u = fX5_perform_c17 u s0 ∧ ∀ q, q < 12 → (s0 = lN (HQ q) ↔ fstW tx c s e q) := by
  obtain ⟨g1, g2, g3, g4⟩ := h
  by_cases hc : c = 0
  · refine ⟨0, ?_, fun q hq => ?_⟩
    · unfold fX5_perform
      rw [g1, hc, if_neg (fun z => z rfl)]
    · have := HQ_b q hq
      rw [show (0 : Int64) = lN 0 from rfl, pk_lEQ (by omega) (by omega)]
      exact ⟨fun z => by omega, fun z => by have := z.1; omega⟩
  · obtain ⟨k1, k2, k3, k4⟩ := g4 0 (by omega)
    refine ⟨lN (hsW tx (s 0) (e 0)), ?_, fun q hq => ?_⟩
    · unfold fX5_perform
      rw [g1, if_pos (nI_ne0 (by omega) (by omega)), if_pos (show kIn 0 40 = true by decide), k_c0, k1]
    · rw [hs_iff hq k3 (fun k hk => g3 _ (by omega))]
      exact ⟨fun z => ⟨by omega, z⟩, fun z => z.2⟩
def ExB (st : Nat → Nat) (X : KX) (C : KC) (F : KF) (T : KT) (M : KM) (s0 : Int64) : Prop := ∃ p r st' C' F' w th, fX4_execute X C F T = some (p, C', F') ∧ fX4_failureOf p = some r ∧ fX5_perform_c17 M s0 = some (r, mSet2 M w th) ∧ RM st' (mSet2 M w th) ∧ RC st' C' ∧ Inv st'
theorem c_no8 {tx : Nat → Nat} {t : Nat} {T : KT} {c : Nat} {s e : Nat → Nat} {X : KX} {C : KC} (hT : RD tx t T c s e) (h : ¬ (c = 2 ∧ fstW tx c s e 8)) : fX4_executeUse X C T = some (-1000000006, C) := by
  have hc := hT.2.1
  have hc2 := hT.2.2.1
  unfold fX4_executeUse
  by_cases c2 : c = 2
  · rw [if_neg (by rw [hc, c2]; exact fun z => z rfl), c_isWord_f hT (x := 0) (w := 0) rfl (by omega) (by omega : 8 < 12) (fun z => h ⟨c2, by omega, z.2⟩), Option.bind_some, if_neg (fun z => z rfl)]
  · rw [if_pos (by rw [hc, show (2 : Int32) = nI 2 from rfl, k_eq (by omega) (by omega)]; exact c2)]
theorem c_none {T : KT} {X : KX} {C : KC} {F : KF} (n0 : fX3_isCommand T 0 2 = some 0) (n1 : fX3_isCommand T 1 3 = some 0) (n2 : fX3_isCommand T 2 2 = some 0) (n3 : fX3_isCommand T 3 2 = some 0) (n4 : fX3_isCommand T 4 1 = some 0) (n5 : fX3_isCommand T 5 1 = some 0) (n6 : fX3_isCommand T 6 1 = some 0) (n7 : fX3_isCommand T 7 0 = some 0) (nu : fX4_executeUse X C T = some (-1000000006, C)) : fX4_execute X C F T = some (-1000000006, C, F) := by
  unfold fX4_execute
  rw [n0, Option.bind_some, if_pos rfl, n1, Option.bind_some, if_pos rfl, n2, Option.bind_some, if_pos rfl, n3, Option.bind_some, if_pos rfl, n4, Option.bind_some, if_pos rfl, n5, Option.bind_some, if_pos rfl, n6, Option.bind_some, if_pos rfl, n7, Option.bind_some, if_pos rfl, nu, Option.bind_some]
theorem ex_layer {st : Nat → Nat} {tx : Nat → Nat} {t c : Nat} {s e : Nat → Nat} {X : KX} {C : KC} {F : KF} {T : KT} {M : KM} {s0 : Int64} (hM : RM st M) (hC : RC st C) (hI : Inv st) (hT : RD tx t T c s e) (hD : MD tx t M c s e) (hr : ¬ M.2.2.1 = 0) (hq : ∀ q, q < 12 → (s0 = lN (HQ q) ↔ fstW tx c s e q)) (hf : fstW tx c s e 0) : ExB st X C F T M s0 := by
  have n1 : fX3_isCommand T 1 3 = some 0 := c_cmd_f hT (p := 3) rfl (by omega) (by omega) (fst_f hD (by omega : 0 < 12) (by omega : 1 < 12) (by omega) hf)
  have n2 : fX3_isCommand T 2 2 = some 0 := c_cmd_f hT (p := 2) rfl (by omega) (by omega) (fst_f hD (by omega : 0 < 12) (by omega : 2 < 12) (by omega) hf)
  have n3 : fX3_isCommand T 3 2 = some 0 := c_cmd_f hT (p := 2) rfl (by omega) (by omega) (fst_f hD (by omega : 0 < 12) (by omega : 3 < 12) (by omega) hf)
  have n4 : fX3_isCommand T 4 1 = some 0 := c_cmd_f hT (p := 1) rfl (by omega) (by omega) (fst_f hD (by omega : 0 < 12) (by omega : 4 < 12) (by omega) hf)
  have n5 : fX3_isCommand T 5 1 = some 0 := c_cmd_f hT (p := 1) rfl (by omega) (by omega) (fst_f hD (by omega : 0 < 12) (by omega : 5 < 12) (by omega) hf)
  have n6 : fX3_isCommand T 6 1 = some 0 := c_cmd_f hT (p := 1) rfl (by omega) (by omega) (fst_f hD (by omega : 0 < 12) (by omega : 6 < 12) (by omega) hf)
  have n7 : fX3_isCommand T 7 0 = some 0 := c_cmd_f hT (p := 0) rfl (by omega) (by omega) (fst_f hD (by omega : 0 < 12) (by omega : 7 < 12) (by omega) hf)
  by_cases ho : cmdOk tx c s e 0 2
  · have hcp := ho.1
    have y : fX3_isCommand T 0 2 = some 1 := c_isCommand_t hT (p := 2) rfl (by omega) (by omega) ho
    have v1 : M.2.2.2.2.2.2.2.2.2.2.2 ((1 : Int32).toNatClampNeg) = nI (valN tx (s 1) (e 1 - s 1)) := by
      rw [show (1 : Int32).toNatClampNeg = 1 from rfl, (hD.2.2.2 1 (by omega)).2.1]
      exact (nu_t (ho.2.2 1 (by omega) (by omega))).1
    have v2 : M.2.2.2.2.2.2.2.2.2.2.2 ((2 : Int32).toNatClampNeg) = nI (valN tx (s 2) (e 2 - s 2)) := by
      rw [show (2 : Int32).toNatClampNeg = 2 from rfl, (hD.2.2.2 2 (by omega)).2.1]
      exact (nu_t (ho.2.2 2 (by omega) (by omega))).1
    obtain ⟨p, r, st', C', w, th, e1, e2, e3, e4, e5, e6, e7⟩ := act_run (act_addLayer (nI (valN tx (s 1) (e 1 - s 1))) (nI (valN tx (s 2) (e 2 - s 2)))) hM hC hI hr
    replace e1 : fX0_append C (nI (valN tx (s 1) (e 1 - s 1))) (nI (valN tx (s 2) (e 2 - s 2))) = some (p, C') := e1
    replace e2 : fX5_addLayer M (nI (valN tx (s 1) (e 1 - s 1))) (nI (valN tx (s 2) (e 2 - s 2))) = some (p, mSet2 M w th) := e2
    have hn : fX5_hasNumbers M 2 = some 1 := m_hasNumbers_t hD (p := 2) rfl (by omega) hcp ho.2.2
    refine ⟨p, r, st', C', F, w, th, ?_, e3, ?_, e5, e6, e7⟩
    · unfold fX4_execute
      rw [y, Option.bind_some, if_neg (by decide), c_number hT (x := 1) (w := 1) rfl (by omega) (by omega) (ho.2.2 1 (by omega) (by omega)), Option.bind_some, c_number hT (x := 2) (w := 2) rfl (by omega) (by omega) (ho.2.2 2 (by omega) (by omega)), Option.bind_some, e1, Option.bind_some]
    · unfold fX5_perform_c17
      rw [fw0, Option.bind_some, if_neg (fun z => z ((hq 0 (by omega)).mpr hf)), hn, Option.bind_some, if_neg (by decide), if_pos (show kIn 1 40 = true by decide), if_pos (show kIn 2 40 = true by decide), v1, v2, e2, Option.bind_some, e4, Option.bind_some]
  · have n0 : fX3_isCommand T 0 2 = some 0 := c_isCommand_f hT (p := 2) rfl (by omega) (by omega) ho
    have hn : fX5_hasNumbers M 2 = some 0 := m_hasNumbers_f hD (p := 2) rfl (by omega) (by omega) (fun z => ho ⟨z.1, hf.2, z.2⟩)
    refine ⟨-1000000006, 1, st, C, F, M.2.2.2.2.2.2.1, M.2.2.2.2.2.2.2.2.1, c_none n0 n1 n2 n3 n4 n5 n6 n7 (c_no8 hT (fun z => fst_f hD (by omega : 0 < 12) (by omega : 8 < 12) (by omega) hf z.2)), rfl, ?_, hM, hC, hI⟩
    unfold fX5_perform_c17
    rw [fw0, Option.bind_some, if_neg (fun z => z ((hq 0 (by omega)).mpr hf)), hn, Option.bind_some, if_pos rfl]
    rfl
theorem ex_ash {st : Nat → Nat} {tx : Nat → Nat} {t c : Nat} {s e : Nat → Nat} {X : KX} {C : KC} {F : KF} {T : KT} {M : KM} {s0 : Int64} (hM : RM st M) (hC : RC st C) (hI : Inv st) (hT : RD tx t T c s e) (hD : MD tx t M c s e) (hr : ¬ M.2.2.1 = 0) (hq : ∀ q, q < 12 → (s0 = lN (HQ q) ↔ fstW tx c s e q)) (hf : fstW tx c s e 1) : ExB st X C F T M s0 := by
  have n0 : fX3_isCommand T 0 2 = some 0 := c_cmd_f hT (p := 2) rfl (by omega) (by omega) (fst_f hD (by omega : 1 < 12) (by omega : 0 < 12) (by omega) hf)
  have n2 : fX3_isCommand T 2 2 = some 0 := c_cmd_f hT (p := 2) rfl (by omega) (by omega) (fst_f hD (by omega : 1 < 12) (by omega : 2 < 12) (by omega) hf)
  have n3 : fX3_isCommand T 3 2 = some 0 := c_cmd_f hT (p := 2) rfl (by omega) (by omega) (fst_f hD (by omega : 1 < 12) (by omega : 3 < 12) (by omega) hf)
  have n4 : fX3_isCommand T 4 1 = some 0 := c_cmd_f hT (p := 1) rfl (by omega) (by omega) (fst_f hD (by omega : 1 < 12) (by omega : 4 < 12) (by omega) hf)
  have n5 : fX3_isCommand T 5 1 = some 0 := c_cmd_f hT (p := 1) rfl (by omega) (by omega) (fst_f hD (by omega : 1 < 12) (by omega : 5 < 12) (by omega) hf)
  have n6 : fX3_isCommand T 6 1 = some 0 := c_cmd_f hT (p := 1) rfl (by omega) (by omega) (fst_f hD (by omega : 1 < 12) (by omega : 6 < 12) (by omega) hf)
  have n7 : fX3_isCommand T 7 0 = some 0 := c_cmd_f hT (p := 0) rfl (by omega) (by omega) (fst_f hD (by omega : 1 < 12) (by omega : 7 < 12) (by omega) hf)
  by_cases ho : cmdOk tx c s e 1 3
  · have hcp := ho.1
    have y : fX3_isCommand T 1 3 = some 1 := c_isCommand_t hT (p := 3) rfl (by omega) (by omega) ho
    have v1 : M.2.2.2.2.2.2.2.2.2.2.2 ((1 : Int32).toNatClampNeg) = nI (valN tx (s 1) (e 1 - s 1)) := by
      rw [show (1 : Int32).toNatClampNeg = 1 from rfl, (hD.2.2.2 1 (by omega)).2.1]
      exact (nu_t (ho.2.2 1 (by omega) (by omega))).1
    have v2 : M.2.2.2.2.2.2.2.2.2.2.2 ((2 : Int32).toNatClampNeg) = nI (valN tx (s 2) (e 2 - s 2)) := by
      rw [show (2 : Int32).toNatClampNeg = 2 from rfl, (hD.2.2.2 2 (by omega)).2.1]
      exact (nu_t (ho.2.2 2 (by omega) (by omega))).1
    have v3 : M.2.2.2.2.2.2.2.2.2.2.2 ((3 : Int32).toNatClampNeg) = nI (valN tx (s 3) (e 3 - s 3)) := by
      rw [show (3 : Int32).toNatClampNeg = 3 from rfl, (hD.2.2.2 3 (by omega)).2.1]
      exact (nu_t (ho.2.2 3 (by omega) (by omega))).1
    obtain ⟨p, r, st', C', w, th, e1, e2, e3, e4, e5, e6, e7⟩ := act_run (act_setAsh (nI (valN tx (s 1) (e 1 - s 1))) (nI (valN tx (s 2) (e 2 - s 2))) (nI (valN tx (s 3) (e 3 - s 3)))) hM hC hI hr
    replace e1 : fX0_putAsh C (nI (valN tx (s 1) (e 1 - s 1))) (nI (valN tx (s 2) (e 2 - s 2))) (nI (valN tx (s 3) (e 3 - s 3))) = some (p, C') := e1
    replace e2 : fX5_setAsh M (nI (valN tx (s 1) (e 1 - s 1))) (nI (valN tx (s 2) (e 2 - s 2))) (nI (valN tx (s 3) (e 3 - s 3))) = some (p, mSet2 M w th) := e2
    have hn : fX5_hasNumbers M 3 = some 1 := m_hasNumbers_t hD (p := 3) rfl (by omega) hcp ho.2.2
    refine ⟨p, r, st', C', F, w, th, ?_, e3, ?_, e5, e6, e7⟩
    · unfold fX4_execute
      rw [n0, Option.bind_some, if_pos rfl, y, Option.bind_some, if_neg (by decide), c_number hT (x := 1) (w := 1) rfl (by omega) (by omega) (ho.2.2 1 (by omega) (by omega)), Option.bind_some, c_number hT (x := 2) (w := 2) rfl (by omega) (by omega) (ho.2.2 2 (by omega) (by omega)), Option.bind_some, c_number hT (x := 3) (w := 3) rfl (by omega) (by omega) (ho.2.2 3 (by omega) (by omega)), Option.bind_some, e1, Option.bind_some]
    · unfold fX5_perform_c17
      rw [fw0, Option.bind_some, if_pos (fun z => fst_f hD (by omega : 1 < 12) (by omega : 0 < 12) (by omega) hf ((hq 0 (by omega)).mp z)), fw1, Option.bind_some, if_neg (fun z => z ((hq 1 (by omega)).mpr hf)), hn, Option.bind_some, if_neg (by decide), if_pos (show kIn 1 40 = true by decide), if_pos (show kIn 2 40 = true by decide), if_pos (show kIn 3 40 = true by decide), v1, v2, v3, e2, Option.bind_some, e4, Option.bind_some]
  · have n1 : fX3_isCommand T 1 3 = some 0 := c_isCommand_f hT (p := 3) rfl (by omega) (by omega) ho
    have hn : fX5_hasNumbers M 3 = some 0 := m_hasNumbers_f hD (p := 3) rfl (by omega) (by omega) (fun z => ho ⟨z.1, hf.2, z.2⟩)
    refine ⟨-1000000006, 1, st, C, F, M.2.2.2.2.2.2.1, M.2.2.2.2.2.2.2.2.1, c_none n0 n1 n2 n3 n4 n5 n6 n7 (c_no8 hT (fun z => fst_f hD (by omega : 1 < 12) (by omega : 8 < 12) (by omega) hf z.2)), rfl, ?_, hM, hC, hI⟩
    unfold fX5_perform_c17
    rw [fw0, Option.bind_some, if_pos (fun z => fst_f hD (by omega : 1 < 12) (by omega : 0 < 12) (by omega) hf ((hq 0 (by omega)).mp z)), fw1, Option.bind_some, if_neg (fun z => z ((hq 1 (by omega)).mpr hf)), hn, Option.bind_some, if_pos rfl]
    rfl
theorem ex_count {st : Nat → Nat} {tx : Nat → Nat} {t c : Nat} {s e : Nat → Nat} {X : KX} {C : KC} {F : KF} {T : KT} {M : KM} {s0 : Int64} (hM : RM st M) (hC : RC st C) (hI : Inv st) (hT : RD tx t T c s e) (hD : MD tx t M c s e) (hr : ¬ M.2.2.1 = 0) (hq : ∀ q, q < 12 → (s0 = lN (HQ q) ↔ fstW tx c s e q)) (hf : fstW tx c s e 2) : ExB st X C F T M s0 := by
  have n0 : fX3_isCommand T 0 2 = some 0 := c_cmd_f hT (p := 2) rfl (by omega) (by omega) (fst_f hD (by omega : 2 < 12) (by omega : 0 < 12) (by omega) hf)
  have n1 : fX3_isCommand T 1 3 = some 0 := c_cmd_f hT (p := 3) rfl (by omega) (by omega) (fst_f hD (by omega : 2 < 12) (by omega : 1 < 12) (by omega) hf)
  have n3 : fX3_isCommand T 3 2 = some 0 := c_cmd_f hT (p := 2) rfl (by omega) (by omega) (fst_f hD (by omega : 2 < 12) (by omega : 3 < 12) (by omega) hf)
  have n4 : fX3_isCommand T 4 1 = some 0 := c_cmd_f hT (p := 1) rfl (by omega) (by omega) (fst_f hD (by omega : 2 < 12) (by omega : 4 < 12) (by omega) hf)
  have n5 : fX3_isCommand T 5 1 = some 0 := c_cmd_f hT (p := 1) rfl (by omega) (by omega) (fst_f hD (by omega : 2 < 12) (by omega : 5 < 12) (by omega) hf)
  have n6 : fX3_isCommand T 6 1 = some 0 := c_cmd_f hT (p := 1) rfl (by omega) (by omega) (fst_f hD (by omega : 2 < 12) (by omega : 6 < 12) (by omega) hf)
  have n7 : fX3_isCommand T 7 0 = some 0 := c_cmd_f hT (p := 0) rfl (by omega) (by omega) (fst_f hD (by omega : 2 < 12) (by omega : 7 < 12) (by omega) hf)
  by_cases ho : cmdOk tx c s e 2 2
  · have hcp := ho.1
    have y : fX3_isCommand T 2 2 = some 1 := c_isCommand_t hT (p := 2) rfl (by omega) (by omega) ho
    have v1 : M.2.2.2.2.2.2.2.2.2.2.2 ((1 : Int32).toNatClampNeg) = nI (valN tx (s 1) (e 1 - s 1)) := by
      rw [show (1 : Int32).toNatClampNeg = 1 from rfl, (hD.2.2.2 1 (by omega)).2.1]
      exact (nu_t (ho.2.2 1 (by omega) (by omega))).1
    have v2 : M.2.2.2.2.2.2.2.2.2.2.2 ((2 : Int32).toNatClampNeg) = nI (valN tx (s 2) (e 2 - s 2)) := by
      rw [show (2 : Int32).toNatClampNeg = 2 from rfl, (hD.2.2.2 2 (by omega)).2.1]
      exact (nu_t (ho.2.2 2 (by omega) (by omega))).1
    obtain ⟨p, r, st', C', w, th, e1, e2, e3, e4, e5, e6, e7⟩ := act_run (act_setCount (nI (valN tx (s 1) (e 1 - s 1))) (nI (valN tx (s 2) (e 2 - s 2)))) hM hC hI hr
    replace e1 : fX0_putCount C (nI (valN tx (s 1) (e 1 - s 1))) (nI (valN tx (s 2) (e 2 - s 2))) = some (p, C') := e1
    replace e2 : fX5_setCount M (nI (valN tx (s 1) (e 1 - s 1))) (nI (valN tx (s 2) (e 2 - s 2))) = some (p, mSet2 M w th) := e2
    have hn : fX5_hasNumbers M 2 = some 1 := m_hasNumbers_t hD (p := 2) rfl (by omega) hcp ho.2.2
    refine ⟨p, r, st', C', F, w, th, ?_, e3, ?_, e5, e6, e7⟩
    · unfold fX4_execute
      rw [n0, Option.bind_some, if_pos rfl, n1, Option.bind_some, if_pos rfl, y, Option.bind_some, if_neg (by decide), c_number hT (x := 1) (w := 1) rfl (by omega) (by omega) (ho.2.2 1 (by omega) (by omega)), Option.bind_some, c_number hT (x := 2) (w := 2) rfl (by omega) (by omega) (ho.2.2 2 (by omega) (by omega)), Option.bind_some, e1, Option.bind_some]
    · unfold fX5_perform_c17
      rw [fw0, Option.bind_some, if_pos (fun z => fst_f hD (by omega : 2 < 12) (by omega : 0 < 12) (by omega) hf ((hq 0 (by omega)).mp z)), fw1, Option.bind_some, if_pos (fun z => fst_f hD (by omega : 2 < 12) (by omega : 1 < 12) (by omega) hf ((hq 1 (by omega)).mp z)), fw2, Option.bind_some, if_neg (fun z => z ((hq 2 (by omega)).mpr hf)), hn, Option.bind_some, if_neg (by decide), if_pos (show kIn 1 40 = true by decide), if_pos (show kIn 2 40 = true by decide), v1, v2, e2, Option.bind_some, e4, Option.bind_some]
  · have n2 : fX3_isCommand T 2 2 = some 0 := c_isCommand_f hT (p := 2) rfl (by omega) (by omega) ho
    have hn : fX5_hasNumbers M 2 = some 0 := m_hasNumbers_f hD (p := 2) rfl (by omega) (by omega) (fun z => ho ⟨z.1, hf.2, z.2⟩)
    refine ⟨-1000000006, 1, st, C, F, M.2.2.2.2.2.2.1, M.2.2.2.2.2.2.2.2.1, c_none n0 n1 n2 n3 n4 n5 n6 n7 (c_no8 hT (fun z => fst_f hD (by omega : 2 < 12) (by omega : 8 < 12) (by omega) hf z.2)), rfl, ?_, hM, hC, hI⟩
    unfold fX5_perform_c17
    rw [fw0, Option.bind_some, if_pos (fun z => fst_f hD (by omega : 2 < 12) (by omega : 0 < 12) (by omega) hf ((hq 0 (by omega)).mp z)), fw1, Option.bind_some, if_pos (fun z => fst_f hD (by omega : 2 < 12) (by omega : 1 < 12) (by omega) hf ((hq 1 (by omega)).mp z)), fw2, Option.bind_some, if_neg (fun z => z ((hq 2 (by omega)).mpr hf)), hn, Option.bind_some, if_pos rfl]
    rfl
theorem ex_fix {st : Nat → Nat} {tx : Nat → Nat} {t c : Nat} {s e : Nat → Nat} {X : KX} {C : KC} {F : KF} {T : KT} {M : KM} {s0 : Int64} (hM : RM st M) (hC : RC st C) (hI : Inv st) (hT : RD tx t T c s e) (hD : MD tx t M c s e) (hr : ¬ M.2.2.1 = 0) (hq : ∀ q, q < 12 → (s0 = lN (HQ q) ↔ fstW tx c s e q)) (hf : fstW tx c s e 3) : ExB st X C F T M s0 := by
  have n0 : fX3_isCommand T 0 2 = some 0 := c_cmd_f hT (p := 2) rfl (by omega) (by omega) (fst_f hD (by omega : 3 < 12) (by omega : 0 < 12) (by omega) hf)
  have n1 : fX3_isCommand T 1 3 = some 0 := c_cmd_f hT (p := 3) rfl (by omega) (by omega) (fst_f hD (by omega : 3 < 12) (by omega : 1 < 12) (by omega) hf)
  have n2 : fX3_isCommand T 2 2 = some 0 := c_cmd_f hT (p := 2) rfl (by omega) (by omega) (fst_f hD (by omega : 3 < 12) (by omega : 2 < 12) (by omega) hf)
  have n4 : fX3_isCommand T 4 1 = some 0 := c_cmd_f hT (p := 1) rfl (by omega) (by omega) (fst_f hD (by omega : 3 < 12) (by omega : 4 < 12) (by omega) hf)
  have n5 : fX3_isCommand T 5 1 = some 0 := c_cmd_f hT (p := 1) rfl (by omega) (by omega) (fst_f hD (by omega : 3 < 12) (by omega : 5 < 12) (by omega) hf)
  have n6 : fX3_isCommand T 6 1 = some 0 := c_cmd_f hT (p := 1) rfl (by omega) (by omega) (fst_f hD (by omega : 3 < 12) (by omega : 6 < 12) (by omega) hf)
  have n7 : fX3_isCommand T 7 0 = some 0 := c_cmd_f hT (p := 0) rfl (by omega) (by omega) (fst_f hD (by omega : 3 < 12) (by omega : 7 < 12) (by omega) hf)
  by_cases ho : cmdOk tx c s e 3 2
  · have hcp := ho.1
    have y : fX3_isCommand T 3 2 = some 1 := c_isCommand_t hT (p := 2) rfl (by omega) (by omega) ho
    have v1 : M.2.2.2.2.2.2.2.2.2.2.2 ((1 : Int32).toNatClampNeg) = nI (valN tx (s 1) (e 1 - s 1)) := by
      rw [show (1 : Int32).toNatClampNeg = 1 from rfl, (hD.2.2.2 1 (by omega)).2.1]
      exact (nu_t (ho.2.2 1 (by omega) (by omega))).1
    have v2 : M.2.2.2.2.2.2.2.2.2.2.2 ((2 : Int32).toNatClampNeg) = nI (valN tx (s 2) (e 2 - s 2)) := by
      rw [show (2 : Int32).toNatClampNeg = 2 from rfl, (hD.2.2.2 2 (by omega)).2.1]
      exact (nu_t (ho.2.2 2 (by omega) (by omega))).1
    obtain ⟨p, r, st', C', w, th, e1, e2, e3, e4, e5, e6, e7⟩ := act_run (act_correct (nI (valN tx (s 1) (e 1 - s 1))) (nI (valN tx (s 2) (e 2 - s 2)))) hM hC hI hr
    replace e1 : fX0_putCorrection C (nI (valN tx (s 1) (e 1 - s 1))) (nI (valN tx (s 2) (e 2 - s 2))) = some (p, C') := e1
    replace e2 : fX5_correct M (nI (valN tx (s 1) (e 1 - s 1))) (nI (valN tx (s 2) (e 2 - s 2))) = some (p, mSet2 M w th) := e2
    have hn : fX5_hasNumbers M 2 = some 1 := m_hasNumbers_t hD (p := 2) rfl (by omega) hcp ho.2.2
    refine ⟨p, r, st', C', F, w, th, ?_, e3, ?_, e5, e6, e7⟩
    · unfold fX4_execute
      rw [n0, Option.bind_some, if_pos rfl, n1, Option.bind_some, if_pos rfl, n2, Option.bind_some, if_pos rfl, y, Option.bind_some, if_neg (by decide), c_number hT (x := 1) (w := 1) rfl (by omega) (by omega) (ho.2.2 1 (by omega) (by omega)), Option.bind_some, c_number hT (x := 2) (w := 2) rfl (by omega) (by omega) (ho.2.2 2 (by omega) (by omega)), Option.bind_some, e1, Option.bind_some]
    · unfold fX5_perform_c17
      rw [fw0, Option.bind_some, if_pos (fun z => fst_f hD (by omega : 3 < 12) (by omega : 0 < 12) (by omega) hf ((hq 0 (by omega)).mp z)), fw1, Option.bind_some, if_pos (fun z => fst_f hD (by omega : 3 < 12) (by omega : 1 < 12) (by omega) hf ((hq 1 (by omega)).mp z)), fw2, Option.bind_some, if_pos (fun z => fst_f hD (by omega : 3 < 12) (by omega : 2 < 12) (by omega) hf ((hq 2 (by omega)).mp z)), fw3, Option.bind_some, if_neg (fun z => z ((hq 3 (by omega)).mpr hf)), hn, Option.bind_some, if_neg (by decide), if_pos (show kIn 1 40 = true by decide), if_pos (show kIn 2 40 = true by decide), v1, v2, e2, Option.bind_some, e4, Option.bind_some]
  · have n3 : fX3_isCommand T 3 2 = some 0 := c_isCommand_f hT (p := 2) rfl (by omega) (by omega) ho
    have hn : fX5_hasNumbers M 2 = some 0 := m_hasNumbers_f hD (p := 2) rfl (by omega) (by omega) (fun z => ho ⟨z.1, hf.2, z.2⟩)
    refine ⟨-1000000006, 1, st, C, F, M.2.2.2.2.2.2.1, M.2.2.2.2.2.2.2.2.1, c_none n0 n1 n2 n3 n4 n5 n6 n7 (c_no8 hT (fun z => fst_f hD (by omega : 3 < 12) (by omega : 8 < 12) (by omega) hf z.2)), rfl, ?_, hM, hC, hI⟩
    unfold fX5_perform_c17
    rw [fw0, Option.bind_some, if_pos (fun z => fst_f hD (by omega : 3 < 12) (by omega : 0 < 12) (by omega) hf ((hq 0 (by omega)).mp z)), fw1, Option.bind_some, if_pos (fun z => fst_f hD (by omega : 3 < 12) (by omega : 1 < 12) (by omega) hf ((hq 1 (by omega)).mp z)), fw2, Option.bind_some, if_pos (fun z => fst_f hD (by omega : 3 < 12) (by omega : 2 < 12) (by omega) hf ((hq 2 (by omega)).mp z)), fw3, Option.bind_some, if_neg (fun z => z ((hq 3 (by omega)).mpr hf)), hn, Option.bind_some, if_pos rfl]
    rfl
theorem ex_bed {st : Nat → Nat} {tx : Nat → Nat} {t c : Nat} {s e : Nat → Nat} {X : KX} {C : KC} {F : KF} {T : KT} {M : KM} {s0 : Int64} (hM : RM st M) (hC : RC st C) (hI : Inv st) (hT : RD tx t T c s e) (hD : MD tx t M c s e) (hr : ¬ M.2.2.1 = 0) (hq : ∀ q, q < 12 → (s0 = lN (HQ q) ↔ fstW tx c s e q)) (hf : fstW tx c s e 4) : ExB st X C F T M s0 := by
  have n0 : fX3_isCommand T 0 2 = some 0 := c_cmd_f hT (p := 2) rfl (by omega) (by omega) (fst_f hD (by omega : 4 < 12) (by omega : 0 < 12) (by omega) hf)
  have n1 : fX3_isCommand T 1 3 = some 0 := c_cmd_f hT (p := 3) rfl (by omega) (by omega) (fst_f hD (by omega : 4 < 12) (by omega : 1 < 12) (by omega) hf)
  have n2 : fX3_isCommand T 2 2 = some 0 := c_cmd_f hT (p := 2) rfl (by omega) (by omega) (fst_f hD (by omega : 4 < 12) (by omega : 2 < 12) (by omega) hf)
  have n3 : fX3_isCommand T 3 2 = some 0 := c_cmd_f hT (p := 2) rfl (by omega) (by omega) (fst_f hD (by omega : 4 < 12) (by omega : 3 < 12) (by omega) hf)
  have n5 : fX3_isCommand T 5 1 = some 0 := c_cmd_f hT (p := 1) rfl (by omega) (by omega) (fst_f hD (by omega : 4 < 12) (by omega : 5 < 12) (by omega) hf)
  have n6 : fX3_isCommand T 6 1 = some 0 := c_cmd_f hT (p := 1) rfl (by omega) (by omega) (fst_f hD (by omega : 4 < 12) (by omega : 6 < 12) (by omega) hf)
  have n7 : fX3_isCommand T 7 0 = some 0 := c_cmd_f hT (p := 0) rfl (by omega) (by omega) (fst_f hD (by omega : 4 < 12) (by omega : 7 < 12) (by omega) hf)
  by_cases ho : cmdOk tx c s e 4 1
  · have hcp := ho.1
    have y : fX3_isCommand T 4 1 = some 1 := c_isCommand_t hT (p := 1) rfl (by omega) (by omega) ho
    have v1 : M.2.2.2.2.2.2.2.2.2.2.2 ((1 : Int32).toNatClampNeg) = nI (valN tx (s 1) (e 1 - s 1)) := by
      rw [show (1 : Int32).toNatClampNeg = 1 from rfl, (hD.2.2.2 1 (by omega)).2.1]
      exact (nu_t (ho.2.2 1 (by omega) (by omega))).1
    obtain ⟨p, r, st', C', w, th, e1, e2, e3, e4, e5, e6, e7⟩ := act_run (act_setBed (nI (valN tx (s 1) (e 1 - s 1)))) hM hC hI hr
    replace e1 : fX0_putBed C (nI (valN tx (s 1) (e 1 - s 1))) = some (p, C') := e1
    replace e2 : fX5_setBed M (nI (valN tx (s 1) (e 1 - s 1))) = some (p, mSet2 M w th) := e2
    have hn : fX5_hasNumbers M 1 = some 1 := m_hasNumbers_t hD (p := 1) rfl (by omega) hcp ho.2.2
    refine ⟨p, r, st', C', F, w, th, ?_, e3, ?_, e5, e6, e7⟩
    · unfold fX4_execute
      rw [n0, Option.bind_some, if_pos rfl, n1, Option.bind_some, if_pos rfl, n2, Option.bind_some, if_pos rfl, n3, Option.bind_some, if_pos rfl, y, Option.bind_some, if_neg (by decide), c_number hT (x := 1) (w := 1) rfl (by omega) (by omega) (ho.2.2 1 (by omega) (by omega)), Option.bind_some, e1, Option.bind_some]
    · unfold fX5_perform_c17
      rw [fw0, Option.bind_some, if_pos (fun z => fst_f hD (by omega : 4 < 12) (by omega : 0 < 12) (by omega) hf ((hq 0 (by omega)).mp z)), fw1, Option.bind_some, if_pos (fun z => fst_f hD (by omega : 4 < 12) (by omega : 1 < 12) (by omega) hf ((hq 1 (by omega)).mp z)), fw2, Option.bind_some, if_pos (fun z => fst_f hD (by omega : 4 < 12) (by omega : 2 < 12) (by omega) hf ((hq 2 (by omega)).mp z)), fw3, Option.bind_some, if_pos (fun z => fst_f hD (by omega : 4 < 12) (by omega : 3 < 12) (by omega) hf ((hq 3 (by omega)).mp z)), fw4, Option.bind_some, if_neg (fun z => z ((hq 4 (by omega)).mpr hf)), hn, Option.bind_some, if_neg (by decide), if_pos (show kIn 1 40 = true by decide), v1, e2, Option.bind_some, e4, Option.bind_some]
  · have n4 : fX3_isCommand T 4 1 = some 0 := c_isCommand_f hT (p := 1) rfl (by omega) (by omega) ho
    have hn : fX5_hasNumbers M 1 = some 0 := m_hasNumbers_f hD (p := 1) rfl (by omega) (by omega) (fun z => ho ⟨z.1, hf.2, z.2⟩)
    refine ⟨-1000000006, 1, st, C, F, M.2.2.2.2.2.2.1, M.2.2.2.2.2.2.2.2.1, c_none n0 n1 n2 n3 n4 n5 n6 n7 (c_no8 hT (fun z => fst_f hD (by omega : 4 < 12) (by omega : 8 < 12) (by omega) hf z.2)), rfl, ?_, hM, hC, hI⟩
    unfold fX5_perform_c17
    rw [fw0, Option.bind_some, if_pos (fun z => fst_f hD (by omega : 4 < 12) (by omega : 0 < 12) (by omega) hf ((hq 0 (by omega)).mp z)), fw1, Option.bind_some, if_pos (fun z => fst_f hD (by omega : 4 < 12) (by omega : 1 < 12) (by omega) hf ((hq 1 (by omega)).mp z)), fw2, Option.bind_some, if_pos (fun z => fst_f hD (by omega : 4 < 12) (by omega : 2 < 12) (by omega) hf ((hq 2 (by omega)).mp z)), fw3, Option.bind_some, if_pos (fun z => fst_f hD (by omega : 4 < 12) (by omega : 3 < 12) (by omega) hf ((hq 3 (by omega)).mp z)), fw4, Option.bind_some, if_neg (fun z => z ((hq 4 (by omega)).mpr hf)), hn, Option.bind_some, if_pos rfl]
    rfl
theorem ex_kink {st : Nat → Nat} {tx : Nat → Nat} {t c : Nat} {s e : Nat → Nat} {X : KX} {C : KC} {F : KF} {T : KT} {M : KM} {s0 : Int64} (hM : RM st M) (hC : RC st C) (hI : Inv st) (hT : RD tx t T c s e) (hD : MD tx t M c s e) (hr : ¬ M.2.2.1 = 0) (hq : ∀ q, q < 12 → (s0 = lN (HQ q) ↔ fstW tx c s e q)) (hf : fstW tx c s e 5) : ExB st X C F T M s0 := by
  have n0 : fX3_isCommand T 0 2 = some 0 := c_cmd_f hT (p := 2) rfl (by omega) (by omega) (fst_f hD (by omega : 5 < 12) (by omega : 0 < 12) (by omega) hf)
  have n1 : fX3_isCommand T 1 3 = some 0 := c_cmd_f hT (p := 3) rfl (by omega) (by omega) (fst_f hD (by omega : 5 < 12) (by omega : 1 < 12) (by omega) hf)
  have n2 : fX3_isCommand T 2 2 = some 0 := c_cmd_f hT (p := 2) rfl (by omega) (by omega) (fst_f hD (by omega : 5 < 12) (by omega : 2 < 12) (by omega) hf)
  have n3 : fX3_isCommand T 3 2 = some 0 := c_cmd_f hT (p := 2) rfl (by omega) (by omega) (fst_f hD (by omega : 5 < 12) (by omega : 3 < 12) (by omega) hf)
  have n4 : fX3_isCommand T 4 1 = some 0 := c_cmd_f hT (p := 1) rfl (by omega) (by omega) (fst_f hD (by omega : 5 < 12) (by omega : 4 < 12) (by omega) hf)
  have n6 : fX3_isCommand T 6 1 = some 0 := c_cmd_f hT (p := 1) rfl (by omega) (by omega) (fst_f hD (by omega : 5 < 12) (by omega : 6 < 12) (by omega) hf)
  have n7 : fX3_isCommand T 7 0 = some 0 := c_cmd_f hT (p := 0) rfl (by omega) (by omega) (fst_f hD (by omega : 5 < 12) (by omega : 7 < 12) (by omega) hf)
  by_cases ho : cmdOk tx c s e 5 1
  · have hcp := ho.1
    have y : fX3_isCommand T 5 1 = some 1 := c_isCommand_t hT (p := 1) rfl (by omega) (by omega) ho
    have v1 : M.2.2.2.2.2.2.2.2.2.2.2 ((1 : Int32).toNatClampNeg) = nI (valN tx (s 1) (e 1 - s 1)) := by
      rw [show (1 : Int32).toNatClampNeg = 1 from rfl, (hD.2.2.2 1 (by omega)).2.1]
      exact (nu_t (ho.2.2 1 (by omega) (by omega))).1
    obtain ⟨p, r, st', C', w, th, e1, e2, e3, e4, e5, e6, e7⟩ := act_run (act_setKink (nI (valN tx (s 1) (e 1 - s 1)))) hM hC hI hr
    replace e1 : fX0_putKink C (nI (valN tx (s 1) (e 1 - s 1))) = some (p, C') := e1
    replace e2 : fX5_setKink M (nI (valN tx (s 1) (e 1 - s 1))) = some (p, mSet2 M w th) := e2
    have hn : fX5_hasNumbers M 1 = some 1 := m_hasNumbers_t hD (p := 1) rfl (by omega) hcp ho.2.2
    refine ⟨p, r, st', C', F, w, th, ?_, e3, ?_, e5, e6, e7⟩
    · unfold fX4_execute
      rw [n0, Option.bind_some, if_pos rfl, n1, Option.bind_some, if_pos rfl, n2, Option.bind_some, if_pos rfl, n3, Option.bind_some, if_pos rfl, n4, Option.bind_some, if_pos rfl, y, Option.bind_some, if_neg (by decide), c_number hT (x := 1) (w := 1) rfl (by omega) (by omega) (ho.2.2 1 (by omega) (by omega)), Option.bind_some, e1, Option.bind_some]
    · unfold fX5_perform_c17
      rw [fw0, Option.bind_some, if_pos (fun z => fst_f hD (by omega : 5 < 12) (by omega : 0 < 12) (by omega) hf ((hq 0 (by omega)).mp z)), fw1, Option.bind_some, if_pos (fun z => fst_f hD (by omega : 5 < 12) (by omega : 1 < 12) (by omega) hf ((hq 1 (by omega)).mp z)), fw2, Option.bind_some, if_pos (fun z => fst_f hD (by omega : 5 < 12) (by omega : 2 < 12) (by omega) hf ((hq 2 (by omega)).mp z)), fw3, Option.bind_some, if_pos (fun z => fst_f hD (by omega : 5 < 12) (by omega : 3 < 12) (by omega) hf ((hq 3 (by omega)).mp z)), fw4, Option.bind_some, if_pos (fun z => fst_f hD (by omega : 5 < 12) (by omega : 4 < 12) (by omega) hf ((hq 4 (by omega)).mp z)), fw5, Option.bind_some, if_neg (fun z => z ((hq 5 (by omega)).mpr hf)), hn, Option.bind_some, if_neg (by decide), if_pos (show kIn 1 40 = true by decide), v1, e2, Option.bind_some, e4, Option.bind_some]
  · have n5 : fX3_isCommand T 5 1 = some 0 := c_isCommand_f hT (p := 1) rfl (by omega) (by omega) ho
    have hn : fX5_hasNumbers M 1 = some 0 := m_hasNumbers_f hD (p := 1) rfl (by omega) (by omega) (fun z => ho ⟨z.1, hf.2, z.2⟩)
    refine ⟨-1000000006, 1, st, C, F, M.2.2.2.2.2.2.1, M.2.2.2.2.2.2.2.2.1, c_none n0 n1 n2 n3 n4 n5 n6 n7 (c_no8 hT (fun z => fst_f hD (by omega : 5 < 12) (by omega : 8 < 12) (by omega) hf z.2)), rfl, ?_, hM, hC, hI⟩
    unfold fX5_perform_c17
    rw [fw0, Option.bind_some, if_pos (fun z => fst_f hD (by omega : 5 < 12) (by omega : 0 < 12) (by omega) hf ((hq 0 (by omega)).mp z)), fw1, Option.bind_some, if_pos (fun z => fst_f hD (by omega : 5 < 12) (by omega : 1 < 12) (by omega) hf ((hq 1 (by omega)).mp z)), fw2, Option.bind_some, if_pos (fun z => fst_f hD (by omega : 5 < 12) (by omega : 2 < 12) (by omega) hf ((hq 2 (by omega)).mp z)), fw3, Option.bind_some, if_pos (fun z => fst_f hD (by omega : 5 < 12) (by omega : 3 < 12) (by omega) hf ((hq 3 (by omega)).mp z)), fw4, Option.bind_some, if_pos (fun z => fst_f hD (by omega : 5 < 12) (by omega : 4 < 12) (by omega) hf ((hq 4 (by omega)).mp z)), fw5, Option.bind_some, if_neg (fun z => z ((hq 5 (by omega)).mpr hf)), hn, Option.bind_some, if_pos rfl]
    rfl
theorem ex_close {st : Nat → Nat} {tx : Nat → Nat} {t c : Nat} {s e : Nat → Nat} {X : KX} {C : KC} {F : KF} {T : KT} {M : KM} {s0 : Int64} (hM : RM st M) (hC : RC st C) (hI : Inv st) (hT : RD tx t T c s e) (hD : MD tx t M c s e) (hr : ¬ M.2.2.1 = 0) (hq : ∀ q, q < 12 → (s0 = lN (HQ q) ↔ fstW tx c s e q)) (hf : fstW tx c s e 6) : ExB st X C F T M s0 := by
  have n0 : fX3_isCommand T 0 2 = some 0 := c_cmd_f hT (p := 2) rfl (by omega) (by omega) (fst_f hD (by omega : 6 < 12) (by omega : 0 < 12) (by omega) hf)
  have n1 : fX3_isCommand T 1 3 = some 0 := c_cmd_f hT (p := 3) rfl (by omega) (by omega) (fst_f hD (by omega : 6 < 12) (by omega : 1 < 12) (by omega) hf)
  have n2 : fX3_isCommand T 2 2 = some 0 := c_cmd_f hT (p := 2) rfl (by omega) (by omega) (fst_f hD (by omega : 6 < 12) (by omega : 2 < 12) (by omega) hf)
  have n3 : fX3_isCommand T 3 2 = some 0 := c_cmd_f hT (p := 2) rfl (by omega) (by omega) (fst_f hD (by omega : 6 < 12) (by omega : 3 < 12) (by omega) hf)
  have n4 : fX3_isCommand T 4 1 = some 0 := c_cmd_f hT (p := 1) rfl (by omega) (by omega) (fst_f hD (by omega : 6 < 12) (by omega : 4 < 12) (by omega) hf)
  have n5 : fX3_isCommand T 5 1 = some 0 := c_cmd_f hT (p := 1) rfl (by omega) (by omega) (fst_f hD (by omega : 6 < 12) (by omega : 5 < 12) (by omega) hf)
  have n7 : fX3_isCommand T 7 0 = some 0 := c_cmd_f hT (p := 0) rfl (by omega) (by omega) (fst_f hD (by omega : 6 < 12) (by omega : 7 < 12) (by omega) hf)
  by_cases ho : cmdOk tx c s e 6 1
  · have hcp := ho.1
    have y : fX3_isCommand T 6 1 = some 1 := c_isCommand_t hT (p := 1) rfl (by omega) (by omega) ho
    have v1 : M.2.2.2.2.2.2.2.2.2.2.2 ((1 : Int32).toNatClampNeg) = nI (valN tx (s 1) (e 1 - s 1)) := by
      rw [show (1 : Int32).toNatClampNeg = 1 from rfl, (hD.2.2.2 1 (by omega)).2.1]
      exact (nu_t (ho.2.2 1 (by omega) (by omega))).1
    obtain ⟨p, r, st', C', w, th, e1, e2, e3, e4, e5, e6, e7⟩ := act_run (act_setCloseOff (nI (valN tx (s 1) (e 1 - s 1)))) hM hC hI hr
    replace e1 : fX0_putCloseOff C (nI (valN tx (s 1) (e 1 - s 1))) = some (p, C') := e1
    replace e2 : fX5_setCloseOff M (nI (valN tx (s 1) (e 1 - s 1))) = some (p, mSet2 M w th) := e2
    have hn : fX5_hasNumbers M 1 = some 1 := m_hasNumbers_t hD (p := 1) rfl (by omega) hcp ho.2.2
    refine ⟨p, r, st', C', F, w, th, ?_, e3, ?_, e5, e6, e7⟩
    · unfold fX4_execute
      rw [n0, Option.bind_some, if_pos rfl, n1, Option.bind_some, if_pos rfl, n2, Option.bind_some, if_pos rfl, n3, Option.bind_some, if_pos rfl, n4, Option.bind_some, if_pos rfl, n5, Option.bind_some, if_pos rfl, y, Option.bind_some, if_neg (by decide), c_number hT (x := 1) (w := 1) rfl (by omega) (by omega) (ho.2.2 1 (by omega) (by omega)), Option.bind_some, e1, Option.bind_some]
    · unfold fX5_perform_c17
      rw [fw0, Option.bind_some, if_pos (fun z => fst_f hD (by omega : 6 < 12) (by omega : 0 < 12) (by omega) hf ((hq 0 (by omega)).mp z)), fw1, Option.bind_some, if_pos (fun z => fst_f hD (by omega : 6 < 12) (by omega : 1 < 12) (by omega) hf ((hq 1 (by omega)).mp z)), fw2, Option.bind_some, if_pos (fun z => fst_f hD (by omega : 6 < 12) (by omega : 2 < 12) (by omega) hf ((hq 2 (by omega)).mp z)), fw3, Option.bind_some, if_pos (fun z => fst_f hD (by omega : 6 < 12) (by omega : 3 < 12) (by omega) hf ((hq 3 (by omega)).mp z)), fw4, Option.bind_some, if_pos (fun z => fst_f hD (by omega : 6 < 12) (by omega : 4 < 12) (by omega) hf ((hq 4 (by omega)).mp z)), fw5, Option.bind_some, if_pos (fun z => fst_f hD (by omega : 6 < 12) (by omega : 5 < 12) (by omega) hf ((hq 5 (by omega)).mp z)), fw6, Option.bind_some, if_neg (fun z => z ((hq 6 (by omega)).mpr hf)), hn, Option.bind_some, if_neg (by decide), if_pos (show kIn 1 40 = true by decide), v1, e2, Option.bind_some, e4, Option.bind_some]
  · have n6 : fX3_isCommand T 6 1 = some 0 := c_isCommand_f hT (p := 1) rfl (by omega) (by omega) ho
    have hn : fX5_hasNumbers M 1 = some 0 := m_hasNumbers_f hD (p := 1) rfl (by omega) (by omega) (fun z => ho ⟨z.1, hf.2, z.2⟩)
    refine ⟨-1000000006, 1, st, C, F, M.2.2.2.2.2.2.1, M.2.2.2.2.2.2.2.2.1, c_none n0 n1 n2 n3 n4 n5 n6 n7 (c_no8 hT (fun z => fst_f hD (by omega : 6 < 12) (by omega : 8 < 12) (by omega) hf z.2)), rfl, ?_, hM, hC, hI⟩
    unfold fX5_perform_c17
    rw [fw0, Option.bind_some, if_pos (fun z => fst_f hD (by omega : 6 < 12) (by omega : 0 < 12) (by omega) hf ((hq 0 (by omega)).mp z)), fw1, Option.bind_some, if_pos (fun z => fst_f hD (by omega : 6 < 12) (by omega : 1 < 12) (by omega) hf ((hq 1 (by omega)).mp z)), fw2, Option.bind_some, if_pos (fun z => fst_f hD (by omega : 6 < 12) (by omega : 2 < 12) (by omega) hf ((hq 2 (by omega)).mp z)), fw3, Option.bind_some, if_pos (fun z => fst_f hD (by omega : 6 < 12) (by omega : 3 < 12) (by omega) hf ((hq 3 (by omega)).mp z)), fw4, Option.bind_some, if_pos (fun z => fst_f hD (by omega : 6 < 12) (by omega : 4 < 12) (by omega) hf ((hq 4 (by omega)).mp z)), fw5, Option.bind_some, if_pos (fun z => fst_f hD (by omega : 6 < 12) (by omega : 5 < 12) (by omega) hf ((hq 5 (by omega)).mp z)), fw6, Option.bind_some, if_neg (fun z => z ((hq 6 (by omega)).mpr hf)), hn, Option.bind_some, if_pos rfl]
    rfl
theorem ex_tune {st : Nat → Nat} {tx : Nat → Nat} {t c : Nat} {s e : Nat → Nat} {X : KX} {C : KC} {F : KF} {T : KT} {M : KM} {s0 : Int64} (hM : RM st M) (hC : RC st C) (hI : Inv st) (hT : RD tx t T c s e) (hD : MD tx t M c s e) (hr : ¬ M.2.2.1 = 0) (hq : ∀ q, q < 12 → (s0 = lN (HQ q) ↔ fstW tx c s e q)) (hf : fstW tx c s e 7) : ExB st X C F T M s0 := by
  have n0 : fX3_isCommand T 0 2 = some 0 := c_cmd_f hT (p := 2) rfl (by omega) (by omega) (fst_f hD (by omega : 7 < 12) (by omega : 0 < 12) (by omega) hf)
  have n1 : fX3_isCommand T 1 3 = some 0 := c_cmd_f hT (p := 3) rfl (by omega) (by omega) (fst_f hD (by omega : 7 < 12) (by omega : 1 < 12) (by omega) hf)
  have n2 : fX3_isCommand T 2 2 = some 0 := c_cmd_f hT (p := 2) rfl (by omega) (by omega) (fst_f hD (by omega : 7 < 12) (by omega : 2 < 12) (by omega) hf)
  have n3 : fX3_isCommand T 3 2 = some 0 := c_cmd_f hT (p := 2) rfl (by omega) (by omega) (fst_f hD (by omega : 7 < 12) (by omega : 3 < 12) (by omega) hf)
  have n4 : fX3_isCommand T 4 1 = some 0 := c_cmd_f hT (p := 1) rfl (by omega) (by omega) (fst_f hD (by omega : 7 < 12) (by omega : 4 < 12) (by omega) hf)
  have n5 : fX3_isCommand T 5 1 = some 0 := c_cmd_f hT (p := 1) rfl (by omega) (by omega) (fst_f hD (by omega : 7 < 12) (by omega : 5 < 12) (by omega) hf)
  have n6 : fX3_isCommand T 6 1 = some 0 := c_cmd_f hT (p := 1) rfl (by omega) (by omega) (fst_f hD (by omega : 7 < 12) (by omega : 6 < 12) (by omega) hf)
  have hc1 := hD.1
  have hc2 := hD.2.1
  by_cases h1 : c = 1
  · have y : fX3_isCommand T 7 0 = some 1 := c_isCommand_t hT (p := 0) rfl (by omega) (by omega) ⟨h1, hf.2, fun i a b => absurd b (by omega)⟩
    obtain ⟨p, r, st', C', F', w, th, e1, e2, e3, e4, e5, e6, e7⟩ := tune_run (F := F) hM hC hI hr
    refine ⟨p, r, st', C', F', w, th, ?_, e3, ?_, e5, e6, e7⟩
    · unfold fX4_execute
      rw [n0, Option.bind_some, if_pos rfl, n1, Option.bind_some, if_pos rfl, n2, Option.bind_some, if_pos rfl, n3, Option.bind_some, if_pos rfl, n4, Option.bind_some, if_pos rfl, n5, Option.bind_some, if_pos rfl, n6, Option.bind_some, if_pos rfl, y, Option.bind_some, if_neg (by decide), e1, Option.bind_some]
    · unfold fX5_perform_c17
      rw [fw0, Option.bind_some, if_pos (fun z => fst_f hD (by omega : 7 < 12) (by omega : 0 < 12) (by omega) hf ((hq 0 (by omega)).mp z)), fw1, Option.bind_some, if_pos (fun z => fst_f hD (by omega : 7 < 12) (by omega : 1 < 12) (by omega) hf ((hq 1 (by omega)).mp z)), fw2, Option.bind_some, if_pos (fun z => fst_f hD (by omega : 7 < 12) (by omega : 2 < 12) (by omega) hf ((hq 2 (by omega)).mp z)), fw3, Option.bind_some, if_pos (fun z => fst_f hD (by omega : 7 < 12) (by omega : 3 < 12) (by omega) hf ((hq 3 (by omega)).mp z)), fw4, Option.bind_some, if_pos (fun z => fst_f hD (by omega : 7 < 12) (by omega : 4 < 12) (by omega) hf ((hq 4 (by omega)).mp z)), fw5, Option.bind_some, if_pos (fun z => fst_f hD (by omega : 7 < 12) (by omega : 5 < 12) (by omega) hf ((hq 5 (by omega)).mp z)), fw6, Option.bind_some, if_pos (fun z => fst_f hD (by omega : 7 < 12) (by omega : 6 < 12) (by omega) hf ((hq 6 (by omega)).mp z)), fw8, Option.bind_some, if_pos (fun z => fst_f hD (by omega : 7 < 12) (by omega : 8 < 12) (by omega) hf ((hq 8 (by omega)).mp z)), fw7, Option.bind_some, if_neg (fun z => z ((hq 7 (by omega)).mpr hf)), if_neg (by rw [hc1, h1]; exact fun z => z rfl), e2, Option.bind_some, e4, Option.bind_some]
  · have n7 : fX3_isCommand T 7 0 = some 0 := c_isCommand_f hT (p := 0) rfl (by omega) (by omega) (fun z => h1 z.1)
    refine ⟨-1000000006, 1, st, C, F, M.2.2.2.2.2.2.1, M.2.2.2.2.2.2.2.2.1, c_none n0 n1 n2 n3 n4 n5 n6 n7 (c_no8 hT (fun z => fst_f hD (by omega : 7 < 12) (by omega : 8 < 12) (by omega) hf z.2)), rfl, ?_, hM, hC, hI⟩
    unfold fX5_perform_c17
    rw [fw0, Option.bind_some, if_pos (fun z => fst_f hD (by omega : 7 < 12) (by omega : 0 < 12) (by omega) hf ((hq 0 (by omega)).mp z)), fw1, Option.bind_some, if_pos (fun z => fst_f hD (by omega : 7 < 12) (by omega : 1 < 12) (by omega) hf ((hq 1 (by omega)).mp z)), fw2, Option.bind_some, if_pos (fun z => fst_f hD (by omega : 7 < 12) (by omega : 2 < 12) (by omega) hf ((hq 2 (by omega)).mp z)), fw3, Option.bind_some, if_pos (fun z => fst_f hD (by omega : 7 < 12) (by omega : 3 < 12) (by omega) hf ((hq 3 (by omega)).mp z)), fw4, Option.bind_some, if_pos (fun z => fst_f hD (by omega : 7 < 12) (by omega : 4 < 12) (by omega) hf ((hq 4 (by omega)).mp z)), fw5, Option.bind_some, if_pos (fun z => fst_f hD (by omega : 7 < 12) (by omega : 5 < 12) (by omega) hf ((hq 5 (by omega)).mp z)), fw6, Option.bind_some, if_pos (fun z => fst_f hD (by omega : 7 < 12) (by omega : 6 < 12) (by omega) hf ((hq 6 (by omega)).mp z)), fw8, Option.bind_some, if_pos (fun z => fst_f hD (by omega : 7 < 12) (by omega : 8 < 12) (by omega) hf ((hq 8 (by omega)).mp z)), fw7, Option.bind_some, if_neg (fun z => z ((hq 7 (by omega)).mpr hf)), if_pos (by rw [hc1, show (1 : Int32) = nI 1 from rfl, k_eq (by omega) (by omega)]; exact h1)]
    rfl
theorem ex_none {st : Nat → Nat} {tx : Nat → Nat} {t c : Nat} {s e : Nat → Nat} {X : KX} {C : KC} {F : KF} {T : KT} {M : KM} {s0 : Int64} (hM : RM st M) (hC : RC st C) (hI : Inv st) (hT : RD tx t T c s e) (hD : MD tx t M c s e) (hr : ¬ M.2.2.1 = 0) (hq : ∀ q, q < 12 → (s0 = lN (HQ q) ↔ fstW tx c s e q)) (hf : ∀ q, q < 9 → ¬ fstW tx c s e q) : ExB st X C F T M s0 := by
  have n0 : fX3_isCommand T 0 2 = some 0 := c_cmd_f hT (p := 2) rfl (by omega) (by omega) (hf 0 (by omega))
  have n1 : fX3_isCommand T 1 3 = some 0 := c_cmd_f hT (p := 3) rfl (by omega) (by omega) (hf 1 (by omega))
  have n2 : fX3_isCommand T 2 2 = some 0 := c_cmd_f hT (p := 2) rfl (by omega) (by omega) (hf 2 (by omega))
  have n3 : fX3_isCommand T 3 2 = some 0 := c_cmd_f hT (p := 2) rfl (by omega) (by omega) (hf 3 (by omega))
  have n4 : fX3_isCommand T 4 1 = some 0 := c_cmd_f hT (p := 1) rfl (by omega) (by omega) (hf 4 (by omega))
  have n5 : fX3_isCommand T 5 1 = some 0 := c_cmd_f hT (p := 1) rfl (by omega) (by omega) (hf 5 (by omega))
  have n6 : fX3_isCommand T 6 1 = some 0 := c_cmd_f hT (p := 1) rfl (by omega) (by omega) (hf 6 (by omega))
  have n7 : fX3_isCommand T 7 0 = some 0 := c_cmd_f hT (p := 0) rfl (by omega) (by omega) (hf 7 (by omega))
  refine ⟨-1000000006, 1, st, C, F, M.2.2.2.2.2.2.1, M.2.2.2.2.2.2.2.2.1, c_none n0 n1 n2 n3 n4 n5 n6 n7 (c_no8 hT (fun z => hf 8 (by omega) z.2)), rfl, ?_, hM, hC, hI⟩
  unfold fX5_perform_c17
  rw [fw0, Option.bind_some, if_pos (fun z => hf 0 (by omega) ((hq 0 (by omega)).mp z)), fw1, Option.bind_some, if_pos (fun z => hf 1 (by omega) ((hq 1 (by omega)).mp z)), fw2, Option.bind_some, if_pos (fun z => hf 2 (by omega) ((hq 2 (by omega)).mp z)), fw3, Option.bind_some, if_pos (fun z => hf 3 (by omega) ((hq 3 (by omega)).mp z)), fw4, Option.bind_some, if_pos (fun z => hf 4 (by omega) ((hq 4 (by omega)).mp z)), fw5, Option.bind_some, if_pos (fun z => hf 5 (by omega) ((hq 5 (by omega)).mp z)), fw6, Option.bind_some, if_pos (fun z => hf 6 (by omega) ((hq 6 (by omega)).mp z)), fw8, Option.bind_some, if_pos (fun z => hf 8 (by omega) ((hq 8 (by omega)).mp z)), fw7, Option.bind_some, if_pos (fun z => hf 7 (by omega) ((hq 7 (by omega)).mp z))]
  rfl
theorem ex_use {st : Nat → Nat} {tx : Nat → Nat} {t c : Nat} {s e : Nat → Nat} {X : KX} {C : KC} {F : KF} {T : KT} {M : KM} {s0 : Int64} (hM : RM st M) (hC : RC st C) (hI : Inv st) (hT : RD tx t T c s e) (hD : MD tx t M c s e) (hr : ¬ M.2.2.1 = 0) (hq : ∀ q, q < 12 → (s0 = lN (HQ q) ↔ fstW tx c s e q)) (hf : fstW tx c s e 8) : ExB st X C F T M s0 := by
  have n0 : fX3_isCommand T 0 2 = some 0 := c_cmd_f hT (p := 2) rfl (by omega) (by omega) (fst_f hD (by omega : 8 < 12) (by omega : 0 < 12) (by omega) hf)
  have n1 : fX3_isCommand T 1 3 = some 0 := c_cmd_f hT (p := 3) rfl (by omega) (by omega) (fst_f hD (by omega : 8 < 12) (by omega : 1 < 12) (by omega) hf)
  have n2 : fX3_isCommand T 2 2 = some 0 := c_cmd_f hT (p := 2) rfl (by omega) (by omega) (fst_f hD (by omega : 8 < 12) (by omega : 2 < 12) (by omega) hf)
  have n3 : fX3_isCommand T 3 2 = some 0 := c_cmd_f hT (p := 2) rfl (by omega) (by omega) (fst_f hD (by omega : 8 < 12) (by omega : 3 < 12) (by omega) hf)
  have n4 : fX3_isCommand T 4 1 = some 0 := c_cmd_f hT (p := 1) rfl (by omega) (by omega) (fst_f hD (by omega : 8 < 12) (by omega : 4 < 12) (by omega) hf)
  have n5 : fX3_isCommand T 5 1 = some 0 := c_cmd_f hT (p := 1) rfl (by omega) (by omega) (fst_f hD (by omega : 8 < 12) (by omega : 5 < 12) (by omega) hf)
  have n6 : fX3_isCommand T 6 1 = some 0 := c_cmd_f hT (p := 1) rfl (by omega) (by omega) (fst_f hD (by omega : 8 < 12) (by omega : 6 < 12) (by omega) hf)
  have n7 : fX3_isCommand T 7 0 = some 0 := c_cmd_f hT (p := 0) rfl (by omega) (by omega) (fst_f hD (by omega : 8 < 12) (by omega : 7 < 12) (by omega) hf)
  have hc1 := hD.1
  have hc2 := hD.2.1
  have k1 : kIn 1 40 = true := by decide
  by_cases h2 : c = 2
  · have hT2 : ¬ ¬ T.2.1 = (2 : Int32) := by
      rw [hT.2.1, h2]
      exact fun z => z rfl
    have hM2 : ¬ ¬ M.2.2.2.2.2.1 = (2 : Int32) := by
      rw [hc1, h2]
      exact fun z => z rfl
    obtain ⟨m1, m2, m3, m4⟩ := hD.2.2.2 1 (by omega)
    have hw : ∀ q, q < 12 → (M.2.2.2.2.2.2.2.2.2.2.1 (1 : Int32).toNatClampNeg = lN (HQ q) ↔ spW tx (s 1) (e 1) q) := by
      intro q hq
      rw [k_c1, m1]
      exact hs_iff hq m3 (fun k hk => hD.2.2.1 _ (by omega))
    by_cases hs9 : spW tx (s 1) (e 1) 9
    · --
      obtain ⟨p, r, st', C', w, th, e1, e2, e3, e4, e5, e6, e7⟩ := act_run (act_setFunction 0) hM hC hI hr
      replace e1 : fX0_putFunction C 0 = some (p, C') := e1
      replace e2 : fX5_setFunction M 0 = some (p, mSet2 M w th) := e2
      refine ⟨p, r, st', C', F, w, th, ?_, e3, ?_, e5, e6, e7⟩
      · unfold fX4_execute
        rw [n0, Option.bind_some, if_pos rfl, n1, Option.bind_some, if_pos rfl, n2, Option.bind_some, if_pos rfl, n3, Option.bind_some, if_pos rfl, n4, Option.bind_some, if_pos rfl, n5, Option.bind_some, if_pos rfl, n6, Option.bind_some, if_pos rfl, n7, Option.bind_some, if_pos rfl]
        unfold fX4_executeUse
        rw [if_neg hT2, c_isWord_t hT (x := 0) (w := 0) rfl (by omega) (by omega : 8 < 12) (by omega) hf.2, Option.bind_some, if_pos (by decide), c_isWord_t hT (x := 1) (w := 1) rfl (by omega) (by omega : 9 < 12) (by omega) hs9, Option.bind_some, if_neg (by decide), e1, Option.bind_some, Option.bind_some]
      · unfold fX5_perform_c17
        rw [fw0, Option.bind_some, if_pos (fun z => fst_f hD (by omega : 8 < 12) (by omega : 0 < 12) (by omega) hf ((hq 0 (by omega)).mp z)), fw1, Option.bind_some, if_pos (fun z => fst_f hD (by omega : 8 < 12) (by omega : 1 < 12) (by omega) hf ((hq 1 (by omega)).mp z)), fw2, Option.bind_some, if_pos (fun z => fst_f hD (by omega : 8 < 12) (by omega : 2 < 12) (by omega) hf ((hq 2 (by omega)).mp z)), fw3, Option.bind_some, if_pos (fun z => fst_f hD (by omega : 8 < 12) (by omega : 3 < 12) (by omega) hf ((hq 3 (by omega)).mp z)), fw4, Option.bind_some, if_pos (fun z => fst_f hD (by omega : 8 < 12) (by omega : 4 < 12) (by omega) hf ((hq 4 (by omega)).mp z)), fw5, Option.bind_some, if_pos (fun z => fst_f hD (by omega : 8 < 12) (by omega : 5 < 12) (by omega) hf ((hq 5 (by omega)).mp z)), fw6, Option.bind_some, if_pos (fun z => fst_f hD (by omega : 8 < 12) (by omega : 6 < 12) (by omega) hf ((hq 6 (by omega)).mp z)), fw8, Option.bind_some, if_neg (fun z => z ((hq 8 (by omega)).mpr hf))]
        unfold fX5_use
        rw [if_pos k1, fw9, Option.bind_some, if_neg (fun z => z ((hw 9 (by omega)).mpr hs9))]
        unfold fX5_use_c87
        rw [if_neg hM2, if_pos (by decide), e2, Option.bind_some, e4, Option.bind_some, Option.bind_some]
    · have w9 : ¬ (1 < c ∧ spW tx (s 1) (e 1) 9) := fun z => hs9 z.2
      by_cases hs10 : spW tx (s 1) (e 1) 10
      · --
        obtain ⟨p, r, st', C', w, th, e1, e2, e3, e4, e5, e6, e7⟩ := act_run (act_setFunction 1) hM hC hI hr
        replace e1 : fX0_putFunction C 1 = some (p, C') := e1
        replace e2 : fX5_setFunction M 1 = some (p, mSet2 M w th) := e2
        refine ⟨p, r, st', C', F, w, th, ?_, e3, ?_, e5, e6, e7⟩
        · unfold fX4_execute
          rw [n0, Option.bind_some, if_pos rfl, n1, Option.bind_some, if_pos rfl, n2, Option.bind_some, if_pos rfl, n3, Option.bind_some, if_pos rfl, n4, Option.bind_some, if_pos rfl, n5, Option.bind_some, if_pos rfl, n6, Option.bind_some, if_pos rfl, n7, Option.bind_some, if_pos rfl]
          unfold fX4_executeUse
          rw [if_neg hT2, c_isWord_t hT (x := 0) (w := 0) rfl (by omega) (by omega : 8 < 12) (by omega) hf.2, Option.bind_some, if_pos (by decide), c_isWord_f hT (x := 1) (w := 1) rfl (by omega) (by omega : 9 < 12) (w9), Option.bind_some, if_pos rfl, c_isWord_t hT (x := 1) (w := 1) rfl (by omega) (by omega : 10 < 12) (by omega) hs10, Option.bind_some, if_neg (by decide), e1, Option.bind_some, Option.bind_some]
        · unfold fX5_perform_c17
          rw [fw0, Option.bind_some, if_pos (fun z => fst_f hD (by omega : 8 < 12) (by omega : 0 < 12) (by omega) hf ((hq 0 (by omega)).mp z)), fw1, Option.bind_some, if_pos (fun z => fst_f hD (by omega : 8 < 12) (by omega : 1 < 12) (by omega) hf ((hq 1 (by omega)).mp z)), fw2, Option.bind_some, if_pos (fun z => fst_f hD (by omega : 8 < 12) (by omega : 2 < 12) (by omega) hf ((hq 2 (by omega)).mp z)), fw3, Option.bind_some, if_pos (fun z => fst_f hD (by omega : 8 < 12) (by omega : 3 < 12) (by omega) hf ((hq 3 (by omega)).mp z)), fw4, Option.bind_some, if_pos (fun z => fst_f hD (by omega : 8 < 12) (by omega : 4 < 12) (by omega) hf ((hq 4 (by omega)).mp z)), fw5, Option.bind_some, if_pos (fun z => fst_f hD (by omega : 8 < 12) (by omega : 5 < 12) (by omega) hf ((hq 5 (by omega)).mp z)), fw6, Option.bind_some, if_pos (fun z => fst_f hD (by omega : 8 < 12) (by omega : 6 < 12) (by omega) hf ((hq 6 (by omega)).mp z)), fw8, Option.bind_some, if_neg (fun z => z ((hq 8 (by omega)).mpr hf))]
          unfold fX5_use
          rw [if_pos k1, fw9, Option.bind_some, if_pos (fun z => w9 ⟨by omega, (hw 9 (by omega)).mp z⟩), if_pos k1, fw10, Option.bind_some, if_neg (fun z => z ((hw 10 (by omega)).mpr hs10))]
          unfold fX5_use_c87
          rw [if_neg hM2, if_pos (by decide), e2, Option.bind_some, e4, Option.bind_some, Option.bind_some]
      · have w10 : ¬ (1 < c ∧ spW tx (s 1) (e 1) 10) := fun z => hs10 z.2
        by_cases hs11 : spW tx (s 1) (e 1) 11
        · --
          obtain ⟨p, r, st', C', w, th, e1, e2, e3, e4, e5, e6, e7⟩ := act_run (act_setFunction 2) hM hC hI hr
          replace e1 : fX0_putFunction C 2 = some (p, C') := e1
          replace e2 : fX5_setFunction M 2 = some (p, mSet2 M w th) := e2
          refine ⟨p, r, st', C', F, w, th, ?_, e3, ?_, e5, e6, e7⟩
          · unfold fX4_execute
            rw [n0, Option.bind_some, if_pos rfl, n1, Option.bind_some, if_pos rfl, n2, Option.bind_some, if_pos rfl, n3, Option.bind_some, if_pos rfl, n4, Option.bind_some, if_pos rfl, n5, Option.bind_some, if_pos rfl, n6, Option.bind_some, if_pos rfl, n7, Option.bind_some, if_pos rfl]
            unfold fX4_executeUse
            rw [if_neg hT2, c_isWord_t hT (x := 0) (w := 0) rfl (by omega) (by omega : 8 < 12) (by omega) hf.2, Option.bind_some, if_pos (by decide), c_isWord_f hT (x := 1) (w := 1) rfl (by omega) (by omega : 9 < 12) (w9), Option.bind_some, if_pos rfl, c_isWord_f hT (x := 1) (w := 1) rfl (by omega) (by omega : 10 < 12) (w10), Option.bind_some, if_pos rfl, c_isWord_t hT (x := 1) (w := 1) rfl (by omega) (by omega : 11 < 12) (by omega) hs11, Option.bind_some, if_neg (by decide), e1, Option.bind_some, Option.bind_some]
          · unfold fX5_perform_c17
            rw [fw0, Option.bind_some, if_pos (fun z => fst_f hD (by omega : 8 < 12) (by omega : 0 < 12) (by omega) hf ((hq 0 (by omega)).mp z)), fw1, Option.bind_some, if_pos (fun z => fst_f hD (by omega : 8 < 12) (by omega : 1 < 12) (by omega) hf ((hq 1 (by omega)).mp z)), fw2, Option.bind_some, if_pos (fun z => fst_f hD (by omega : 8 < 12) (by omega : 2 < 12) (by omega) hf ((hq 2 (by omega)).mp z)), fw3, Option.bind_some, if_pos (fun z => fst_f hD (by omega : 8 < 12) (by omega : 3 < 12) (by omega) hf ((hq 3 (by omega)).mp z)), fw4, Option.bind_some, if_pos (fun z => fst_f hD (by omega : 8 < 12) (by omega : 4 < 12) (by omega) hf ((hq 4 (by omega)).mp z)), fw5, Option.bind_some, if_pos (fun z => fst_f hD (by omega : 8 < 12) (by omega : 5 < 12) (by omega) hf ((hq 5 (by omega)).mp z)), fw6, Option.bind_some, if_pos (fun z => fst_f hD (by omega : 8 < 12) (by omega : 6 < 12) (by omega) hf ((hq 6 (by omega)).mp z)), fw8, Option.bind_some, if_neg (fun z => z ((hq 8 (by omega)).mpr hf))]
            unfold fX5_use
            rw [if_pos k1, fw9, Option.bind_some, if_pos (fun z => w9 ⟨by omega, (hw 9 (by omega)).mp z⟩), if_pos k1, fw10, Option.bind_some, if_pos (fun z => w10 ⟨by omega, (hw 10 (by omega)).mp z⟩), if_pos k1, fw11, Option.bind_some, if_neg (fun z => z ((hw 11 (by omega)).mpr hs11))]
            unfold fX5_use_c87
            rw [if_neg hM2, if_pos (by decide), e2, Option.bind_some, e4, Option.bind_some, Option.bind_some]
        · have w11 : ¬ (1 < c ∧ spW tx (s 1) (e 1) 11) := fun z => hs11 z.2
          refine ⟨-1000000006, 1, st, C, F, M.2.2.2.2.2.2.1, M.2.2.2.2.2.2.2.2.1, c_none n0 n1 n2 n3 n4 n5 n6 n7 ?_, rfl, ?_, hM, hC, hI⟩
          · unfold fX4_executeUse
            rw [if_neg hT2, c_isWord_t hT (x := 0) (w := 0) rfl (by omega) (by omega : 8 < 12) (by omega) hf.2, Option.bind_some, if_pos (by decide), c_isWord_f hT (x := 1) (w := 1) rfl (by omega) (by omega : 9 < 12) w9, Option.bind_some, if_pos rfl, c_isWord_f hT (x := 1) (w := 1) rfl (by omega) (by omega : 10 < 12) w10, Option.bind_some, if_pos rfl, c_isWord_f hT (x := 1) (w := 1) rfl (by omega) (by omega : 11 < 12) w11, Option.bind_some, if_pos rfl]
          · unfold fX5_perform_c17
            rw [fw0, Option.bind_some, if_pos (fun z => fst_f hD (by omega : 8 < 12) (by omega : 0 < 12) (by omega) hf ((hq 0 (by omega)).mp z)), fw1, Option.bind_some, if_pos (fun z => fst_f hD (by omega : 8 < 12) (by omega : 1 < 12) (by omega) hf ((hq 1 (by omega)).mp z)), fw2, Option.bind_some, if_pos (fun z => fst_f hD (by omega : 8 < 12) (by omega : 2 < 12) (by omega) hf ((hq 2 (by omega)).mp z)), fw3, Option.bind_some, if_pos (fun z => fst_f hD (by omega : 8 < 12) (by omega : 3 < 12) (by omega) hf ((hq 3 (by omega)).mp z)), fw4, Option.bind_some, if_pos (fun z => fst_f hD (by omega : 8 < 12) (by omega : 4 < 12) (by omega) hf ((hq 4 (by omega)).mp z)), fw5, Option.bind_some, if_pos (fun z => fst_f hD (by omega : 8 < 12) (by omega : 5 < 12) (by omega) hf ((hq 5 (by omega)).mp z)), fw6, Option.bind_some, if_pos (fun z => fst_f hD (by omega : 8 < 12) (by omega : 6 < 12) (by omega) hf ((hq 6 (by omega)).mp z)), fw8, Option.bind_some, if_neg (fun z => z ((hq 8 (by omega)).mpr hf))]
            unfold fX5_use
            rw [if_pos k1, fw9, Option.bind_some, if_pos (fun z => hs9 ((hw 9 (by omega)).mp z)), if_pos k1, fw10, Option.bind_some, if_pos (fun z => hs10 ((hw 10 (by omega)).mp z)), if_pos k1, fw11, Option.bind_some, if_pos (fun z => hs11 ((hw 11 (by omega)).mp z))]
            unfold fX5_use_c87
            rw [if_neg hM2, if_neg (fun z => z rfl), Option.bind_some]
            rfl
  · refine ⟨-1000000006, 1, st, C, F, M.2.2.2.2.2.2.1, M.2.2.2.2.2.2.2.2.1, c_none n0 n1 n2 n3 n4 n5 n6 n7 (c_no8 hT (fun z => h2 z.1)), rfl, ?_, hM, hC, hI⟩
    have hM2 : ¬ M.2.2.2.2.2.1 = (2 : Int32) := by
      rw [hc1, show (2 : Int32) = nI 2 from rfl, k_eq (by omega) (by omega)]
      exact h2
    have h87 : ∀ z, fX5_use_c87 M z = some (1, M) := by
      intro z
      unfold fX5_use_c87
      rw [if_pos hM2]
    have hu : fX5_use M = some (1, M) := by
      unfold fX5_use
      rw [if_pos k1, fw9, Option.bind_some, if_pos k1, fw10, Option.bind_some, if_pos k1, fw11, Option.bind_some]
      simp only [h87, ite_self]
    unfold fX5_perform_c17
    rw [fw0, Option.bind_some, if_pos (fun z => fst_f hD (by omega : 8 < 12) (by omega : 0 < 12) (by omega) hf ((hq 0 (by omega)).mp z)), fw1, Option.bind_some, if_pos (fun z => fst_f hD (by omega : 8 < 12) (by omega : 1 < 12) (by omega) hf ((hq 1 (by omega)).mp z)), fw2, Option.bind_some, if_pos (fun z => fst_f hD (by omega : 8 < 12) (by omega : 2 < 12) (by omega) hf ((hq 2 (by omega)).mp z)), fw3, Option.bind_some, if_pos (fun z => fst_f hD (by omega : 8 < 12) (by omega : 3 < 12) (by omega) hf ((hq 3 (by omega)).mp z)), fw4, Option.bind_some, if_pos (fun z => fst_f hD (by omega : 8 < 12) (by omega : 4 < 12) (by omega) hf ((hq 4 (by omega)).mp z)), fw5, Option.bind_some, if_pos (fun z => fst_f hD (by omega : 8 < 12) (by omega : 5 < 12) (by omega) hf ((hq 5 (by omega)).mp z)), fw6, Option.bind_some, if_pos (fun z => fst_f hD (by omega : 8 < 12) (by omega : 6 < 12) (by omega) hf ((hq 6 (by omega)).mp z)), fw8, Option.bind_some, if_neg (fun z => z ((hq 8 (by omega)).mpr hf)), hu, Option.bind_some]
    rfl
theorem ex_both {st : Nat → Nat} {tx : Nat → Nat} {t c : Nat} {s e : Nat → Nat} {X : KX} {C : KC} {F : KF} {T : KT} {M : KM} (hM : RM st M) (hC : RC st C) (hI : Inv st) (hT : RD tx t T c s e) (hD : MD tx t M c s e) (hr : ¬ M.2.2.1 = 0) : ∃ p r st' C' F' w th, fX4_execute X C F T = some (p, C', F') ∧ fX4_failureOf p = some r ∧ fX5_perform M = some (r, mSet2 M w th) ∧ RM st' (mSet2 M w th) ∧ RC st' C' ∧ Inv st' := by
  obtain ⟨s0, hs0, hq⟩ := m_sp hD
  have key : ExB st X C F T M s0 := by
    by_cases f0 : fstW tx c s e 0
    · exact ex_layer hM hC hI hT hD hr hq f0
    by_cases f1 : fstW tx c s e 1
    · exact ex_ash hM hC hI hT hD hr hq f1
    by_cases f2 : fstW tx c s e 2
    · exact ex_count hM hC hI hT hD hr hq f2
    by_cases f3 : fstW tx c s e 3
    · exact ex_fix hM hC hI hT hD hr hq f3
    by_cases f4 : fstW tx c s e 4
    · exact ex_bed hM hC hI hT hD hr hq f4
    by_cases f5 : fstW tx c s e 5
    · exact ex_kink hM hC hI hT hD hr hq f5
    by_cases f6 : fstW tx c s e 6
    · exact ex_close hM hC hI hT hD hr hq f6
    by_cases f7 : fstW tx c s e 7
    · exact ex_tune hM hC hI hT hD hr hq f7
    by_cases f8 : fstW tx c s e 8
    · exact ex_use hM hC hI hT hD hr hq f8
    refine ex_none hM hC hI hT hD hr hq (fun q hq9 => ?_)
    have hcase : q = 0 ∨ q = 1 ∨ q = 2 ∨ q = 3 ∨ q = 4 ∨ q = 5 ∨ q = 6 ∨ q = 7 ∨ q = 8 := by omega
    rcases hcase with rfl | rfl | rfl | rfl | rfl | rfl | rfl | rfl | rfl <;> assumption
  obtain ⟨p, r, st', C', F', w, th, k1, k2, k3, k4⟩ := key
  exact ⟨p, r, st', C', F', w, th, k1, k2, hs0.trans k3, k4⟩
