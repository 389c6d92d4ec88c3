/-! ===== PURE: the state, and what a change does to it ===== -/
def K4 (st : Nat → Nat) (C : KC) (H : KH) (S : KS) : Prop := RC st C ∧ Inv st ∧ ∃ (pst : Nat → Nat → Nat) (n q : Nat), n ≤ 8 ∧ q < 9 ∧ H = (nI q, nI n) ∧ LogOk pst n q S
/-- a change was done and counted, or refused and not counted -/
def Done (st' : Nat → Nat) (a : Int32) (r : Int32) (X' : KX) (C' : KC) (H' : KH) (S' : KS) : Prop := K4 st' C' H' S' ∧ ((Good r ∧ X'.1 = a + 1) ∨ (Err r ∧ X'.1 = a))
theorem rm_any (st : Nat → Nat) : ∃ M : KM, RM st M := ⟨(0, 0, 0, 0, 0, 0, fun i => nI (st i), fun _ => 0, fun _ => 0, fun _ => 0, fun _ => 0, fun _ => 0), fun _ _ => rfl⟩
theorem y_err {st : Nat → Nat} {X : KX} {C : KC} {H : KH} {S : KS} {e : Int32} (hK : K4 st C H S) (he : Err e) : ∃ S', fX2_prepare C H S = some S' ∧ fX4_closeAct X H e = some (e, X, H) ∧ K4 st C H S' := by
  obtain ⟨hC, hI, pst, n, q, h7, h8, h10, h12⟩ := hK
  obtain ⟨c, e1, e2⟩ := prep_ok (S := S) hC hI.1 h8 h7 h10
  refine ⟨_, e1, ?_, hC, hI, pst, n, q, h7, h8, h10, log_prep h12 h7⟩
  unfold fX4_closeAct
  rw [err_err he, Option.bind_some, if_pos (by decide)]
theorem y_good {st st' : Nat → Nat} {X : KX} {C C' : KC} {H : KH} {S : KS} {r : Int32} (hK : K4 st C H S) (hg : Good r) (hI' : Inv st') (hC' : RC st' C') : ∃ S' H', fX2_prepare C H S = some S' ∧ fX4_closeAct X H r = some (r, (X.1 + 1, X.2), H') ∧ K4 st' C' H' S' := by
  obtain ⟨hC, hI, pst, n, q, h7, h8, h10, h12⟩ := hK
  obtain ⟨c, e1, e2⟩ := prep_ok (S := S) hC hI.1 h8 h7 h10
  refine ⟨_, _, e1, ?_, hC', hI', pushP n st pst, min (n + 1) 8, (if n = 8 then (q + 1) % 9 else q), by omega, by split <;> omega, rfl, log_push h12 h7 e2 hI⟩
  unfold fX4_closeAct
  rw [good_err hg, Option.bind_some, if_neg (fun z => z rfl), h10, keep_ok h8 h7, Option.bind_some]
theorem y_act {pc : KC → Option (Int32 × KC)} {pm : KM → Option (Int32 × KM)} (h : Act pc pm) {st : Nat → Nat} {X : KX} {C : KC} {H : KH} {S : KS} (hK : K4 st C H S) : ∃ r X' C' H' S' st', ((fX2_prepare C H S).bind fun r8 => (pc C).bind fun r18 => (fX4_closeAct X H r18.1).bind fun r21 => some (r21.1, r21.2.1, r18.2, r21.2.2, r8)) = some (r, X', C', H', S') ∧ Done st' X.1 r X' C' H' S' := by
  obtain ⟨M, hM⟩ := rm_any st
  rcases h st C M hM hK.1 hK.2.1 with ⟨e, he, e1, -⟩ | ⟨r, st', C', hg, hI', hC', e1, -⟩
  · obtain ⟨S', g1, g2, g3⟩ := y_err (X := X) hK he
    refine ⟨e, X, C, H, S', st, ?_, g3, Or.inr ⟨he, rfl⟩⟩
    rw [g1, Option.bind_some, e1, Option.bind_some, g2, Option.bind_some]
  · obtain ⟨S', H', g1, g2, g3⟩ := y_good (X := X) hK hg hI' hC'
    refine ⟨r, (X.1 + 1, X.2), C', H', S', st', ?_, g3, Or.inl ⟨hg, rfl⟩⟩
    rw [g1, Option.bind_some, e1, Option.bind_some, g2, Option.bind_some]
theorem y_addLayer {st : Nat → Nat} {X : KX} {C : KC} {H : KH} {S : KS} (hK : K4 st C H S) (a1 a2 : Int32) : ∃ r X' C' H' S' st', fX4_addLayer X C H S a1 a2 = some (r, X', C', H', S') ∧ Done st' X.1 r X' C' H' S' := y_act (act_addLayer a1 a2) hK
theorem y_removeLowest {st : Nat → Nat} {X : KX} {C : KC} {H : KH} {S : KS} (hK : K4 st C H S) : ∃ r X' C' H' S' st', fX4_removeLowest X C H S = some (r, X', C', H', S') ∧ Done st' X.1 r X' C' H' S' := y_act act_removeLowest hK
theorem y_divide {st : Nat → Nat} {X : KX} {C : KC} {H : KH} {S : KS} (hK : K4 st C H S) (a1 a2 : Int32) : ∃ r X' C' H' S' st', fX4_divide X C H S a1 a2 = some (r, X', C', H', S') ∧ Done st' X.1 r X' C' H' S' := y_act (act_divide a1 a2) hK
theorem y_setBed {st : Nat → Nat} {X : KX} {C : KC} {H : KH} {S : KS} (hK : K4 st C H S) (a1 : Int32) : ∃ r X' C' H' S' st', fX4_setBed X C H S a1 = some (r, X', C', H', S') ∧ Done st' X.1 r X' C' H' S' := y_act (act_setBed a1) hK
theorem y_setFunction {st : Nat → Nat} {X : KX} {C : KC} {H : KH} {S : KS} (hK : K4 st C H S) (a1 : Int32) : ∃ r X' C' H' S' st', fX4_setFunction X C H S a1 = some (r, X', C', H', S') ∧ Done st' X.1 r X' C' H' S' := y_act (act_setFunction a1) hK
theorem y_setKink {st : Nat → Nat} {X : KX} {C : KC} {H : KH} {S : KS} (hK : K4 st C H S) (a1 : Int32) : ∃ r X' C' H' S' st', fX4_setKink X C H S a1 = some (r, X', C', H', S') ∧ Done st' X.1 r X' C' H' S' := y_act (act_setKink a1) hK
theorem y_tellThinning {st : Nat → Nat} {X : KX} {C : KC} {H : KH} {S : KS} (hK : K4 st C H S) (a1 a2 : Int32) : ∃ r X' C' H' S' st', fX4_tellThinning X C H S a1 a2 = some (r, X', C', H', S') ∧ Done st' X.1 r X' C' H' S' := y_act (act_tellThinning a1 a2) hK
theorem y_correct {st : Nat → Nat} {X : KX} {C : KC} {H : KH} {S : KS} (hK : K4 st C H S) (a1 a2 : Int32) : ∃ r X' C' H' S' st', fX4_correct X C H S a1 a2 = some (r, X', C', H', S') ∧ Done st' X.1 r X' C' H' S' := y_act (act_correct a1 a2) hK
theorem y_setCloseOff {st : Nat → Nat} {X : KX} {C : KC} {H : KH} {S : KS} (hK : K4 st C H S) (a1 : Int32) : ∃ r X' C' H' S' st', fX4_setCloseOff X C H S a1 = some (r, X', C', H', S') ∧ Done st' X.1 r X' C' H' S' := y_act (act_setCloseOff a1) hK
theorem y_setAsh {st : Nat → Nat} {X : KX} {C : KC} {H : KH} {S : KS} (hK : K4 st C H S) (a1 a2 a3 : Int32) : ∃ r X' C' H' S' st', fX4_setAsh X C H S a1 a2 a3 = some (r, X', C', H', S') ∧ Done st' X.1 r X' C' H' S' := y_act (act_setAsh a1 a2 a3) hK
theorem y_removeAsh {st : Nat → Nat} {X : KX} {C : KC} {H : KH} {S : KS} (hK : K4 st C H S) (a1 : Int32) : ∃ r X' C' H' S' st', fX4_removeAsh X C H S a1 = some (r, X', C', H', S') ∧ Done st' X.1 r X' C' H' S' := y_act (act_removeAsh a1) hK
theorem y_setCount {st : Nat → Nat} {X : KX} {C : KC} {H : KH} {S : KS} (hK : K4 st C H S) (a1 a2 : Int32) : ∃ r X' C' H' S' st', fX4_setCount X C H S a1 a2 = some (r, X', C', H', S') ∧ Done st' X.1 r X' C' H' S' := y_act (act_setCount a1 a2) hK
theorem y_tune {st : Nat → Nat} {X : KX} {C : KC} {F : KF} {H : KH} {S : KS} (hK : K4 st C H S) : ∃ r X' C' F' H' S' st', fX4_tune X C F H S = some (r, X', C', F', H', S') ∧ Done st' X.1 r X' C' H' S' := by
  obtain ⟨M, hM⟩ := rm_any st
  rcases tune_core (F := F) hM hK.1 hK.2.1 with ⟨e, he, e1, -⟩ | ⟨r, st', C', F', hg, hI', hC', e1, -⟩
  · obtain ⟨S', g1, g2, g3⟩ := y_err (X := X) hK he
    refine ⟨e, X, C, F, H, S', st, ?_, g3, Or.inr ⟨he, rfl⟩⟩
    unfold fX4_tune
    rw [g1, Option.bind_some, e1, Option.bind_some, g2, Option.bind_some]
  · obtain ⟨S', H', g1, g2, g3⟩ := y_good (X := X) hK hg hI' hC'
    refine ⟨r, (X.1 + 1, X.2), C', F', H', S', st', ?_, g3, Or.inl ⟨hg, rfl⟩⟩
    unfold fX4_tune
    rw [g1, Option.bind_some, e1, Option.bind_some, g2, Option.bind_some]
/-- undo after a kept state -/
theorem y_undo {X : KX} {C : KC} {S : KS} {pst : Nat → Nat → Nat} {n q : Nat} (h8 : n + 1 ≤ 8) (hq : q < 9) (hL : LogOk pst (n + 1) q S) : ∃ c, fX4_undo X C (nI q, nI (n + 1)) S = some (nI n, c, (nI q, nI n)) ∧ RC (pst n) c ∧ Inv (pst n) := by
  obtain ⟨l1, l2⟩ := hL n (by omega)
  obtain ⟨c, g1, g2⟩ := copy_rc (d := C) l1 l2.1
  refine ⟨c, ?_, g2, l2⟩
  unfold fX4_undo fX2_restore
  show ((if ¬ nI (n + 1) = (0 : Int32) then (if kIn ((nI q + (nI (n + 1) - (1 : Int32))) - (nI q + (nI (n + 1) - (1 : Int32))) / (9 : Int32) * (9 : Int32)) 9 = true then ((fX0_copyFrom C (S (((nI q + (nI (n + 1) - (1 : Int32))) - (nI q + (nI (n + 1) - (1 : Int32))) / (9 : Int32) * (9 : Int32)).toNatClampNeg))).bind fun r44 => some ((nI (n + 1) - (1 : Int32)), r44, (nI q, (nI (n + 1) - (1 : Int32))))) else none) else _).bind _) = _
  have e : (nI q + nI n) - (nI q + nI n) / (9 : Int32) * (9 : Int32) = nI ((q + n) % 9) := by
    rw [nI_add, show (9 : Int32) = nI 9 from rfl]
    exact pk_rem (by omega) (by omega) (by omega)
  rw [if_pos (nI_ne0 (by omega) (by omega)), nI_pred, e, if_pos (k_in rfl (by omega) (by omega)), nI_clamp (by omega), g1, Option.bind_some, Option.bind_some]
theorem y_undo0 {X : KX} {C : KC} {S : KS} {q : Nat} : fX4_undo X C (nI q, nI 0) S = some (-1000000005, C, (nI q, nI 0)) := by
  unfold fX4_undo fX2_restore
  rw [if_neg (fun z => z rfl), Option.bind_some]
/-- a function is set, and taken back -/
theorem y_setUndo {st : Nat → Nat} {X : KX} {C : KC} {H : KH} {S : KS} (hK : K4 st C H S) {f : Nat} (hf : f ≤ 2) : ∃ C1 H1 S1, fX4_setFunction X C H S (nI f) = some (nI (st 2), (X.1 + 1, X.2), C1, H1, S1) ∧ RC (upN st 2 f) C1 ∧ Inv (upN st 2 f) ∧ ∀ X1 : KX, ∃ n C2 H2, n ≤ 8 ∧ fX4_undo X1 C1 H1 S1 = some (nI n, C2, H2) ∧ K4 st C2 H2 S1 := by
  obtain ⟨hC, hI, pst, n, q, h7, h8, h10, h12⟩ := hK
  obtain ⟨c, e1, e2⟩ := prep_ok (S := S) hC hI.1 h8 h7 h10
  have hI' := inv_up2 hI hf
  have hC' : RC (upN st 2 f) (C.1, C.2.1, nI f, C.2.2.2) := by
    refine ⟨hC.1, hC.2.1, by rw [up_s], hC.2.2.2.1, hC.2.2.2.2.1, fun k hk => ?_⟩
    rw [up_n (i := 8 * k + 5) (by omega), up_n (i := 8 * k + 6) (by omega), up_n (i := 8 * k + 7) (by omega), up_n (i := 8 * k + 8) (by omega), up_n (i := 8 * k + 9) (by omega), up_n (i := 8 * k + 10) (by omega), up_n (i := 8 * k + 11) (by omega), up_n (i := 8 * k + 12) (by omega)]
    exact hC.2.2.2.2.2 k hk
  have hg : Good (nI (st 2)) := good_n (by have := hI.2.2.1; omega)
  have hL := log_push h12 h7 e2 hI
  obtain ⟨m, hm⟩ : ∃ m, min (n + 1) 8 = m + 1 := ⟨min (n + 1) 8 - 1, by omega⟩
  have ht : pushP n st pst m = st := by
    unfold pushP
    by_cases c8 : n < 8
    · rw [if_pos c8, if_pos (by omega)]
    · rw [if_neg c8, if_pos (by omega)]
  refine ⟨_, (nI (if n = 8 then (q + 1) % 9 else q), nI (min (n + 1) 8)), va_up S ((q + n) % 9) c, ?_, hC', hI', fun X1 => ?_⟩
  · have e : fX4_isBetween (nI f) 0 2 = some 1 := fX4_isBetween_t (a := 0) (b := 2) rfl (by omega) hf (by omega)
    have ep : fX0_putFunction C (nI f) = some (nI (st 2), (C.1, C.2.1, nI f, C.2.2.2)) := by
      unfold fX0_putFunction
      rw [e, Option.bind_some, if_pos (by decide), hC.2.2.1]
    have ec : fX4_closeAct X H (nI (st 2)) = some (nI (st 2), (X.1 + 1, X.2), (nI (if n = 8 then (q + 1) % 9 else q), nI (min (n + 1) 8))) := by
      unfold fX4_closeAct
      rw [good_err hg, Option.bind_some, if_neg (fun z => z rfl), h10, keep_ok h8 h7, Option.bind_some]
    show ((fX2_prepare C H S).bind fun r8 => (fX0_putFunction C (nI f)).bind fun r18 => (fX4_closeAct X H r18.1).bind fun r21 => some (r21.1, r21.2.1, r18.2, r21.2.2, r8)) = _
    rw [e1, Option.bind_some, ep, Option.bind_some, ec, Option.bind_some]
  · rw [hm] at hL ⊢
    obtain ⟨c2, g1, g2, g3⟩ := y_undo (X := X1) (C := (C.1, C.2.1, nI f, C.2.2.2)) (by omega) (by split <;> omega) hL
    rw [ht] at g2
    exact ⟨m, c2, _, by omega, g1, g2, hI, pushP n st pst, m, (if n = 8 then (q + 1) % 9 else q), by omega, by split <;> omega, rfl, fun r hr => hL r (by omega)⟩
