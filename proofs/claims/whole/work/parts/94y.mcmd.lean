/-! ===== PURE: the reference reads a command ===== -/
def CEnd (tx : Nat → Nat) (t a e : Nat) : Prop := a ≤ e ∧ e ≤ t ∧ (∀ i, a ≤ i → i < e → tx i ≠ 59) ∧ (e = t ∨ (e < t ∧ tx e = 59))
def MW (tx : Nat → Nat) (a n : Nat) (u0 u : KM) : Prop := ∃ sp nu, u = mWd u0 (cnt tx a n) sp nu ∧ ∀ w, w < cnt tx a n → sp w = lN (hsW tx (sF tx a n w) (eF tx a n w)) ∧ nu w = nuW tx (sF tx a n w) (eF tx a n w)
theorem m_rcLoop {u0 : KM} {t : Nat} {tx : Nat → Nat} (h : TmOk u0 t tx) {a e : Nat} (hE : CEnd tx t a e) : ∀ (k n : Nat) (u : KM), e - a - n ≤ k → a + n ≤ e → (a + n = e ∨ tx (a + n) = 32 ∨ n = 0 ∨ tx (a + n - 1) = 32) → MW tx a n u0 u → ∀ f, ∃ u', kLoopC (k + f + 1) (fun (q : KM × Int32) (nx7 : KM × Int32 → Option (Int32 × KM)) => fX5_readCommand_c7 q.1 q.2 nx7) (u, nI (a + n)) = some (nI e, u') ∧ MW tx a (e - a) u0 u' := by
  obtain ⟨hae, het, h59, hend⟩ := hE
  have h80 := h.2.1
  intro k
  induction k with
  | zero =>
    intro n u hk hn hcl hW f
    have en : a + n = e := by omega
    obtain ⟨sp, nu, rfl, hw⟩ := id hW
    refine ⟨mWd u0 (cnt tx a n) sp nu, ?_, by rw [← en, Nat.add_sub_cancel_left]; exact hW⟩
    show fX5_readCommand_c7 (mWd u0 (cnt tx a n) sp nu) (nI (a + n)) _ = _
    have ht : (mWd u0 (cnt tx a n) sp nu).2.2.2.1 = nI t := h.1
    unfold fX5_readCommand_c7
    rw [ht, en]
    rcases hend with z | ⟨z1, z2⟩
    · rw [if_pos (by rw [z, k_le (by omega) (by omega)]; omega)]
    · have hch : (mWd u0 (cnt tx a n) sp nu).2.2.2.2.2.2.2.2.2.1 e = nI (tx e) := (h.2.2 e z1).1
      rw [if_neg (by rw [k_le (by omega) (by omega)]; omega), if_pos (k_in rfl (by omega) (by omega)), nI_clamp (by omega), hch, z2, if_pos (show nI 59 = 59 from rfl)]
  | succ k ih =>
    intro n u hk hn hcl hW f
    obtain ⟨sp, nu, rfl, hw⟩ := id hW
    have ht : (mWd u0 (cnt tx a n) sp nu).2.2.2.1 = nI t := h.1
    by_cases en : a + n = e
    · refine ⟨mWd u0 (cnt tx a n) sp nu, ?_, by rw [← en, Nat.add_sub_cancel_left]; exact hW⟩
      show fX5_readCommand_c7 (mWd u0 (cnt tx a n) sp nu) (nI (a + n)) _ = _
      unfold fX5_readCommand_c7
      rw [ht, en]
      rcases hend with z | ⟨z1, z2⟩
      · rw [if_pos (by rw [z, k_le (by omega) (by omega)]; omega)]
      · have hch : (mWd u0 (cnt tx a n) sp nu).2.2.2.2.2.2.2.2.2.1 e = nI (tx e) := (h.2.2 e z1).1
        rw [if_neg (by rw [k_le (by omega) (by omega)]; omega), if_pos (k_in rfl (by omega) (by omega)), nI_clamp (by omega), hch, z2, if_pos (show nI 59 = 59 from rfl)]
    · have hch : ∀ i, i < t → (mWd u0 (cnt tx a n) sp nu).2.2.2.2.2.2.2.2.2.1 i = nI (tx i) := fun i hi => (h.2.2 i hi).1
      have hr := (h.2.2 (a + n) (by omega)).2
      have hn59 := h59 (a + n) (by omega) (by omega)
      have step : ∀ g, kLoopC (k + 1 + f + 1) (fun (q : KM × Int32) (nx7 : KM × Int32 → Option (Int32 × KM)) => fX5_readCommand_c7 q.1 q.2 nx7) g = fX5_readCommand_c7 g.1 g.2 (kLoopC (k + f + 1) (fun (q : KM × Int32) (nx7 : KM × Int32 → Option (Int32 × KM)) => fX5_readCommand_c7 q.1 q.2 nx7)) := by
        intro g
        rw [show k + 1 + f + 1 = (k + f + 1) + 1 by omega]
        rfl
      rw [step]
      show ∃ u', fX5_readCommand_c7 (mWd u0 (cnt tx a n) sp nu) (nI (a + n)) _ = _ ∧ _
      unfold fX5_readCommand_c7
      rw [ht, if_neg (by rw [k_le (by omega) (by omega)]; omega), if_pos (k_in rfl (by omega) (by omega)), nI_clamp (by omega), hch _ (by omega), if_neg (by rw [show (59 : Int32) = nI 59 from rfl, k_eq (by omega) (by omega)]; exact hn59), if_pos (k_in rfl (by omega) (by omega))]
      by_cases c : tx (a + n) = 32
      · have hni : ¬ isS tx a n := fun z => z.1 c
        have eC : cnt tx a (n + 1) = if isS tx a n then cnt tx a n + 1 else cnt tx a n := rfl
        have eS : sF tx a (n + 1) = if isS tx a n then upN (sF tx a n) (cnt tx a n) (a + n) else sF tx a n := rfl
        have eE : eF tx a (n + 1) = if tx (a + n) = 32 then eF tx a n else upN (eF tx a n) (cnt tx a (n + 1) - 1) (a + n + 1) := rfl
        rw [if_neg hni] at eC eS
        rw [if_pos c] at eE
        rw [if_neg (by rw [c]; exact fun z => z rfl), nI_1, Nat.add_assoc]
        refine ih (n + 1) _ (by omega) (by omega) (Or.inr (Or.inr (Or.inr ?_))) ⟨sp, nu, ?_, ?_⟩ f
        · rw [show a + (n + 1) - 1 = a + n by omega]
          exact c
        · rw [eC]
        · rw [eC, eS, eE]
          exact hw
      · have hs : isS tx a n := by
          refine ⟨c, ?_⟩
          rcases hcl with z | z | z | z
          · exact absurd z en
          · exact absurd z c
          · exact Or.inl z
          · exact Or.inr z
        have hb := (cnt_b (tx := tx) (a := a) n).2 hs.2
        obtain ⟨d, hd1, hd2⟩ := pk_least (fun d => a + n + 1 + d = e ∨ tx (a + n + 1 + d) = 32) ⟨e - (a + n + 1), Or.inl (by omega)⟩
        have hde : a + n + 1 + d ≤ e := by
          refine Nat.le_of_not_lt (fun z => ?_)
          exact hd2 (e - (a + n + 1)) (by omega) (Or.inl (by omega))
        have hns : ∀ i, i < d → tx (a + n + 1 + i) ≠ 32 := fun i hi z => hd2 i hi (Or.inr z)
        obtain ⟨w1, w2, w3⟩ := ws_word hs d hns
        have hTm : TmOk (mWd u0 (cnt tx a n) sp nu) t tx := h
        have hrw := m_readWord hTm (x := nI (a + n)) (y := nI (a + n + 1 + d)) (s := a + n) (e := a + n + 1 + d) (c := cnt tx a n) rfl rfl (by omega) (by omega) rfl (by omega)
        have hinner : ∀ nx7 : KM × Int32 → Option (Int32 × KM), kLoopC kFu (fun q nx45 => fX5_readCommand_c45 (mWd u0 (cnt tx a n) sp nu) (nI (a + n)) q nx7 nx45) (nI (a + n)) = nx7 (mWd u0 (cnt tx a n + 1) (vp_updL sp (cnt tx a n) (lN (hsW tx (a + n) (a + n + 1 + d)))) (upd nu (cnt tx a n) (nuW tx (a + n) (a + n + 1 + d))), nI (a + n + 1 + d)) := by
          intro nx7
          refine kLoop_to (fun j => nI (a + n + j)) (d + 1) rfl (fun j hj nx => ?_) (fun nx => ?_) (by rw [kFu_eq]; omega)
          · show fX5_readCommand_c45 (mWd u0 (cnt tx a n) sp nu) (nI (a + n)) (nI (a + n + j)) nx7 nx = nx (nI (a + n + (j + 1)))
            have hrj := (h.2.2 (a + n + j) (by omega)).2
            have hj59 := h59 (a + n + j) (by omega) (by omega)
            have hj32 : tx (a + n + j) ≠ 32 := by
              cases j with
              | zero => exact c
              | succ j =>
                have := hns j (by omega)
                rw [show a + n + 1 + j = a + n + (j + 1) by omega] at this
                exact this
            have i80 : kIn (nI (a + n + j)) 80 = true := k_in rfl (by omega) (by omega)
            unfold fX5_readCommand_c45
            rw [ht, if_neg (by rw [k_le (by omega) (by omega)]; omega), if_pos i80, nI_clamp (by omega), hch _ (by omega), if_neg (by rw [show (59 : Int32) = nI 59 from rfl, k_eq (by omega) (by omega)]; exact hj59), if_pos i80, if_neg (by rw [show (32 : Int32) = nI 32 from rfl, k_eq (by omega) (by omega)]; exact hj32), nI_1, Nat.add_assoc]
          · show fX5_readCommand_c45 (mWd u0 (cnt tx a n) sp nu) (nI (a + n)) (nI (a + n + (d + 1))) nx7 nx = _
            rw [show a + n + (d + 1) = a + n + 1 + d by omega]
            have hz : (fX5_readWord (mWd u0 (cnt tx a n) sp nu) (nI (a + n)) (nI (a + n + 1 + d))).bind (fun r84 => nx7 (r84, nI (a + n + 1 + d))) = nx7 (mWd u0 (cnt tx a n + 1) (vp_updL sp (cnt tx a n) (lN (hsW tx (a + n) (a + n + 1 + d)))) (upd nu (cnt tx a n) (nuW tx (a + n) (a + n + 1 + d))), nI (a + n + 1 + d)) := by
              rw [hrw, Option.bind_some]
              rfl
            unfold fX5_readCommand_c45
            rw [ht]
            by_cases y1 : a + n + 1 + d = t
            · rw [if_pos (by rw [k_le (by omega) (by omega)]; omega)]
              exact hz
            · have i80 : kIn (nI (a + n + 1 + d)) 80 = true := k_in rfl (by omega) (by omega)
              have hrj := (h.2.2 (a + n + 1 + d) (by omega)).2
              rw [if_neg (by rw [k_le (by omega) (by omega)]; omega), if_pos i80, nI_clamp (by omega), hch _ (by omega)]
              by_cases y2 : tx (a + n + 1 + d) = 59
              · rw [if_pos (by rw [y2]; rfl)]
                exact hz
              · have y3 : tx (a + n + 1 + d) = 32 := by
                  rcases hd1 with z | z
                  · rcases hend with z2 | ⟨z2, z3⟩
                    · exact absurd (z.trans z2) y1
                    · rw [z] at y2
                      exact absurd z3 y2
                  · exact z
                rw [if_neg (by rw [show (59 : Int32) = nI 59 from rfl, k_eq (by omega) (by omega)]; exact y2), if_pos i80, if_pos (by rw [y3]; rfl)]
                exact hz
        rw [if_pos (by rw [show (32 : Int32) = nI 32 from rfl, k_eq (by omega) (by omega)]; exact c), hinner]
        have hcl' : a + (n + 1 + d) = e ∨ tx (a + (n + 1 + d)) = 32 ∨ n + 1 + d = 0 ∨ tx (a + (n + 1 + d) - 1) = 32 := by
          rw [show a + (n + 1 + d) = a + n + 1 + d by omega]
          rcases hd1 with z | z
          · exact Or.inl z
          · exact Or.inr (Or.inl z)
        have hMW : MW tx a (n + 1 + d) u0 (mWd u0 (cnt tx a n + 1) (vp_updL sp (cnt tx a n) (lN (hsW tx (a + n) (a + n + 1 + d)))) (upd nu (cnt tx a n) (nuW tx (a + n) (a + n + 1 + d)))) := by
          refine ⟨vp_updL sp (cnt tx a n) (lN (hsW tx (a + n) (a + n + 1 + d))), upd nu (cnt tx a n) (nuW tx (a + n) (a + n + 1 + d)), ?_, ?_⟩
          · rw [w1]
          · rw [w1, w2, w3]
            intro w hwc
            by_cases ew : w = cnt tx a n
            · rw [ew, pk_uLs, pk_us, up_s, up_s]
              exact ⟨rfl, rfl⟩
            · rw [pk_uLn ew, pk_un ew, up_n ew, up_n ew]
              exact hw w (by omega)
        have := ih (n + 1 + d) _ (by omega) (by omega) hcl' hMW f
        rw [show a + (n + 1 + d) = a + n + 1 + d by omega] at this
        exact this
theorem m_readCommand {u : KM} {t : Nat} {tx : Nat → Nat} (h : TmOk u t tx) {a e : Nat} (hE : CEnd tx t a e) : ∃ u', fX5_readCommand u (nI a) = some (nI e, u') ∧ MW tx a (e - a) u u' := by
  have h80 := h.2.1
  obtain ⟨u', h1, h2⟩ := m_rcLoop h hE (e - a) 0 (mWd u 0 u.2.2.2.2.2.2.2.2.2.2.1 u.2.2.2.2.2.2.2.2.2.2.2) (by omega) (by have := hE.1; omega) (Or.inr (Or.inr (Or.inl rfl))) ⟨_, _, rfl, fun w hw => absurd hw (Nat.not_lt_zero _)⟩ (kFu - (e - a) - 1)
  refine ⟨u', ?_, h2⟩
  have hk : e - a + (kFu - (e - a) - 1) + 1 = kFu := by
    have := hE.2.1
    rw [kFu_eq]
    omega
  rw [hk] at h1
  exact h1
