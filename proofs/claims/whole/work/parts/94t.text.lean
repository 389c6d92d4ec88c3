/-! ===== PURE: the text ===== -/
theorem k_char {n : Nat} (h : n < 65536) : vp_nar .char (((nI n).toUInt32 % 65536).toInt32) = nI n := by
  rw [pk_vc, pk_char, pk_tn (by omega), Nat.mod_eq_of_lt h]
theorem hr_type : hop_type RR := by
  intro X M C F H T S hR a1
  obtain ⟨st, pst, n, q, t, hr⟩ := id hR
  obtain ⟨hM, hC, hI, h4, h5, h6, h7, ht, hT, hm, hch⟩ := hr
  rcases k_range a1 (a := 32) (b := 126) (by omega) (by omega) with ⟨v, h1, h2, rfl⟩ | ⟨h1, -⟩
  · have e : fX4_isBetween (nI v) 32 126 = some 1 := fX4_isBetween_t (a := 32) (b := 126) rfl h1 h2 (by omega)
    have e' : fX5_in (nI v) 32 126 = some 1 := fX5_in_t (a := 32) (b := 126) rfl h1 h2 (by omega)
    by_cases h80 : t < 80
    · refine ⟨nI (t + 1), (M.1, M.2.1, M.2.2.1, nI (t + 1), M.2.2.2.2.1, M.2.2.2.2.2.1, M.2.2.2.2.2.2.1, M.2.2.2.2.2.2.2.1, M.2.2.2.2.2.2.2.2.1, upd M.2.2.2.2.2.2.2.2.2.1 t (nI v), M.2.2.2.2.2.2.2.2.2.2), (nI (t + 1), T.2.1, upd T.2.2.1 t (nI v), T.2.2.2), ?_, ?_, st, pst, n, q, t + 1, hM, hC, hI, h4, h5, h6, h7, by omega, rfl, rfl, fun i hi => ?_⟩
      · unfold fX4_type fX3_append
        rw [e, Option.bind_some, if_pos (by decide), hT, if_pos (by rw [show (80 : Int32) = nI 80 from rfl, k_lt (by omega) (by omega)]; omega), if_pos (k_in rfl (by omega) (by omega)), nI_clamp (by omega), k_char (by omega), nI_1, Option.bind_some]
      · unfold fX5_type
        rw [e', Option.bind_some, if_pos (by decide), hm, if_pos (by rw [show (80 : Int32) = nI 80 from rfl, k_eq (by omega) (by omega)]; omega), if_pos (k_in rfl (by omega) (by omega)), nI_clamp (by omega), nI_1]
      · by_cases ei : i = t
        · subst ei
          exact ⟨v, h1, h2, pk_us, pk_us⟩
        · obtain ⟨ch, c1, c2, c3, c4⟩ := hch i (by omega)
          exact ⟨ch, c1, c2, (pk_un ei).trans c3, (pk_un ei).trans c4⟩
    · refine ⟨-1000000004, M, T, ?_, ?_, hR⟩
      · unfold fX4_type fX3_append
        rw [e, Option.bind_some, if_pos (by decide), if_neg (by rw [hT, show (80 : Int32) = nI 80 from rfl, k_lt (by omega) (by omega)]; omega), Option.bind_some]
      · unfold fX5_type
        rw [e', Option.bind_some, if_pos (by decide), if_neg (by rw [hm, show (80 : Int32) = nI 80 from rfl, k_eq (by omega) (by omega)]; omega)]
  · have e : fX4_isBetween a1 32 126 = some 0 := fX4_isBetween_f (a := 32) (b := 126) h1
    have e' : fX5_in a1 32 126 = some 0 := fX5_in_f (a := 32) (b := 126) h1
    refine ⟨-1000000002, M, T, ?_, ?_, hR⟩
    · unfold fX4_type fX3_append
      rw [e, Option.bind_some, if_neg (fun z => z rfl), Option.bind_some]
    · unfold fX5_type
      rw [e', Option.bind_some, if_neg (fun z => z rfl)]
theorem hr_clearText : hop_clearText RR := by
  intro X M C F H T S hR
  obtain ⟨st, pst, n, q, t, hr⟩ := id hR
  obtain ⟨hM, hC, hI, h4, h5, h6, h7, ht, hT, hm, hch⟩ := hr
  refine ⟨nI t, (M.1, M.2.1, M.2.2.1, (0 : Int32), M.2.2.2.2), ((0 : Int32), T.2), ?_, ?_, st, pst, n, q, 0, hM, hC, hI, h4, h5, h6, h7, by omega, rfl, rfl, fun i hi => absurd hi (by omega)⟩
  · unfold fX4_clearText fX3_empty
    rw [Option.bind_some, hT]
  · unfold fX5_clearText
    rw [hm]
