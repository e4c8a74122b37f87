theorem c_want (a b : Int32) (σ : zS) (h : J1 σ) : Cs1 σ (fX8_want a b) (fX9_want a b) := by
  obtain ⟨T, Hd, Q, hI⟩ := id h
  obtain ⟨⟨hT, hA1, hA2⟩, hB, hC, hD, hV, r1, r2⟩ := id hI
  cases hs1 : statB b with
  | false => exact Cs1.same h (r := -1) (by unfold fX8_want; rw [e_isStation, hs1]; rfl) (by unfold fX9_want; rw [e_isStationM, hs1]; rfl)
  | true =>
  obtain ⟨s, hs, rfl⟩ := statB_y hs1
  cases hl1 : lettB T a with
  | false => exact Cs1.same h (r := -1) (by unfold fX8_want; rw [e_isStation, hs1, zCi_s, if_neg (by decide), e_isThere hT _ _ hA1, hl1]; rfl) (by unfold fX9_want; rw [e_isStationM, hs1, zCi_s, if_neg (by decide), e_isLetter hT _ _ hA2, hl1]; rfl)
  | true =>
  obtain ⟨l, hl, rfl, hbit⟩ := lettB_y hl1
  obtain ⟨d1, d2, d3, d4⟩ := hD s hs
  have hn : Q.length ≤ 16 := hV.1
  have m1 : ∀ k : Int32 → zS → Option (Int32 × zS), zCi (fX9_isIn (σ 23 0 (nI s).toNatClampNeg) (nI l) σ) k = k (if (Hd s).testBit l then 1 else 0) σ := fun k => by rw [nI_clamp (by omega), d2, e_isIn (by omega) (by omega), zCi_s]
  cases hh : (Hd s).testBit l with
  | true => exact Cs1.same h (r := -3) (by unfold fX8_want; rw [e_isStation, hs1, zCi_s, if_neg (by decide), e_isThere hT _ _ hA1, hl1, zCi_s, if_neg (by decide), e_holds hs hl d3 d1, hh]; rfl) (by unfold fX9_want; rw [e_isStationM, hs1, zCi_s, if_neg (by decide), e_isLetter hT _ _ hA2, hl1, zCi_s, if_neg (by decide), zIx_nI hs (by decide), m1, hh]; rfl)
  | false =>
  rcases e_indexOf hV r1 hl hs with ⟨k, hk, e1⟩ | ⟨hno, e1⟩
  · have hkl := (List.getElem?_eq_some_iff.mp hk).1
    have hm : (l, s) ∈ Q := List.mem_of_getElem? hk
    have e2 : fX9_isWanted (nI l) (nI s) σ = some (1, σ) := by
      rcases e_isWanted hV r2 hl hs with ⟨-, e⟩ | ⟨q, -⟩
      · exact e
      · exact absurd hm q
    exact Cs1.same h (r := -3) (by unfold fX8_want; rw [e_isStation, hs1, zCi_s, if_neg (by decide), e_isThere hT _ _ hA1, hl1, zCi_s, if_neg (by decide), e_holds hs hl d3 d1, hh, zCi_s, if_pos (by decide), e1, zCi_s, if_neg (nI_pos (by omega))]) (by unfold fX9_want; rw [e_isStationM, hs1, zCi_s, if_neg (by decide), e_isLetter hT _ _ hA2, hl1, zCi_s, if_neg (by decide), zIx_nI hs (by decide), m1, hh, if_pos (by decide), e2]; rfl)
  have e2 : ∀ σ1 : zS, qR (σ1 21 0 3) (σ1 24 0) (σ1 25 0) Q → fX9_isWanted (nI l) (nI s) σ1 = some (0, σ1) := fun σ1 hr => by
    rcases e_isWanted hV hr hl hs with ⟨q, -⟩ | ⟨-, e⟩
    · exact absurd q hno
    · exact e
  by_cases hf : Q.length = 16
  · exact Cs1.same h (r := -4) (by unfold fX8_want fX5_add; rw [e_isStation, hs1, zCi_s, if_neg (by decide), e_isThere hT _ _ hA1, hl1, zCi_s, if_neg (by decide), e_holds hs hl d3 d1, hh, zCi_s, if_pos (by decide), e1, zCi_s, if_pos (by decide), r1.1, hf]; rfl) (by unfold fX9_want; rw [e_isStationM, hs1, zCi_s, if_neg (by decide), e_isLetter hT _ _ hA2, hl1, zCi_s, if_neg (by decide), zIx_nI hs (by decide), m1, hh, if_pos (by decide), e2 σ r2, zCi_s, if_pos rfl, r2.1, hf]; rfl)
  have hlt : Q.length < 16 := by omega
  have q3 : nI Q.length < (16 : Int32) := nI_lt (b := 16) hlt (by decide)
  have q4 : ¬ nI Q.length = (16 : Int32) := fun z => hf (by rw [show (16 : Int32) = nI 16 from rfl, zn_eq (by omega) (by decide)] at z; exact z)
  have hQ : qV T (Q ++ [(l, s)]) := ⟨by rw [List.length_append]; simp; omega, by
      rw [List.nodup_append]
      refine ⟨hV.2.1, by simp, fun a ha b hb => ?_⟩
      simp at hb
      rintro rfl
      exact hno (by rw [← hb]; exact ha), fun q hq => by
      rcases List.mem_append.mp hq with q1 | q1
      · exact hV.2.2 q q1
      · simp at q1
        rw [q1]
        exact ⟨hl, hs, hbit⟩⟩
  have happ : ∀ {n : Int32} {f g : Nat → Int32}, qR n f g Q → qR (nI (Q.length + 1)) (upd f Q.length (nI l)) (upd g Q.length (nI s)) (Q ++ [(l, s)]) := by
    intro n f g hr
    refine ⟨by rw [List.length_append]; rfl, fun k q hq => ?_⟩
    rcases Nat.lt_or_ge k Q.length with q1 | q1
    · rw [List.getElem?_append_left q1] at hq
      rw [zu_n (by omega), zu_n (by omega)]
      exact hr.2 k q hq
    · rw [List.getElem?_append_right q1] at hq
      have h0 := (List.getElem?_eq_some_iff.mp hq).1
      have : k = Q.length := by simp at h0; omega
      subst this
      rw [Nat.sub_self] at hq
      cases hq
      rw [zu_s, zu_s]
      exact ⟨rfl, rfl⟩
  let σ1 := zU (zU (zU σ 5 0 Q.length (nI l)) 6 0 Q.length (nI s)) 4 0 2 (nI (Q.length + 1))
  let σ2 := zU (zU (zU σ1 24 0 Q.length (nI l)) 25 0 Q.length (nI s)) 21 0 3 (nI (Q.length + 1))
  refine ⟨nI (Q.length + 1), σ1, σ2, ?_, ?_, ⟨T, Hd, Q ++ [(l, s)], ⟨hT, ?_, ?_⟩, ?_, ?_, ?_, hQ, ?_, ?_⟩, ?_⟩
  · unfold fX8_want fX5_add
    rw [e_isStation, hs1, zCi_s, if_neg (by decide), e_isThere hT _ _ hA1, hl1, zCi_s, if_neg (by decide), e_holds hs hl d3 d1, hh, zCi_s, if_pos (by decide), e1, zCi_s, if_pos (by decide)]
    have w1 : (zU σ 5 0 Q.length (nI l)) 4 0 2 = nI Q.length := by rw [zU_k (by decide)]; exact r1.1
    have w2 : (zU (zU σ 5 0 Q.length (nI l)) 6 0 Q.length (nI s)) 4 0 2 = nI Q.length := by rw [zU_k (by decide)]; exact w1
    rw [r1.1, if_pos q3, zIx_nI hlt (by decide), zB_s, nI_clamp (by omega), w1, zIx_nI hlt (by decide), zB_s, nI_clamp (by omega), w2, zB_s, zCi_s, if_neg (by decide), zU_s, nI_1]
  · unfold fX9_want
    have q0 : σ1 21 0 0 = nI T := by simp [σ1, zU_ap, hA2]
    have q1 : σ1 23 0 s = nI (Hd s) := by simp [σ1, zU_ap, d2]
    have q5 : qR (σ1 21 0 3) (σ1 24 0) (σ1 25 0) Q := by
      rw [show σ1 24 0 = σ 24 0 from funext fun j => by simp [σ1, zU_ap], show σ1 25 0 = σ 25 0 from funext fun j => by simp [σ1, zU_ap], show σ1 21 0 3 = σ 21 0 3 by simp [σ1, zU_ap]]
      exact r2
    rw [e_isStationM, hs1, zCi_s, if_neg (by decide), e_isLetter hT _ _ q0, hl1, zCi_s, if_neg (by decide), zIx_nI hs (by decide), nI_clamp (by omega), q1, e_isIn (by omega) (by omega), hh, zCi_s, if_pos (by decide), e2 σ1 q5, zCi_s, if_pos rfl]
    have w1 : (zU σ1 24 0 Q.length (nI l)) 21 0 3 = nI Q.length := by rw [zU_k (by decide)]; exact q5.1
    have w2 : (zU (zU σ1 24 0 Q.length (nI l)) 25 0 Q.length (nI s)) 21 0 3 = nI Q.length := by rw [zU_k (by decide)]; exact w1
    rw [q5.1, if_neg q4, zIx_nI hlt (by decide), zB_s, nI_clamp (by omega), w1, zIx_nI hlt (by decide), zB_s, nI_clamp (by omega), w2, zB_s, zU_s, nI_1]
  · simp [σ2, σ1, zU_ap, hA1]
  · simp [σ2, σ1, zU_ap, hA2]
  · exact hB.c (fun j hj => by simp [σ2, σ1, zU_ap]) (fun j hj => by rcases hj with rfl | rfl | rfl | rfl <;> simp [σ2, σ1, zU_ap])
  · exact hC.c (fun j => by simp [σ2, σ1, zU_ap]) (fun j => by simp [σ2, σ1, zU_ap])
  · exact hD.c (fun j => by simp [σ2, σ1, zU_ap]) (fun j => by simp [σ2, σ1, zU_ap])
  · have := happ r1
    rw [show σ2 4 0 2 = nI (Q.length + 1) by simp [σ2, σ1, zU_ap], show σ2 5 0 = upd (σ 5 0) Q.length (nI l) from funext fun j => by simp [σ2, σ1, zU_ap, upd], show σ2 6 0 = upd (σ 6 0) Q.length (nI s) from funext fun j => by simp [σ2, σ1, zU_ap, upd]]
    exact this
  · have := happ r2
    rw [show σ2 21 0 3 = nI (Q.length + 1) by simp [σ2, σ1, zU_ap], show σ2 24 0 = upd (σ 24 0) Q.length (nI l) from funext fun j => by simp [σ2, σ1, zU_ap, upd], show σ2 25 0 = upd (σ 25 0) Q.length (nI s) from funext fun j => by simp [σ2, σ1, zU_ap, upd]]
    exact this
  · exact ((((((Ch1.r σ).U (by omega)).U (by omega)).U (by omega)).U (by omega)).U (by omega)).U (by omega)
theorem c_having (a : Int32) (σ : zS) (h : J1 σ) : Cs1 σ (fX8_having a) (fX9_having a) := by
  obtain ⟨T, Hd, Q, hI⟩ := id h
  obtain ⟨⟨hT, hA1, hA2⟩, hB, hC, hD, hE⟩ := id hI
  cases hs1 : statB a with
  | false => exact Cs1.same h (r := -1) (by unfold fX8_having; rw [e_isStation, hs1]; rfl) (by unfold fX9_having; rw [e_isStationM, hs1]; rfl)
  | true =>
    obtain ⟨s, hs, rfl⟩ := statB_y hs1
    obtain ⟨d1, d2, -⟩ := hD s hs
    exact Cs1.same h (r := nI (Hd s)) (by unfold fX8_having; rw [e_isStation, hs1, zCi_s, if_neg (by decide), zIx_nI hs (by decide), nI_clamp (by omega), d1]) (by unfold fX9_having; rw [e_isStationM, hs1, zCi_s, if_neg (by decide), zIx_nI hs (by decide), nI_clamp (by omega), d2])
theorem c_entry (a b : Int32) (σ : zS) (h : J1 σ) : Cs1 σ (fX8_entry a b) (fX9_entry a b) := by
  obtain ⟨T, Hd, Q, hI⟩ := id h
  obtain ⟨hA, hB, hC, hD, hV, r1, r2⟩ := id hI
  have hn : Q.length ≤ 16 := hV.1
  rcases zcase a Q.length (by omega) with h1 | h1 | ⟨k, hk, rfl⟩
  · exact Cs1.same h (r := -1) (by unfold fX8_entry; rw [if_pos h1]) (by unfold fX9_entry; rw [e_within, if_pos h1]; rfl)
  · have h0 : ¬ a < 0 := zbig h1 (by omega)
    have h2 : ¬ a < σ 4 0 2 := by rw [r1.1, zlt_le]; exact fun z => z h1
    have h3 : σ 21 0 3 - 1 < a := by
      rw [r2.1, Int32.lt_iff_toInt_lt]
      rw [Int32.le_iff_toInt_le, nI_toInt (by omega)] at h1
      have := pk_sub_toInt (a := Q.length) (b := 1) (by omega) (by decide)
      rw [show nI Q.length - 1 = nI Q.length - nI 1 from rfl, this]
      omega
    exact Cs1.same h (r := -1) (by unfold fX8_entry; rw [if_neg h0, if_neg h2]) (by unfold fX9_entry; rw [e_within, if_neg h0, if_pos h3]; rfl)
  have c1 : ¬ nI k < 0 := nI_pos (by omega)
  have c2 : nI k < σ 4 0 2 := by rw [r1.1]; exact nI_lt hk (by omega)
  have c3 : ¬ σ 21 0 3 - 1 < nI k := by
    rw [r2.1, Int32.lt_iff_toInt_lt, nI_toInt (by omega)]
    have := pk_sub_toInt (a := Q.length) (b := 1) (by omega) (by decide)
    rw [show nI Q.length - 1 = nI Q.length - nI 1 from rfl, this]
    omega
  obtain ⟨a1, a2⟩ := qR_at r1 hk
  obtain ⟨b1, b2⟩ := qR_at r2 hk
  by_cases h1 : b = 0
  · exact Cs1.same h (r := nI (Q[k]'hk).1) (by unfold fX8_entry; rw [if_neg c1, if_pos c2, if_pos h1, if_pos h1, zIx_nI (show k < 16 by omega) (by decide), nI_clamp (by omega), a1]) (by unfold fX9_entry; rw [e_within, if_neg c1, if_neg c3, zCi_s, if_neg (by decide), if_pos h1, zIx_nI (show k < 16 by omega) (by decide), nI_clamp (by omega), b1])
  · by_cases h2 : b = 1
    · exact Cs1.same h (r := nI (Q[k]'hk).2) (by unfold fX8_entry; rw [if_neg c1, if_pos c2, if_neg h1, if_pos h2, if_neg h1, zIx_nI (show k < 16 by omega) (by decide), nI_clamp (by omega), a2]) (by unfold fX9_entry; rw [e_within, if_neg c1, if_neg c3, zCi_s, if_neg (by decide), if_neg h1, if_pos h2, zIx_nI (show k < 16 by omega) (by decide), nI_clamp (by omega), b2])
    · exact Cs1.same h (r := -2) (by unfold fX8_entry; rw [if_neg c1, if_pos c2, if_neg h1, if_neg h2]) (by unfold fX9_entry; rw [e_within, if_neg c1, if_neg c3, zCi_s, if_neg (by decide), if_neg h1, if_neg h2])
theorem e_clear8 {k : zS → Option (Int32 × zS)} {σ : zS} : ∃ w, fX6_clear_7 k zN 0 σ = k w ∧ (∀ s, s < 8 → w 3 0 s = 0) ∧ ∀ k i j, k ≠ 3 → w k i j = σ k i j := by
  obtain ⟨w, ⟨h1, h3⟩, e⟩ := zloop (β := zS) (L := fun n i b => fX6_clear_7 k n (nI i) b) (fun i b => (∀ s, s < i → b 3 0 s = 0) ∧ ∀ k i j, k ≠ 3 → b k i j = σ k i j) 8 k (by
    intro n i b hi hb
    obtain ⟨q1, q3⟩ := hb
    refine ⟨zU b 3 0 i 0, ⟨fun s hs => ?_, fun k i' j hk => ?_⟩, ?_⟩
    · by_cases e : s = i
      · subst e; rw [zU_s]
      · rw [zU_j e]; exact q1 s (by omega)
    · rw [zU_k hk]; exact q3 k i' j hk
    · show (if (8 : Int32) ≤ nI i then _ else _) = _
      rw [show (8 : Int32) = nI 8 from rfl, if_neg (nI_ge hi (by decide)), zIx_nI hi (by decide), zB_s, zB_s, nI_1, nI_clamp (by omega)]) (by
    intro n b _
    show (if (8 : Int32) ≤ nI 8 then _ else _) = _
    rw [if_pos (by decide)]) 8 0 σ zN (by decide) ⟨fun s hs => by omega, fun _ _ _ _ => rfl⟩ (by decide)
  exact ⟨w, e, h1, h3⟩
theorem e_anew8 {k : zS → Option (Int32 × zS)} {σ : zS} : ∃ w, fX9_anew_12 k zN 0 σ = k w ∧ (∀ s, s < 8 → w 23 0 s = 0) ∧ ∀ k i j, k ≠ 23 → w k i j = σ k i j := by
  obtain ⟨w, ⟨h1, h3⟩, e⟩ := zloop (β := zS) (L := fun n i b => fX9_anew_12 k n (nI i) b) (fun i b => (∀ s, s < i → b 23 0 s = 0) ∧ ∀ k i j, k ≠ 23 → b k i j = σ k i j) 8 k (by
    intro n i b hi hb
    obtain ⟨q1, q3⟩ := hb
    refine ⟨zU b 23 0 i 0, ⟨fun s hs => ?_, fun k i' j hk => ?_⟩, ?_⟩
    · by_cases e : s = i
      · subst e; rw [zU_s]
      · rw [zU_j e]; exact q1 s (by omega)
    · rw [zU_k hk]; exact q3 k i' j hk
    · show (if (8 : Int32) ≤ nI i then _ else _) = _
      rw [show (8 : Int32) = nI 8 from rfl, if_neg (nI_ge hi (by decide)), zIx_nI hi (by decide), zB_s, zB_s, nI_1, nI_clamp (by omega)]) (by
    intro n b _
    show (if (8 : Int32) ≤ nI 8 then _ else _) = _
    rw [if_pos (by decide)]) 8 0 σ zN (by decide) ⟨fun s hs => by omega, fun _ _ _ _ => rfl⟩ (by decide)
  exact ⟨w, e, h1, h3⟩
theorem c_anew (σ : zS) (h : J1 σ) : Cs1 σ fX8_anew fX9_anew := by
  obtain ⟨T, Hd, Q, hI⟩ := id h
  obtain ⟨⟨hT, hA1, hA2⟩, ⟨hb1, hb2, hb3, hb4, hb5⟩, hC, hD, hV, r1, r2⟩ := id hI
  obtain ⟨w1, e1, f1, g1⟩ := e_clear8 (k := fun y => zB (zU y 4 0 2 0) (fun s3 => zB (zU s3 1 0 6 0) (fun s4 => zB (zU s4 1 0 7 0) (fun s5 => some ((0 : Int32), s5))))) (σ := zU σ 1 0 3 0)
  let σ1 := zU (zU (zU w1 4 0 2 0) 1 0 6 0) 1 0 7 0
  obtain ⟨w2, e2, f2, g2⟩ := e_anew8 (k := fun y => zB (zU y 21 0 3 0) (fun s4 => zB (zU s4 21 0 8 0) (fun s5 => zB (zU s5 21 0 9 0) (fun s6 => some (nI Q.length, s6))))) (σ := zU σ1 21 0 0 0)
  let σ2 := zU (zU (zU w2 21 0 3 0) 21 0 8 0) 21 0 9 0
  have G1 : ∀ k i j, k ≠ 1 → k ≠ 3 → k ≠ 4 → σ1 k i j = σ k i j := fun k i j a b c => by simp only [σ1]; rw [zU_k a, zU_k a, zU_k c, g1 k i j b, zU_k a]
  have G2 : ∀ k i j, k ≠ 21 → k ≠ 23 → σ2 k i j = σ1 k i j := fun k i j a b => by simp only [σ2]; rw [zU_k a, zU_k a, zU_k a, g2 k i j b, zU_k a]
  have G3 : ∀ j, σ2 21 0 j = if j = 0 ∨ j = 3 ∨ j = 8 ∨ j = 9 then 0 else σ 21 0 j := fun j => by
    simp only [σ2]
    simp only [zU_ap, g2 21 0 j (by decide), G1 21 0 j (by decide) (by decide) (by decide)]
    by_cases q0 : j = 0
    · subst q0; simp
    · by_cases q3 : j = 3
      · subst q3; simp
      · by_cases q8 : j = 8
        · subst q8; simp
        · by_cases q9 : j = 9
          · subst q9; simp
          · simp [q0, q3, q8, q9]
  have G4 : ∀ j, σ1 1 0 j = if j = 3 ∨ j = 6 ∨ j = 7 then 0 else σ 1 0 j := fun j => by
    simp only [σ1]
    simp only [zU_ap, g1 1 0 j (by decide)]
    by_cases q0 : j = 3
    · subst q0; simp
    · by_cases q3 : j = 6
      · subst q3; simp
      · by_cases q8 : j = 7
        · subst q8; simp
        · simp [q0, q3, q8]
  have z0 : (0 : Int32) = nI 0 := rfl
  refine ⟨nI Q.length, σ1, σ2, ?_, ?_, ⟨0, fun _ => 0, [], ⟨by decide, ?_, ?_⟩, ⟨?_, ?_, ?_, ?_, ?_⟩, ?_, ?_, ⟨by decide, List.nodup_nil, fun q hq => by cases hq⟩, ⟨?_, fun k q hq => by simp at hq⟩, ⟨?_, fun k q hq => by simp at hq⟩⟩, ?_⟩
  · unfold fX8_anew fX6_clear
    rw [zB_s, zB_s, e1, r1.1]
    rfl
  · unfold fX9_anew
    rw [zB_s, zB_s, G1 21 0 3 (by decide) (by decide) (by decide), r2.1, e2]
    rfl
  · rw [G2 1 0 3 (by decide) (by decide), G4]; rfl
  · rw [G3]; rfl
  · rw [G3, G2 1 0 4 (by decide) (by decide), G4]; exact hb1
  · rw [G2 1 0 4 (by decide) (by decide), G4]; exact hb2
  · rw [G3, G2 1 0 5 (by decide) (by decide), G4]; exact hb3
  · rw [G3, G2 1 0 6 (by decide) (by decide), G4]; rfl
  · rw [G3, G2 1 0 7 (by decide) (by decide), G4]; rfl
  · exact hC.c (fun j => by rw [G2 2 0 j (by decide) (by decide), G1 2 0 j (by decide) (by decide) (by decide)]) (fun j => by rw [G2 22 0 j (by decide) (by decide), G1 22 0 j (by decide) (by decide) (by decide)])
  · intro s hs
    refine ⟨?_, ?_, show (0 : Nat) < 1024 by decide, show lk 0 0 = 0 by decide⟩
    · rw [G2 3 0 s (by decide) (by decide)]
      simp only [σ1]
      rw [zU_k (by decide), zU_k (by decide), zU_k (by decide), f1 s hs]; rfl
    · simp only [σ2]
      rw [zU_k (by decide), zU_k (by decide), zU_k (by decide), f2 s hs]; rfl
  · rw [G2 4 0 2 (by decide) (by decide)]
    simp only [σ1]
    rw [zU_k (by decide), zU_k (by decide), zU_s]; rfl
  · rw [G3]; rfl
  · intro k i j hk
    by_cases e : k = 21
    · subst e
      simp only [σ2]
      simp only [zU_ap, g2 21 i j (by decide), G1 21 i j (by decide) (by decide) (by decide)]
      rw [if_neg (by omega), if_neg (by omega), if_neg (by omega), if_neg (by omega)]
    · rw [G2 k i j e (by omega), G1 k i j (by omega) (by omega) (by omega)]
