/-! tests of stations, letters, sums -/
def statB (a : Int32) : Bool := decide (¬ a < 0) && decide (a < 8)
def lettB (T : Nat) (a : Int32) : Bool := decide (¬ a < 0) && decide (a < 10) && T.testBit a.toNatClampNeg
theorem statB_y {a : Int32} (h : statB a = true) : ∃ s, s < 8 ∧ a = nI s := by
  unfold statB at h
  rw [Bool.and_eq_true, decide_eq_true_eq, decide_eq_true_eq] at h
  rcases zcase a 8 (by decide) with q | q | q
  · exact absurd q h.1
  · exact absurd h.2 (by rw [zlt_le]; exact fun z => z q)
  · exact q
theorem lettB_y {T : Nat} {a : Int32} (h : lettB T a = true) : ∃ l, l < 10 ∧ a = nI l ∧ T.testBit l = true := by
  unfold lettB at h
  rw [Bool.and_eq_true, Bool.and_eq_true, decide_eq_true_eq, decide_eq_true_eq] at h
  rcases zcase a 10 (by decide) with q | q | ⟨l, hl, rfl⟩
  · exact absurd q h.1.1
  · exact absurd h.1.2 (by rw [zlt_le]; exact fun z => z q)
  · exact ⟨l, hl, rfl, by rw [nI_clamp (by omega)] at h; exact h.2⟩
theorem e_isStation (a : Int32) (σ : zS) : fX8_isStation a σ = some (if statB a then 1 else 0, σ) := by
  unfold fX8_isStation statB
  by_cases h : a < 0
  · simp [h]
  · by_cases h2 : (8 : Int32) ≤ a
    · have : ¬ a < 8 := by rw [zlt_le]; exact fun z => z h2
      simp [h, h2, this]
    · have : a < 8 := by rw [zlt_le]; exact h2
      simp [h, h2, this]
theorem e_isStationM (a : Int32) (σ : zS) : fX9_isStation a σ = some (if statB a then 1 else 0, σ) := by
  unfold fX9_isStation statB
  rw [e_within, zCi_s]
  by_cases h : a < 0
  · simp [h, zGd]
  · by_cases h2 : (7 : Int32) < a
    · have : ¬ a < 8 := by rw [show (8 : Int32) = nI (7 + 1) from rfl, zlt_1 (by decide)]; exact fun z => z h2
      simp [h, h2, this, zGd]
    · have : a < 8 := by rw [show (8 : Int32) = nI (7 + 1) from rfl, zlt_1 (by decide)]; exact h2
      simp [h, h2, this, zGd]
theorem e_isThere {T : Nat} (hT : T < 1024) (a : Int32) (σ : zS) (h3 : σ 1 0 3 = nI T) : fX6_isThere a σ = some (if lettB T a then 1 else 0, σ) := by
  unfold fX6_isThere lettB
  by_cases h : a < 0
  · simp [h]
  · by_cases h2 : (10 : Int32) ≤ a
    · have : ¬ a < 10 := by rw [zlt_le]; exact fun z => z h2
      simp [h, h2, this]
    · have h4 : a < 10 := by rw [zlt_le]; exact h2
      rcases zcase a 10 (by decide) with q | q | ⟨l, hl, rfl⟩
      · exact absurd q h
      · exact absurd q h2
      · rw [if_neg h, if_neg h2, h3, nI_clamp (by omega)]
        simp only [zn_bit1 (show T < 2 ^ 31 by omega) (show l < 32 by omega)]
        simp [h, h4]
        split <;> rfl
theorem e_isLetter {T : Nat} (hT : T < 1024) (a : Int32) (σ : zS) (h3 : σ 21 0 0 = nI T) : fX9_isLetter a σ = some (if lettB T a then 1 else 0, σ) := by
  unfold fX9_isLetter lettB
  rw [e_within, zCi_s]
  by_cases h : a < 0
  · simp [h]
  · by_cases h2 : (9 : Int32) < a
    · have : ¬ a < 10 := by rw [show (10 : Int32) = nI (9 + 1) from rfl, zlt_1 (by decide)]; exact fun z => z h2
      simp [h, h2, this]
    · have h4 : a < 10 := by rw [show (10 : Int32) = nI (9 + 1) from rfl, zlt_1 (by decide)]; exact h2
      rcases zcase a 10 (by decide) with q | q | ⟨l, hl, rfl⟩
      · exact absurd q h
      · exact absurd h4 (by rw [zlt_le]; exact fun z => z q)
      · rw [if_neg h, if_neg h2, h3, nI_clamp (by omega), if_neg (by decide), e_isIn (by omega) (by omega), zCi_s]
        simp [h, h4]
        split <;> simp_all
def sumB (T : Nat) (a : Int32) : Bool := decide (¬ a ≤ 0) && decide (a &&& (nI T ^^^ (-1)) = 0)
theorem sumB_y {T : Nat} (hT : T < 1024) {a : Int32} (h : sumB T a = true) : ∃ x, 0 < x ∧ x < 1024 ∧ a = nI x ∧ lk x T = 0 := by
  unfold sumB at h
  rw [Bool.and_eq_true, decide_eq_true_eq, decide_eq_true_eq] at h
  obtain ⟨x, hx, rfl⟩ := zn_of a
  obtain ⟨h1, h2⟩ := h
  rw [zn_lk] at h2
  have hl : lk x T = 0 := by
    have h4 := congrArg (fun z : Int32 => z.toBitVec.toNat) h2
    rw [show (nI (lk x T)).toBitVec.toNat = lk x T from pk_tn (Nat.lt_of_le_of_lt (lk_le _ _) hx)] at h4
    exact h4
  have hb : ∀ j, j < 32 → x.testBit j = true → T.testBit j = true := by
    intro j hj hx1
    have h5 := lk_bit (a := x) (b := T) hj
    rw [hl, Nat.zero_testBit, hx1] at h5
    cases hT2 : T.testBit j with
    | true => rfl
    | false => rw [hT2] at h5; cases h5
  have hx2 : x < 1024 := by
    apply Nat.lt_pow_two_of_testBit (n := 10)
    intro j hj
    by_cases hj2 : j < 32
    · cases hxj : x.testBit j with
      | false => rfl
      | true =>
        have := hb j hj2 hxj
        rw [zbit_big (k := 10) hT hj] at this
        cases this
    · exact zbit_big hx (by omega)
  refine ⟨x, ?_, hx2, rfl, hl⟩
  rcases Nat.eq_zero_or_pos x with rfl | h6
  · exact absurd (by decide) h1
  · exact h6
theorem e_isSum {T : Nat} (a : Int32) (σ : zS) (h3 : σ 1 0 3 = nI T) : fX6_isSum a σ = some (if sumB T a then 1 else 0, σ) := by
  unfold fX6_isSum sumB
  rw [h3]
  by_cases h : a ≤ 0
  · simp [h]
  · by_cases h2 : a &&& (nI T ^^^ (-1)) = 0
    · rw [if_neg h, if_pos h2, decide_eq_true h, decide_eq_true h2]; rfl
    · rw [if_neg h, if_neg h2, decide_eq_true h, decide_eq_false h2]; rfl
theorem e_isSumM {T : Nat} (hT : T < 1024) (a : Int32) (σ : zS) (h3 : σ 21 0 0 = nI T) : fX9_isSum a σ = some (if sumB T a then 1 else 0, σ) := by
  unfold fX9_isSum
  rw [e_within, zCi_s, h3]
  cases hb : sumB T a with
  | true =>
    obtain ⟨x, h0, h1, rfl, hl⟩ := sumB_y hT hb
    have c1 : ¬ nI x < 1 := by rw [show (1 : Int32) = nI 1 from rfl, zn_lt (by omega) (by omega)]; omega
    have c2 : ¬ (1023 : Int32) < nI x := by rw [show (1023 : Int32) = nI 1023 from rfl, zn_lt (by omega) (by omega)]; omega
    rw [if_neg c1, if_neg c2, if_neg (by decide), zn_lk, hl]
    rfl
  | false =>
    unfold sumB at hb
    rw [Bool.and_eq_false_iff, decide_eq_false_iff_not, decide_eq_false_iff_not, Classical.not_not] at hb
    rcases hb with hb | hb
    · have : a < 1 := by rw [Int32.lt_iff_toInt_lt]; rw [Int32.le_iff_toInt_le] at hb; have e0 : (0 : Int32).toInt = 0 := rfl; have e1 : (1 : Int32).toInt = 1 := rfl; omega
      rw [if_pos this]; rfl
    · by_cases q1 : a < 1
      · rw [if_pos q1]; rfl
      · by_cases q2 : (1023 : Int32) < a
        · rw [if_neg q1, if_pos q2]; rfl
        · rw [if_neg q1, if_neg q2, if_neg (by decide), if_neg hb]; rfl
/-! the queue -/
theorem qR_at {n : Int32} {f g : Nat → Int32} {Q : List (Nat × Nat)} (h : qR n f g Q) {k : Nat} (hk : k < Q.length) : f k = nI (Q[k]'hk).1 ∧ g k = nI (Q[k]'hk).2 := h.2 k _ (List.getElem?_eq_getElem hk)
theorem e_indexOf {T : Nat} {Q : List (Nat × Nat)} {σ : zS} (hV : qV T Q) (hR : qR (σ 4 0 2) (σ 5 0) (σ 6 0) Q) {l s : Nat} (hl : l < 10) (hs : s < 8) : (∃ k, Q[k]? = some (l, s) ∧ fX5_indexOf (nI l) (nI s) σ = some (nI k, σ)) ∨ ((l, s) ∉ Q ∧ fX5_indexOf (nI l) (nI s) σ = some (-1, σ)) := by
  have key := zloopE (β := Unit) (L := fun n i _ => fX5_indexOf_2 (nI l) (nI s) (fun y => some (-1, y)) n (nI i) σ) (fun i _ => ∀ k, k < i → Q[k]? ≠ some (l, s)) Q.length (fun _ => some (-1, σ)) (fun o => ∃ k, Q[k]? = some (l, s) ∧ o = some (nI k, σ)) (by
    intro n i b hi hI
    have hn : Q.length ≤ 16 := hV.1
    obtain ⟨e1, e2⟩ := qR_at hR hi
    obtain ⟨v1, v2, -⟩ := hV.2.2 _ (List.getElem_mem hi)
    have hstep : fX5_indexOf_2 (nI l) (nI s) (fun y => some (-1, y)) (n + 1) (nI i) σ = if nI (Q[i]'hi).1 = nI l then (if nI (Q[i]'hi).2 = nI s then some (nI i, σ) else fX5_indexOf_2 (nI l) (nI s) (fun y => some (-1, y)) n (nI (i + 1)) σ) else fX5_indexOf_2 (nI l) (nI s) (fun y => some (-1, y)) n (nI (i + 1)) σ := by
      show (if σ 4 0 2 ≤ nI i then _ else _) = _
      rw [hR.1, if_neg (nI_ge hi (by omega)), zIx_nI (show i < 16 by omega) (by decide), nI_clamp (by omega), e1, zIx_nI (show i < 16 by omega) (by decide), e2, zB_s, nI_1]
    simp only [zn_eq (show (Q[i]'hi).1 < 2 ^ 31 by omega) (show l < 2 ^ 31 by omega), zn_eq (show (Q[i]'hi).2 < 2 ^ 31 by omega) (show s < 2 ^ 31 by omega)] at hstep
    by_cases h1 : (Q[i]'hi).1 = l ∧ (Q[i]'hi).2 = s
    · right
      refine ⟨i, ?_, ?_⟩
      · rw [List.getElem?_eq_getElem hi, ← h1.1, ← h1.2]
      · show fX5_indexOf_2 _ _ _ _ _ _ = _
        rw [hstep, if_pos h1.1, if_pos h1.2]
    · left
      refine ⟨(), fun k hk => ?_, ?_⟩
      · rcases Nat.lt_or_ge k i with q | q
        · exact hI k q
        · have : k = i := by omega
          subst this
          rw [List.getElem?_eq_getElem hi]
          intro q2
          have q3 := Option.some.inj q2
          exact h1 ⟨by rw [q3], by rw [q3]⟩
      · show fX5_indexOf_2 _ _ _ _ _ _ = _
        rw [hstep]
        by_cases h2 : (Q[i]'hi).1 = l
        · rw [if_pos h2, if_neg (fun h3 => h1 ⟨h2, h3⟩)]
        · rw [if_neg h2]) (by
    intro n b _
    show (if σ 4 0 2 ≤ nI Q.length then _ else _) = _
    have hn : Q.length ≤ 16 := hV.1
    rw [hR.1, if_pos (nI_le (Nat.le_refl _) (by omega))]) Q.length 0 () zN (by omega) (by intro k hk; omega) (Nat.lt_of_le_of_lt hV.1 (by decide))
  rcases key with ⟨-, hI, e⟩ | h
  · refine Or.inr ⟨fun hm => ?_, e⟩
    obtain ⟨k, hk⟩ := List.getElem?_of_mem hm
    exact hI k (List.getElem?_eq_some_iff.mp hk).1 hk
  · exact Or.inl h
theorem e_isWanted {T : Nat} {Q : List (Nat × Nat)} {σ : zS} (hV : qV T Q) (hR : qR (σ 21 0 3) (σ 24 0) (σ 25 0) Q) {l s : Nat} (hl : l < 10) (hs : s < 8) : ((l, s) ∈ Q ∧ fX9_isWanted (nI l) (nI s) σ = some (1, σ)) ∨ ((l, s) ∉ Q ∧ fX9_isWanted (nI l) (nI s) σ = some (0, σ)) := by
  have key := zloopE (β := Unit) (L := fun n i _ => fX9_isWanted_2 (nI l) (nI s) (fun y => some (0, y)) n (nI i) σ) (fun i _ => ∀ k, k < i → Q[k]? ≠ some (l, s)) Q.length (fun _ => some (0, σ)) (fun o => (l, s) ∈ Q ∧ o = some (1, σ)) (by
    intro n i b hi hI
    have hn : Q.length ≤ 16 := hV.1
    obtain ⟨e1, e2⟩ := qR_at hR hi
    obtain ⟨v1, v2, -⟩ := hV.2.2 _ (List.getElem_mem hi)
    have hstep : fX9_isWanted_2 (nI l) (nI s) (fun y => some (0, y)) (n + 1) (nI i) σ = if nI (Q[i]'hi).1 = nI l then (if nI (Q[i]'hi).2 = nI s then some (1, σ) else fX9_isWanted_2 (nI l) (nI s) (fun y => some (0, y)) n (nI (i + 1)) σ) else fX9_isWanted_2 (nI l) (nI s) (fun y => some (0, y)) n (nI (i + 1)) σ := by
      show (if σ 21 0 3 ≤ nI i then _ else _) = _
      rw [hR.1, if_neg (nI_ge hi (by omega)), zIx_nI (show i < 16 by omega) (by decide), nI_clamp (by omega), e1, zIx_nI (show i < 16 by omega) (by decide), e2, zB_s, nI_1]
    simp only [zn_eq (show (Q[i]'hi).1 < 2 ^ 31 by omega) (show l < 2 ^ 31 by omega), zn_eq (show (Q[i]'hi).2 < 2 ^ 31 by omega) (show s < 2 ^ 31 by omega)] at hstep
    by_cases h1 : (Q[i]'hi).1 = l ∧ (Q[i]'hi).2 = s
    · right
      refine ⟨?_, ?_⟩
      · have := List.getElem_mem hi
        rw [show Q[i]'hi = (l, s) from Prod.ext h1.1 h1.2] at this
        exact this
      · show fX9_isWanted_2 _ _ _ _ _ _ = _
        rw [hstep, if_pos h1.1, if_pos h1.2]
    · left
      refine ⟨(), fun k hk => ?_, ?_⟩
      · rcases Nat.lt_or_ge k i with q | q
        · exact hI k q
        · have : k = i := by omega
          subst this
          rw [List.getElem?_eq_getElem hi]
          intro q2
          have q3 := Option.some.inj q2
          exact h1 ⟨by rw [q3], by rw [q3]⟩
      · show fX9_isWanted_2 _ _ _ _ _ _ = _
        rw [hstep]
        by_cases h2 : (Q[i]'hi).1 = l
        · rw [if_pos h2, if_neg (fun h3 => h1 ⟨h2, h3⟩)]
        · rw [if_neg h2]) (by
    intro n b _
    show (if σ 21 0 3 ≤ nI Q.length then _ else _) = _
    have hn : Q.length ≤ 16 := hV.1
    rw [hR.1, if_pos (nI_le (Nat.le_refl _) (by omega))]) Q.length 0 () zN (by omega) (by intro k hk; omega) (Nat.lt_of_le_of_lt hV.1 (by decide))
  rcases key with ⟨-, hI, e⟩ | h
  · refine Or.inr ⟨fun hm => ?_, e⟩
    obtain ⟨k, hk⟩ := List.getElem?_of_mem hm
    exact hI k (List.getElem?_eq_some_iff.mp hk).1 hk
  · exact Or.inl h
