/-- the set of openers -/
def opn (a x : Nat) (Hd : Nat → Nat) : Nat → Nat
  | 0 => 0
  | s + 1 => if a.testBit s && (rdN (lk x (Hd s))).isSome then opn a x Hd s ||| 2 ^ s else opn a x Hd s
theorem rv_some {y : Nat} (hy : y < 1024) : (rbI (nI y) = -9) = ((rdN y).isSome = false) := by
  rw [rd_dec y hy, rv_9 _ (fun l hl => (rd_y hl).1)]
  cases rdN y <;> simp
theorem e_openers {T a : Nat} {m : Int32} {Hd : Nat → Nat} {Q : List (Nat × Nat)} {σ : zS} (h : C1 T a m Hd Q σ) {x : Nat} (hx : x < 1024) : fX6_openers (nI x) σ = some (nI (opn a x Hd 8), σ) := by
  obtain ⟨hT, h1, ha, h2, h3, h4, hV, hR⟩ := h
  obtain ⟨c, hc, e⟩ := zloop (β := Nat) (L := fun n i c => fX6_openers_4 (nI x) (fun u y => some (u, y)) n (nI c) (nI i) σ) (fun i c => c = opn a x Hd i) 8 (fun c => some (nI c, σ)) (by
    intro n i c hi hc
    refine ⟨opn a x Hd (i + 1), rfl, ?_⟩
    obtain ⟨d1, d2, d3⟩ := h4 i hi
    have hlk : lk x (Hd i) < 1024 := Nat.lt_of_le_of_lt (lk_le _ _) hx
    show (if (8 : Int32) ≤ nI i then _ else _) = _
    rw [show (8 : Int32) = nI 8 from rfl, if_neg (nI_ge hi (by decide)), e_isOnAir ha hi h2, zCi_s, hc]
    show _ = fX6_openers_4 _ _ _ (nI (if a.testBit i && (rdN (lk x (Hd i))).isSome then opn a x Hd i ||| 2 ^ i else opn a x Hd i)) _ _
    cases hb : a.testBit i with
    | false => rw [if_pos (by decide), zB_s, nI_1]; rfl
    | true =>
      rw [if_neg (by decide), e_readBy hi d1, zCi_s]
      simp only [rv_some hlk]
      cases hq : (rdN (lk x (Hd i))).isSome with
      | false => rw [if_pos rfl, zB_s, nI_1]; rfl
      | true => rw [if_neg (by decide), zB_s, zB_s, nI_1, zn_shl i (by omega), zn_or]; rfl) (by
    intro n c _
    show (if (8 : Int32) ≤ nI 8 then _ else _) = _
    rw [if_pos (by decide)]) 8 0 0 zN (by decide) rfl (by decide)
  refine Eq.trans (show fX6_openers (nI x) σ = _ from e) ?_
  rw [hc]
theorem e_openersM {T a : Nat} {m : Int32} {Hd : Nat → Nat} {Q : List (Nat × Nat)} {σ : zS} (h : M1 T a m Hd Q σ) {x : Nat} (hx : x < 1024) : fX9_openers (nI x) σ = some (nI (opn a x Hd 8), σ) := by
  obtain ⟨hT, h1, ha, h2, h3, h4, hV, hR⟩ := h
  obtain ⟨c, hc, e⟩ := zloop (β := Nat) (L := fun n i c => fX9_openers_4 (nI x) (fun u y => some (u, y)) n (nI c) (nI i) σ) (fun i c => c = opn a x Hd i) 8 (fun c => some (nI c, σ)) (by
    intro n i c hi hc
    refine ⟨opn a x Hd (i + 1), rfl, ?_⟩
    obtain ⟨d1, d2, d3⟩ := h4 i hi
    have hlk : lk x (Hd i) < 1024 := Nat.lt_of_le_of_lt (lk_le _ _) hx
    show (if (8 : Int32) ≤ nI i then _ else _) = _
    rw [show (8 : Int32) = nI 8 from rfl, if_neg (nI_ge hi (by decide)), h2, e_isIn (by omega) (by omega), zCi_s, hc]
    show _ = fX9_openers_4 _ _ _ (nI (if a.testBit i && (rdN (lk x (Hd i))).isSome then opn a x Hd i ||| 2 ^ i else opn a x Hd i)) _ _
    cases hb : a.testBit i with
    | false => rw [if_pos (by decide), zB_s, zB_s, nI_1, zor0]; rfl
    | true =>
      rw [if_neg (by decide), e_readByM hi hx d1, zCi_s]
      simp only [rv_some hlk]
      cases hq : (rdN (lk x (Hd i))).isSome with
      | false => rw [if_pos rfl, zB_s, zB_s, nI_1, zor0]; rfl
      | true => rw [if_neg (by decide), zB_s, zB_s, nI_1, zn_shl i (by omega), zn_or]; rfl) (by
    intro n c _
    show (if (8 : Int32) ≤ nI 8 then _ else _) = _
    rw [if_pos (by decide)]) 8 0 0 zN (by decide) rfl (by decide)
  refine Eq.trans (show fX9_openers (nI x) σ = _ from e) ?_
  rw [hc]
theorem c_sum (a b : Int32) (σ : zS) (h : J1 σ) : Cs1 σ (fX8_sum a b) (fX9_sum a b) := by
  obtain ⟨T, Hd, Q, hI⟩ := id h
  obtain ⟨⟨hT, hA1, hA2⟩, hB, hC, hD, hE⟩ := id hI
  obtain ⟨r, k1, k2⟩ := hI.C
  cases hb : sumB T a with
  | false => exact Cs1.same h (r := -2) (by unfold fX8_sum; rw [e_isSum _ _ hA1, hb]; rfl) (by unfold fX9_sum; rw [e_isSumM hT _ _ hA2, hb]; rfl)
  | true =>
    obtain ⟨x, x0, x1, rfl, x2⟩ := sumB_y hT hb
    by_cases b0 : b = 0
    · obtain ⟨v, hv, e1, e2⟩ := e_body hC x1
      exact Cs1.same h (r := nI v) (by unfold fX8_sum; rw [e_isSum _ _ hA1, hb, zCi_s, if_neg (by decide), if_pos b0, e1]; rfl) (by unfold fX9_sum; rw [e_isSumM hT _ _ hA2, hb, zCi_s, if_neg (by decide), if_pos b0, e2]; rfl)
    · by_cases b1 : b = 1
      · exact Cs1.same h (r := nI (cnt r Hd Q x)) (by unfold fX8_sum; rw [e_isSum _ _ hA1, hb, zCi_s, if_neg (by decide), if_neg b0, if_pos b1, e_countServed k1 x1]; rfl) (by unfold fX9_sum; rw [e_isSumM hT _ _ hA2, hb, zCi_s, if_neg (by decide), if_neg b0, if_pos b1, e_manyServed k2 x1]; rfl)
      · by_cases b2 : b = 2
        · exact Cs1.same h (r := nI (opn r x Hd 8)) (by unfold fX8_sum; rw [e_isSum _ _ hA1, hb, zCi_s, if_neg (by decide), if_neg b0, if_neg b1, if_pos b2, e_openers k1 x1]; rfl) (by unfold fX9_sum; rw [e_isSumM hT _ _ hA2, hb, zCi_s, if_neg (by decide), if_neg b0, if_neg b1, if_pos b2, e_openersM k2 x1]; rfl)
        · exact Cs1.same h (r := -2) (by unfold fX8_sum; rw [e_isSum _ _ hA1, hb, zCi_s, if_neg (by decide), if_neg b0, if_neg b1, if_neg b2]) (by unfold fX9_sum; rw [e_isSumM hT _ _ hA2, hb, zCi_s, if_neg (by decide), if_neg b0, if_neg b1, if_neg b2])
/-! the best sum -/
def fstA (a : Nat) (Q : List (Nat × Nat)) (k : Nat) : Prop := (∃ q : Nat × Nat, Q[k]? = some q ∧ a.testBit q.2 = true) ∧ ∀ (j : Nat) (q : Nat × Nat), j < k → Q[j]? = some q → a.testBit q.2 = false
def noA (a : Nat) (Q : List (Nat × Nat)) : Prop := ∀ (j : Nat) (q : Nat × Nat), Q[j]? = some q → a.testBit q.2 = false
theorem fst_case (a : Nat) (Q : List (Nat × Nat)) : noA a Q ∨ ∃ k, fstA a Q k := by
  by_cases h : ∃ k : Nat, ∃ q : Nat × Nat, Q[k]? = some q ∧ a.testBit q.2 = true
  · obtain ⟨k, hk, hmin⟩ := pk_least _ h
    refine Or.inr ⟨k, hk, fun j q hj hq => ?_⟩
    cases hb : a.testBit q.2 with
    | false => rfl
    | true => exact absurd ⟨q, hq, hb⟩ (hmin j hj)
  · refine Or.inl fun j q hq => ?_
    cases hb : a.testBit q.2 with
    | false => rfl
    | true => exact absurd ⟨j, q, hq, hb⟩ h
theorem e_first {T a : Nat} {m : Int32} {Hd : Nat → Nat} {Q : List (Nat × Nat)} {σ : zS} (h : C1 T a m Hd Q σ) : (noA a Q → fX6_firstOnAir σ = some (-1, σ)) ∧ ∀ k, fstA a Q k → fX6_firstOnAir σ = some (nI k, σ) := by
  obtain ⟨hT, h1, ha, h2, h3, h4, hV, hR⟩ := h
  have hn : Q.length ≤ 16 := hV.1
  have step : ∀ n i, (hi : i < Q.length) → fX6_firstOnAir_2 (fun y => some (-1, y)) (n + 1) (nI i) σ = if a.testBit (Q[i]'hi).2 then some (nI i, σ) else fX6_firstOnAir_2 (fun y => some (-1, y)) n (nI (i + 1)) σ := by
    intro n i hi
    obtain ⟨e1, e2⟩ := qR_at hR hi
    obtain ⟨v1, v2, -⟩ := hV.2.2 _ (List.getElem_mem hi)
    show (if σ 4 0 2 ≤ nI i then _ else _) = _
    rw [hR.1, if_neg (nI_ge hi (by omega)), zIx_nI (show i < 16 by omega) (by decide), nI_clamp (by omega), e2, e_isOnAir ha v2 h2, zCi_s]
    cases a.testBit (Q[i]'hi).2 with
    | false => rw [if_pos (by decide), zB_s, nI_1]; rfl
    | true => rw [if_neg (by decide)]; rfl
  constructor
  · intro hno
    obtain ⟨b, -, e⟩ := zloop (β := Unit) (L := fun n i _ => fX6_firstOnAir_2 (fun y => some (-1, y)) n (nI i) σ) (fun _ _ => True) Q.length (fun _ => some (-1, σ)) (fun n i b hi _ => ⟨(), trivial, by
      show fX6_firstOnAir_2 _ _ _ _ = _
      rw [step n i hi, hno i _ (List.getElem?_eq_getElem hi)]; rfl⟩) (fun n b _ => by
      show (if σ 4 0 2 ≤ nI Q.length then _ else _) = _
      rw [hR.1, if_pos (nI_le (Nat.le_refl _) (by omega))]) Q.length 0 () zN (by omega) trivial (Nat.lt_of_le_of_lt hn (by decide))
    exact e
  · intro k hk
    obtain ⟨⟨q, hq, hb⟩, hmin⟩ := hk
    have hkl := (List.getElem?_eq_some_iff.mp hq).1
    have hqe : Q[k]'hkl = q := (List.getElem?_eq_some_iff.mp hq).2
    obtain ⟨b, -, e⟩ := zloop (β := Unit) (L := fun n i _ => fX6_firstOnAir_2 (fun y => some (-1, y)) n (nI i) σ) (fun _ _ => True) k (fun _ => some (nI k, σ)) (fun n i b hi _ => ⟨(), trivial, by
      show fX6_firstOnAir_2 _ _ _ _ = _
      rw [step n i (by omega), hmin i _ hi (List.getElem?_eq_getElem (by omega))]; rfl⟩) (fun n b _ => by
      show fX6_firstOnAir_2 _ _ _ _ = _
      rw [step n k hkl, hqe, hb]; rfl) k 0 () zN (by omega) trivial (Nat.lt_of_le_of_lt (show k ≤ 16 by omega) (by decide))
    exact e
theorem e_firstM {T a : Nat} {m : Int32} {Hd : Nat → Nat} {Q : List (Nat × Nat)} {σ : zS} (h : M1 T a m Hd Q σ) (k0 : Int32 → zS → Option (Int32 × zS)) : (noA a Q → fX9_bestSum_2 k0 zN 0 σ = k0 (nI Q.length) σ) ∧ ∀ k, fstA a Q k → fX9_bestSum_2 k0 zN 0 σ = k0 (nI k) σ := by
  obtain ⟨hT, h1, ha, h2, h3, h4, hV, hR⟩ := h
  have hn : Q.length ≤ 16 := hV.1
  have step : ∀ n i, (hi : i < Q.length) → fX9_bestSum_2 k0 (n + 1) (nI i) σ = if a.testBit (Q[i]'hi).2 then k0 (nI i) σ else fX9_bestSum_2 k0 n (nI (i + 1)) σ := by
    intro n i hi
    obtain ⟨e1, e2⟩ := qR_at hR hi
    obtain ⟨v1, v2, -⟩ := hV.2.2 _ (List.getElem_mem hi)
    show (if σ 21 0 3 ≤ nI i then _ else _) = _
    rw [hR.1, if_neg (nI_ge hi (by omega)), zIx_nI (show i < 16 by omega) (by decide), nI_clamp (by omega), e2, h2, e_isIn (by omega) (by omega), zCi_s]
    cases a.testBit (Q[i]'hi).2 with
    | false => rw [if_pos (by decide), zB_s, nI_1]; rfl
    | true => rw [if_neg (by decide)]; rfl
  constructor
  · intro hno
    obtain ⟨b, -, e⟩ := zloop (β := Unit) (L := fun n i _ => fX9_bestSum_2 k0 n (nI i) σ) (fun _ _ => True) Q.length (fun _ => k0 (nI Q.length) σ) (fun n i b hi _ => ⟨(), trivial, by
      show fX9_bestSum_2 _ _ _ _ = _
      rw [step n i hi, hno i _ (List.getElem?_eq_getElem hi)]; rfl⟩) (fun n b _ => by
      show (if σ 21 0 3 ≤ nI Q.length then _ else _) = _
      rw [hR.1, if_pos (nI_le (Nat.le_refl _) (by omega))]) Q.length 0 () zN (by omega) trivial (Nat.lt_of_le_of_lt hn (by decide))
    exact e
  · intro k hk
    obtain ⟨⟨q, hq, hb⟩, hmin⟩ := hk
    have hkl := (List.getElem?_eq_some_iff.mp hq).1
    have hqe : Q[k]'hkl = q := (List.getElem?_eq_some_iff.mp hq).2
    obtain ⟨b, -, e⟩ := zloop (β := Unit) (L := fun n i _ => fX9_bestSum_2 k0 n (nI i) σ) (fun _ _ => True) k (fun _ => k0 (nI k) σ) (fun n i b hi _ => ⟨(), trivial, by
      show fX9_bestSum_2 _ _ _ _ = _
      rw [step n i (by omega), hmin i _ hi (List.getElem?_eq_getElem (by omega))]; rfl⟩) (fun n b _ => by
      show fX9_bestSum_2 _ _ _ _ = _
      rw [step n k hkl, hqe, hb]; rfl) k 0 () zN (by omega) trivial (Nat.lt_of_le_of_lt (show k ≤ 16 by omega) (by decide))
    exact e
/-- is x better than the best so far (0: none)? -/
def btr (a : Nat) (m : Int32) (Hd : Nat → Nat) (Q : List (Nat × Nat)) (q : Nat × Nat) (b x : Nat) : Prop := lk x (Hd q.2) = 2 ^ q.1 ∧ ¬ m < bcI (nI x) ∧ (b = 0 ∨ cnt a Hd Q b < cnt a Hd Q x ∨ (cnt a Hd Q x = cnt a Hd Q b ∧ bcI (nI x) < bcI (nI b)))
noncomputable def bst (a : Nat) (m : Int32) (Hd : Nat → Nat) (Q : List (Nat × Nat)) (q : Nat × Nat) : Nat → Nat
  | 0 => 0
  | x + 1 => @ite _ (btr a m Hd Q q (bst a m Hd Q q x) x) (Classical.propDecidable _) x (bst a m Hd Q q x)
theorem bst_lt {a : Nat} {m : Int32} {Hd : Nat → Nat} {Q : List (Nat × Nat)} {q : Nat × Nat} : ∀ x, bst a m Hd Q q x ≤ x
  | 0 => Nat.le_refl 0
  | x + 1 => by
    show @ite _ _ (Classical.propDecidable _) x (bst a m Hd Q q x) ≤ x + 1
    have := bst_lt (a := a) (m := m) (Hd := Hd) (Q := Q) (q := q) x
    split <;> omega
theorem bc0 : bcI (nI 0) = 0 := by decide
theorem bc_pos : ∀ x, x < 1024 → ¬ bcI (nI x) < 0 := by decide +kernel
theorem cnt_pos {a : Nat} {Hd : Nat → Nat} {Q : List (Nat × Nat)} {q : Nat × Nat} {x : Nat} (hq : q ∈ Q) (ha : a.testBit q.2 = true) (h1 : q.1 < 10) (h : lk x (Hd q.2) = 2 ^ q.1) : 0 < cnt a Hd Q x := by
  unfold cnt
  apply List.countP_pos_iff.mpr
  refine ⟨q, hq, ?_⟩
  unfold srv
  rw [ha, h, rd_pow _ h1]; simp
theorem bst_cand {a : Nat} {m : Int32} {Hd : Nat → Nat} {Q : List (Nat × Nat)} {q : Nat × Nat} : ∀ x, bst a m Hd Q q x = 0 ∨ lk (bst a m Hd Q q x) (Hd q.2) = 2 ^ q.1
  | 0 => Or.inl rfl
  | x + 1 => by
    show @ite _ _ (Classical.propDecidable _) x (bst a m Hd Q q x) = 0 ∨ lk (@ite _ _ (Classical.propDecidable _) x (bst a m Hd Q q x)) (Hd q.2) = 2 ^ q.1
    by_cases h : btr a m Hd Q q (bst a m Hd Q q x) x
    · rw [if_pos h]; exact Or.inr h.1
    · rw [if_neg h]; exact bst_cand x
theorem nI_x0 {a : Nat} (ha : a < 2 ^ 32) : (nI a = 0) = (a = 0) := by
  apply propext
  constructor
  · intro h
    have h4 := congrArg (fun z : Int32 => z.toBitVec.toNat) h
    rw [show (nI a).toBitVec.toNat = a from pk_tn ha] at h4
    exact h4
  · rintro rfl; rfl
theorem e_findBest {T a : Nat} {m : Int32} {Hd : Nat → Nat} {Q : List (Nat × Nat)} {σ : zS} (h : C1 T a m Hd Q σ) : (noA a Q → fX6_findBest σ = some (nI 0, σ)) ∧ ∀ k q, fstA a Q k → Q[k]? = some q → fX6_findBest σ = some (nI (bst a m Hd Q q 1024), σ) := by
  have hh := h
  obtain ⟨hT, h1, ha, h2, h3, h4, hV, hR⟩ := h
  have hn : Q.length ≤ 16 := hV.1
  constructor
  · intro hno
    unfold fX6_findBest
    rw [(e_first hh).1 hno, zCi_s, if_neg (by decide)]; rfl
  · intro k q hk hq
    have hkl := (List.getElem?_eq_some_iff.mp hq).1
    have hmem := List.mem_of_getElem? hq
    obtain ⟨v1, v2, v3⟩ := hV.2.2 q hmem
    obtain ⟨e1, e2⟩ := hR.2 k q hq
    obtain ⟨d1, d2, d3⟩ := h4 _ v2
    have hair : a.testBit q.2 = true := by
      obtain ⟨⟨q', hq', hb⟩, -⟩ := hk
      rw [hq] at hq'; cases hq'; exact hb
    unfold fX6_findBest
    rw [(e_first hh).2 k hk, zCi_s, if_pos (nI_pos' (by omega)), zIx_nI (show k < 16 by omega) (by decide), zB_s, zIx_nI (show k < 16 by omega) (by decide), nI_clamp (by omega), e1, e2, zIx_nI v2 (by decide), zB_s, nI_clamp (by omega), d1, zn_shl _ (by omega)]
    let F : Nat → Nat := fun B => if B = 0 then 0 else cnt a Hd Q B
    have hF : ∀ B, F B ≤ 16 := fun B => by
      show (if B = 0 then 0 else cnt a Hd Q B) ≤ 16
      split
      · omega
      · exact Nat.le_trans cnt_le hn
    obtain ⟨u, -, e⟩ := zloop (β := Unit) (L := fun n i _ => fX6_findBest_47 (nI (2 ^ q.1)) (nI (Hd q.2)) (fun u y => some (u, y)) n (nI (bst a m Hd Q q i)) (nI (F (bst a m Hd Q q i))) (nI i) σ) (fun i _ => 1 ≤ i) 1024 (fun _ => some (nI (bst a m Hd Q q 1024), σ)) (by
      intro n i b hi h1i
      refine ⟨(), by omega, ?_⟩
      have hB := bst_lt (a := a) (m := m) (Hd := Hd) (Q := Q) (q := q) i
      have hs : bst a m Hd Q q (i + 1) = @ite _ (btr a m Hd Q q (bst a m Hd Q q i) i) (Classical.propDecidable _) i (bst a m Hd Q q i) := rfl
      rw [hs]
      generalize hBe : bst a m Hd Q q i = B at hB ⊢
      show (if (1023 : Int32) < nI i then _ else _) = _
      rw [show (1023 : Int32) = nI 1023 from rfl, if_neg (nI_nlt (b := i) (a := 1023) (by omega) (by decide)), zn_lk]
      have hlk : lk i (Hd q.2) < 1024 := Nat.lt_of_le_of_lt (lk_le _ _) hi
      have hc1 : (nI (lk i (Hd q.2)) = nI (2 ^ q.1)) = (lk i (Hd q.2) = 2 ^ q.1) := zn_eq (by omega) (Nat.lt_trans (zpow_lt v1) (by decide))
      simp only [hc1]
      by_cases hc : lk i (Hd q.2) = 2 ^ q.1
      · rw [if_pos hc, e_bitCount, zCi_s, h3]
        by_cases hm : m < bcI (nI i)
        · rw [if_pos hm, zB_s, nI_1, if_neg (fun z => z.2.1 hm)]
        · rw [if_neg hm, e_countServed hh hi, zCi_s, e_bitCount, zCi_s, e_bitCount, zCi_s]
          have hcp : 0 < cnt a Hd Q i := cnt_pos hmem hair v1 hc
          have hcl : cnt a Hd Q i ≤ 16 := Nat.le_trans cnt_le hn
          have hFl := hF B
          have g1 : (nI (F B) < nI (cnt a Hd Q i)) = (F B < cnt a Hd Q i) := zn_lt (by omega) (by omega)
          have g2 : (nI (cnt a Hd Q i) = nI (F B)) = (cnt a Hd Q i = F B) := zn_eq (by omega) (by omega)
          simp only [g1, g2]
          have hbt : btr a m Hd Q q B i ↔ (F B < cnt a Hd Q i ∨ (cnt a Hd Q i = F B ∧ ¬ bcI (nI B) ≤ bcI (nI i))) := by
            by_cases hB0 : B = 0
            · subst hB0
              exact ⟨fun _ => Or.inl hcp, fun _ => ⟨hc, hm, Or.inl rfl⟩⟩
            · have hFe : F B = cnt a Hd Q B := if_neg hB0
              rw [hFe]
              constructor
              · rintro ⟨-, -, z | z | z⟩
                · exact absurd z hB0
                · exact Or.inl z
                · exact Or.inr ⟨z.1, by rw [← zlt_le]; exact z.2⟩
              · rintro (z | z)
                · exact ⟨hc, hm, Or.inr (Or.inl z)⟩
                · exact ⟨hc, hm, Or.inr (Or.inr ⟨z.1, by rw [zlt_le]; exact z.2⟩)⟩
          have hFi : F i = cnt a Hd Q i := if_neg (by omega)
          by_cases hle : bcI (nI B) ≤ bcI (nI i)
          · rw [if_pos hle]
            by_cases hlt : F B < cnt a Hd Q i
            · rw [if_pos hlt, zB_s, nI_1, if_pos (hbt.mpr (Or.inl hlt)), hFi]
            · have hno : ¬ btr a m Hd Q q B i := fun z => (hbt.mp z).elim hlt (fun y => y.2 hle)
              rw [if_neg hlt, if_neg hno]
              split
              · rw [if_pos trivial, zB_s, nI_1]
              · rw [zB_s, nI_1]
          · rw [if_neg hle]
            by_cases hlt : F B < cnt a Hd Q i
            · rw [if_pos hlt, zB_s, nI_1, if_pos (hbt.mpr (Or.inl hlt)), hFi]
            · rw [if_neg hlt]
              by_cases heq : cnt a Hd Q i = F B
              · rw [if_pos heq, if_neg (by decide), zB_s, nI_1, if_pos (hbt.mpr (Or.inr ⟨heq, hle⟩)), hFi]
              · have hno : ¬ btr a m Hd Q q B i := fun z => (hbt.mp z).elim hlt (fun y => heq y.1)
                rw [if_neg heq, zB_s, nI_1, if_neg hno]
      · rw [if_neg hc, zB_s, nI_1, if_neg (fun z => hc z.1)]) (by
      intro n b _
      show (if (1023 : Int32) < nI 1024 then _ else _) = _
      rw [if_pos (by decide)]) 1023 1 () zN (by decide) (by decide) (by decide)
    have hb1 : bst a m Hd Q q 1 = 0 := by
      have := bst_lt (a := a) (m := m) (Hd := Hd) (Q := Q) (q := q) 0
      show @ite _ (btr a m Hd Q q 0 0) (Classical.propDecidable _) 0 0 = 0
      split <;> rfl
    rw [hb1] at e
    exact e
theorem e_bestSum {T a : Nat} {m : Int32} {Hd : Nat → Nat} {Q : List (Nat × Nat)} {σ : zS} (h : M1 T a m Hd Q σ) : (noA a Q → fX9_bestSum σ = some (nI 0, σ)) ∧ ∀ k q, fstA a Q k → Q[k]? = some q → fX9_bestSum σ = some (nI (bst a m Hd Q q 1024), σ) := by
  have hh := h
  obtain ⟨hT, h1, ha, h2, h3, h4, hV, hR⟩ := h
  have hn : Q.length ≤ 16 := hV.1
  constructor
  · intro hno
    unfold fX9_bestSum
    rw [(e_firstM hh _).1 hno]
    show (if (1024 : Int32) ≤ 1 then _ else _) = _
    rw [if_neg (by decide), hR.1, if_pos (nI_le (Nat.le_refl _) (by omega))]; rfl
  · intro k q hk hq
    have hkl := (List.getElem?_eq_some_iff.mp hq).1
    have hqe : Q[k]'hkl = q := (List.getElem?_eq_some_iff.mp hq).2
    have hmem := List.mem_of_getElem? hq
    obtain ⟨v1, v2, v3⟩ := hV.2.2 q hmem
    obtain ⟨d1, d2, d3⟩ := h4 _ v2
    have hair : a.testBit q.2 = true := by
      obtain ⟨⟨q', hq', hb⟩, -⟩ := hk
      rw [hq] at hq'; cases hq'; exact hb
    unfold fX9_bestSum
    rw [(e_firstM hh _).2 k hk]
    obtain ⟨u, -, e⟩ := zloop (β := Unit) (L := fun n i _ => fX9_bestSum_36 (nI k) (fun u y => some (u, y)) n (nI (bst a m Hd Q q i)) (nI i) σ) (fun i _ => 1 ≤ i) 1024 (fun _ => some (nI (bst a m Hd Q q 1024), σ)) (by
      intro n i b hi h1i
      refine ⟨(), by omega, ?_⟩
      have hB := bst_lt (a := a) (m := m) (Hd := Hd) (Q := Q) (q := q) i
      have hs : bst a m Hd Q q (i + 1) = @ite _ (btr a m Hd Q q (bst a m Hd Q q i) i) (Classical.propDecidable _) i (bst a m Hd Q q i) := rfl
      rw [hs]
      generalize hBe : bst a m Hd Q q i = B at hB ⊢
      show (if (1024 : Int32) ≤ nI i then _ else _) = _
      rw [show (1024 : Int32) = nI 1024 from rfl, if_neg (nI_ge hi (by decide)), hR.1, if_neg (nI_ge hkl (by omega)), e_isSumM hT _ _ h1, zCi_s]
      have hlk : lk i (Hd q.2) < 1024 := Nat.lt_of_le_of_lt (lk_le _ _) hi
      cases hsb : sumB T (nI i) with
      | false =>
        rw [if_pos (by decide), zB_s, nI_1, if_neg]
        intro z
        have : lk i T = 0 := by
          apply (lk0 (by omega)).mpr
          intro j hj hij
          cases hhj : (Hd q.2).testBit j with
          | true => exact (lk0 (by omega)).mp d3 j hj hhj
          | false =>
            have := lk_bit (a := i) (b := Hd q.2) hj
            rw [z.1, hij, hhj, zpow_bit] at this
            have e5 : q.1 = j := by simpa using this
            rw [← e5]; exact v3
        have h6 : sumB T (nI i) = true := by
          unfold sumB
          rw [zn_lk, this, decide_eq_true (show ¬ nI i ≤ 0 from nI_nle (by omega) (by omega))]
          rfl
        rw [h6] at hsb; cases hsb
      | true =>
        rw [if_neg (by decide), e_size, zCi_s, h3, rb_dec _ hi]
        by_cases hm : m < bcI (nI i)
        · rw [if_pos hm, zB_s, nI_1, if_neg (fun z => z.2.1 hm)]
        · rw [if_neg hm, e_serves hh hi hkl, hqe, zCi_s]
          have hsv : srv a i Hd q = true ↔ lk i (Hd q.2) = 2 ^ q.1 := by
            unfold srv
            rw [hair]
            simp
            constructor
            · intro z; exact (rd_y z).2
            · intro z; rw [z]; exact rd_pow _ v1
          cases hsr : srv a i Hd q with
          | false =>
            rw [if_pos (by decide), zB_s, nI_1, if_neg]
            intro z
            rw [hsv.mpr z.1] at hsr; cases hsr
          | true =>
            have hc := hsv.mp hsr
            rw [if_neg (by decide)]
            have hcl : cnt a Hd Q i ≤ 16 := Nat.le_trans cnt_le hn
            have hcB : cnt a Hd Q B ≤ 16 := Nat.le_trans cnt_le hn
            have hib : fX9_isBetter (nI i) (nI B) σ = some (@ite _ (btr a m Hd Q q B i) (Classical.propDecidable _) 1 0, σ) := by
              unfold fX9_isBetter
              rw [e_manyServed hh hi, zCi_s, e_manyServed hh (show B < 1024 by omega), zCi_s, zB_s]
              by_cases hB0 : B = 0
              · rw [if_pos (by rw [hB0]; rfl), if_pos ⟨hc, hm, Or.inl hB0⟩]
              · have g0 : ¬ nI B = 0 := nI_ne0 (by omega) (by omega)
                rw [if_neg g0]
                have g1 : (0 < nI (cnt a Hd Q i) - nI (cnt a Hd Q B)) = (cnt a Hd Q B < cnt a Hd Q i) := by
                  apply propext
                  rw [Int32.lt_iff_toInt_lt, pk_sub_toInt (by omega) (by omega)]
                  have : (0 : Int32).toInt = 0 := rfl
                  omega
                have g2 : (nI (cnt a Hd Q i) - nI (cnt a Hd Q B) = 0) = (cnt a Hd Q i = cnt a Hd Q B) := by
                  apply propext
                  rw [← Int32.toInt_inj, pk_sub_toInt (by omega) (by omega)]
                  have : (0 : Int32).toInt = 0 := rfl
                  omega
                simp only [g1, g2]
                by_cases hlt : cnt a Hd Q B < cnt a Hd Q i
                · rw [if_pos hlt, if_pos ⟨hc, hm, Or.inr (Or.inl hlt)⟩]
                · rw [if_neg hlt]
                  by_cases heq : cnt a Hd Q i = cnt a Hd Q B
                  · rw [if_pos heq, e_size, zCi_s, e_size, zCi_s, rb_dec _ hi, rb_dec _ (show B < 1024 by omega)]
                    by_cases hle : bcI (nI B) ≤ bcI (nI i)
                    · rw [if_pos hle, if_neg]
                      rintro ⟨-, -, z | z | z⟩
                      · exact hB0 z
                      · exact hlt z
                      · have := z.2; rw [zlt_le] at this; exact this hle
                    · rw [if_neg hle, if_pos ⟨hc, hm, Or.inr (Or.inr ⟨heq, by rw [zlt_le]; exact hle⟩)⟩]
                  · rw [if_neg heq, if_neg]
                    rintro ⟨-, -, z | z | z⟩
                    · exact hB0 z
                    · exact hlt z
                    · exact heq z.1
            rw [hib, zCi_s]
            by_cases hbt : btr a m Hd Q q B i
            · rw [if_pos hbt, if_pos hbt, if_neg (by decide), zB_s, nI_1]
            · rw [if_neg hbt, if_neg hbt, if_pos rfl, zB_s, nI_1]) (by
      intro n b _
      show (if (1024 : Int32) ≤ nI 1024 then _ else _) = _
      rw [if_pos (by decide)]) 1023 1 () zN (by decide) (by decide) (by decide)
    have hb1 : bst a m Hd Q q 1 = 0 := by
      show @ite _ (btr a m Hd Q q 0 0) (Classical.propDecidable _) 0 0 = 0
      split <;> rfl
    rw [hb1] at e
    exact e
/-- the best sum, as both tell it -/
theorem best_both {T a : Nat} {m : Int32} {Hd : Nat → Nat} {Q : List (Nat × Nat)} : ∃ B, B < 1025 ∧ (∀ σ, C1 T a m Hd Q σ → fX6_findBest σ = some (nI B, σ)) ∧ (∀ σ, M1 T a m Hd Q σ → fX9_bestSum σ = some (nI B, σ)) ∧ (T < 1024 → (∀ s, s < 8 → Hd s < 1024 ∧ lk (Hd s) T = 0) → qV T Q → B = 0 ∨ (0 < B ∧ B < 1024 ∧ lk B T = 0)) := by
  rcases fst_case a Q with hno | ⟨k, hk⟩
  · exact ⟨0, by decide, fun σ h => (e_findBest h).1 hno, fun σ h => (e_bestSum h).1 hno, fun _ _ _ => Or.inl rfl⟩
  · obtain ⟨q, hq, hb⟩ := hk.1
    refine ⟨bst a m Hd Q q 1024, by have := bst_lt (a := a) (m := m) (Hd := Hd) (Q := Q) (q := q) 1024; omega, fun σ h => (e_findBest h).2 k q hk hq, fun σ h => (e_bestSum h).2 k q hk hq, fun hT hD hV => ?_⟩
    obtain ⟨v1, v2, v3⟩ := hV.2.2 q (List.mem_of_getElem? hq)
    obtain ⟨d2, d3⟩ := hD _ v2
    rcases bst_cand (a := a) (m := m) (Hd := Hd) (Q := Q) (q := q) 1024 with z | z
    · exact Or.inl z
    · right
      have hle := bst_lt (a := a) (m := m) (Hd := Hd) (Q := Q) (q := q) 1024
      generalize bst a m Hd Q q 1024 = B at z hle
      have hl0 : lk B T = 0 := by
        apply (lk0 (by omega)).mpr
        intro j hj hij
        cases hhj : (Hd q.2).testBit j with
        | true => exact (lk0 (by omega)).mp d3 j hj hhj
        | false =>
          have := lk_bit (a := B) (b := Hd q.2) hj
          rw [z, hij, hhj, zpow_bit] at this
          have e5 : q.1 = j := by simpa using this
          rw [← e5]; exact v3
      have hpos : 0 < B := by
        rcases Nat.eq_zero_or_pos B with e | e
        · exfalso
          rw [e] at z
          have hz : lk 0 (Hd q.2) = 0 := Nat.le_zero.mp (lk_le _ _)
          rw [hz] at z
          have := Nat.two_pow_pos q.1
          omega
        · exact e
      refine ⟨hpos, ?_, hl0⟩
      rcases Nat.lt_or_ge B 1024 with y | y
      · exact y
      · exfalso
        have hB : B = 1024 := by omega
        have h1 := (lk0 (show B < 2 ^ 32 by omega)).mp hl0 10 (by decide) (by rw [hB]; decide)
        rw [zbit_big (k := 10) hT (Nat.le_refl 10)] at h1
        cases h1
theorem c_best (σ : zS) (h : J1 σ) : Cs1 σ fX8_best fX9_best := by
  obtain ⟨T, Hd, Q, hI⟩ := id h
  obtain ⟨a, k1, k2⟩ := hI.C
  obtain ⟨B, -, e1, e2, -⟩ := best_both (T := T) (a := a) (m := σ 1 0 5) (Hd := Hd) (Q := Q)
  exact Cs1.same h (r := nI B) (by unfold fX8_best; rw [e1 σ k1]; rfl) (by unfold fX9_best; rw [e2 σ k2]; rfl)
