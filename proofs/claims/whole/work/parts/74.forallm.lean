/-! forAll, of the reference -/
section FB
variable {p n a : Nat} {LD : Nat → Nat → Bool} {MM : Nat → Nat → Nat → Int}
theorem alF_i {m : Nat} : alF p a LD MM m = 0 ↔ ∃ b, b < 4 ∧ alq p a LD MM m b = false := by
  unfold alF
  constructor
  · intro h
    rcases Nat.lt_or_ge (fl (fun b => if alq p a LD MM m b = true then 0 else 1) 4) 4 with z | z
    · refine ⟨_, z, ?_⟩
      have := fl_n _ 4 z
      cases hq : alq p a LD MM m (fl (fun b => if alq p a LD MM m b = true then 0 else 1) 4) with
      | false => rfl
      | true => rw [hq, if_pos rfl] at this; exact absurd rfl this
    · rw [if_neg (by omega)] at h; exact absurd h (by decide)
  · rintro ⟨b, hb, hq⟩
    rcases Nat.lt_or_ge (fl (fun b => if alq p a LD MM m b = true then 0 else 1) 4) 4 with z | z
    · rw [if_pos z]
    · have := fl_0 (fun b => if alq p a LD MM m b = true then 0 else 1) 4 b (by omega)
      rw [hq, if_neg (by decide)] at this
      exact absurd this (by decide)
theorem e_isNewToAll {x m S : Nat} {σ : zS} (hp : pp p) (h12 : σ 21 0 12 = nI p) (hx : x < 3) (ha : a < 4) (hn : n ≤ 5) (h28 : σ 28 0 x = nI n) (hR : ∀ j, j < 4 → Rf p n (LD j) (MM j) ∧ mN σ (4 * x + j) n (LD j) (MM j)) (hS : S < 16) (hb : ∀ b, b < 4 → S.testBit b = rsF p a LD MM b) (h34 : mV (σ 34 0) n (mv p (MM a) (Sl (LD a) 5) m)) : ∃ σ', fX9_isNewToAll (nI x) (nI S) σ = some (if alF p a LD MM m = 0 then 0 else 1, σ') ∧ ∀ k i j, k ≠ 35 → σ' k i j = σ k i j := by
  have hpb := hp.b
  have := zloopE (β := zS) (L := fun t i w => fX9_isNewToAll_2 (nI x) (nI S) (fun y => some ((1 : Int32), y)) t (nI i) w) (fun i w => (∀ b, b < i → alq p a LD MM m b = true) ∧ ∀ k i j, k ≠ 35 → w k i j = σ k i j) 4 (fun w => some (1, w)) (fun o => alF p a LD MM m = 0 ∧ ∃ w : zS, o = some (0, w) ∧ ∀ k i j, k ≠ 35 → w k i j = σ k i j) (by
    rintro t i w hi ⟨w1, w2⟩
    obtain ⟨r1, r2⟩ := hR i hi
    have hst0 : fX9_isNewToAll_2 (nI x) (nI S) (fun y => some ((1 : Int32), y)) (t + 1) (nI i) w = if rsF p a LD MM i = true then zCi (fX9_isNewTo (nI x) (nI i) w) (fun x6 s5 => if x6 = 0 then some ((0 : Int32), s5) else fX9_isNewToAll_2 (nI x) (nI S) (fun y => some ((1 : Int32), y)) t (nI (i + 1)) s5) else fX9_isNewToAll_2 (nI x) (nI S) (fun y => some ((1 : Int32), y)) t (nI (i + 1)) w := by
      show (if (4 : Int32) ≤ nI i then _ else _) = _
      rw [if_neg (lg4 hi), e_isIn (by omega) (by omega), zCi_s, hb i hi]
      simp only [zB_s, nI_1]
      cases rsF p a LD MM i <;> rfl
    cases hrs : rsF p a LD MM i with
    | false =>
      refine Or.inl ⟨w, ⟨fun b hb' => ?_, w2⟩, ?_⟩
      · rcases (show b < i ∨ b = i by omega) with q | rfl
        · exact w1 b q
        · unfold alq; rw [hrs]; rfl
      · rw [hst0, hrs, if_neg (by decide)]
    | true =>
      obtain ⟨w', ew, mw, fw⟩ := e_isNewTo (σ := w) (j := i) (v := mv p (MM a) (Sl (LD a) 5) m) hp (by rw [w2 _ _ _ (by decide)]; exact h12) hx hi hn (by rw [w2 _ _ _ (by decide)]; exact h28) r1 (r2.c hn (w2 _ _ _ (by decide)) (fun j _ _ => w2 _ _ _ (by decide))) (mv_V (by omega) (hR a ha).1 m) (fun i hi => by rw [w2 34 0 i (by decide)]; exact h34 i hi)
      have fw' : ∀ k i j, k ≠ 35 → w' k i j = σ k i j := fun k i j hk => by rw [fw k i j hk]; exact w2 k i j hk
      rw [hrs, if_pos rfl, ew, zCi_s] at hst0
      by_cases hN : isN p (LD i) (MM i) (mv p (MM a) (Sl (LD a) 5) m) = true
      · refine Or.inl ⟨w', ⟨fun b hb' => ?_, fw'⟩, ?_⟩
        · rcases (show b < i ∨ b = i by omega) with q | rfl
          · exact w1 b q
          · unfold alq; rw [hrs, hN]; rfl
        · rw [hst0, hN, if_pos rfl, if_neg (by decide)]
      · refine Or.inr ⟨alF_i.2 ⟨i, hi, ?_⟩, w', ?_, fw'⟩
        · unfold alq; rw [hrs, show isN p (LD i) (MM i) (mv p (MM a) (Sl (LD a) 5) m) = false by simpa using hN]; rfl
        · rw [hst0, if_neg hN, if_pos rfl]) (by
    rintro t w _
    show (if (4 : Int32) ≤ nI 4 then _ else _) = _
    rw [if_pos (by decide)]) 4 0 σ zN (by decide) ⟨fun b hb => absurd hb (by omega), fun _ _ _ _ => rfl⟩ (by decide)
  rcases this with ⟨w, ⟨w1, w2⟩, e⟩ | ⟨h0, w, e, w2⟩
  · refine ⟨w, ?_, w2⟩
    rw [if_neg (fun z => by
      obtain ⟨b, hb, hq⟩ := alF_i.1 z
      rw [w1 b hb] at hq; exact absurd hq (by decide))]
    exact e
  · exact ⟨w, by rw [if_pos h0]; exact e, w2⟩
theorem e_forAllM {x : Nat} {σ : zS} (hp : pp p) (h12 : σ 21 0 12 = nI p) (hx : x < 3) (ha : a < 4) (hn : n ≤ 5) (h28 : σ 28 0 x = nI n) (hR : ∀ j, j < 4 → Rf p n (LD j) (MM j) ∧ mN σ (4 * x + j) n (LD j) (MM j)) : ∃ σ', fX9_forAll_27 (nI a) (nI x) (fun (u4_27_5 : Int32) (y27_5 : zS) => (fX9_forAll_74 (nI a) (nI x) u4_27_5 (fun (y74_6 : zS) => (some ((-9 : Int32), y74_6) : Option (Int32 × zS))) zN (0 : Int32) y27_5 : Option (Int32 × zS))) zN 0 0 σ = some (if (∃ b, b < 4 ∧ rsF p a LD MM b = true) ∧ fl (alF p a LD MM) (p ^ (Sl (LD a) 5).length) < p ^ (Sl (LD a) 5).length then nI (fl (alF p a LD MM) (p ^ (Sl (LD a) 5).length)) else -9, σ') ∧ ∀ k i j, k ≠ 34 → k ≠ 35 → σ' k i j = σ k i j := by
  have hpb := hp.b
  have hlen := Sl_len (LD a) 5
  have hpl := p_lt hp hlen
  have hp1 : 1 ≤ p ^ (Sl (LD a) 5).length := Nat.one_le_pow _ _ (by omega)
  obtain ⟨ra, ca⟩ := hR a ha
  have hmN : ∀ w : zS, (∀ k i j, k ≠ 34 → k ≠ 35 → w k i j = σ k i j) → ∀ j, j < 4 → Rf p n (LD j) (MM j) ∧ mN w (4 * x + j) n (LD j) (MM j) := fun w hf j hj => ⟨(hR j hj).1, (hR j hj).2.c hn (hf _ _ _ (by decide) (by decide)) (fun j _ _ => hf _ _ _ (by decide) (by decide))⟩
  generalize hK : (fun (u4_27_5 : Int32) (y27_5 : zS) => (fX9_forAll_74 (nI a) (nI x) u4_27_5 (fun (y74_6 : zS) => (some ((-9 : Int32), y74_6) : Option (Int32 × zS))) zN (0 : Int32) y27_5 : Option (Int32 × zS))) = K
  obtain ⟨⟨S, w⟩, ⟨z1, z2, z3⟩, e1⟩ := zloop (β := Nat × zS) (L := fun t i b => fX9_forAll_27 (nI a) (nI x) K t (nI b.1) (nI i) b.2) (fun i b => b.1 < 16 ∧ (∀ q, b.1.testBit q = (decide (q < i) && rsF p a LD MM q)) ∧ ∀ k i j, k ≠ 34 → k ≠ 35 → b.2 k i j = σ k i j) 4 (fun b => K (nI b.1) b.2) (by
    rintro t i ⟨S, w⟩ hi ⟨z1, z2, z3⟩
    dsimp only at z1 z2 z3
    have hno : rsF p a LD MM i = false → ∀ q, S.testBit q = (decide (q < i + 1) && rsF p a LD MM q) := by
      intro hr q
      rw [z2 q]
      by_cases hqi : q = i
      · subst hqi; rw [hr, Bool.and_false, Bool.and_false]
      · rw [show decide (q < i) = decide (q < i + 1) by simp; omega]
    by_cases hia : i = a
    · have hrs : rsF p a LD MM i = false := by unfold rsF; rw [decide_eq_false (fun z => z hia)]; rfl
      refine ⟨(S, w), ⟨z1, hno hrs, z3⟩, ?_⟩
      show (if (4 : Int32) ≤ nI i then _ else _) = _
      rw [if_neg (lg4 hi), hia, if_pos rfl, show (0 : Int32) = nI 0 from rfl, zn_or, Nat.or_zero, zB_s, zB_s, nI_1]
    · obtain ⟨ri, ci⟩ := hmN w z3 i hi
      obtain ⟨w', ew, fw⟩ := e_freshOf (σ := w) (a := a) (b := i) hp (by rw [z3 _ _ _ (by decide) (by decide)]; exact h12) hx ha hi hn (by rw [z3 _ _ _ (by decide) (by decide)]; exact h28) ra ri (hmN w z3 a ha).2 ci
      have z3' : ∀ k i j, k ≠ 34 → k ≠ 35 → w' k i j = σ k i j := fun k i j h1 h2 => by rw [fw k i j h1 h2]; exact z3 k i j h1 h2
      have hst : fX9_forAll_27 (nI a) (nI x) K (t + 1) (nI S) (nI i) w = if (if lsF p a LD MM i < (Sl (LD a) 5).length then nI (p ^ lsF p a LD MM i) else -9) = (-9 : Int32) then fX9_forAll_27 (nI a) (nI x) K t (nI S) (nI (i + 1)) w' else fX9_forAll_27 (nI a) (nI x) K t (nI (S ||| 2 ^ i)) (nI (i + 1)) w' := by
        show (if (4 : Int32) ≤ nI i then _ else _) = _
        rw [if_neg (lg4 hi), if_neg (by rw [zn_eq (by omega) (by omega)]; exact hia), ew, zCi_s, show nI S ||| (0 : Int32) = nI S by rw [show (0 : Int32) = nI 0 from rfl, zn_or, Nat.or_zero], zn_shl i (by omega), zn_or]
        simp only [zB_s, nI_1]
        rfl
      by_cases hlt : lsF p a LD MM i < (Sl (LD a) 5).length
      · have hrs : rsF p a LD MM i = true := by unfold rsF; rw [decide_eq_true hia, decide_eq_true hlt]; rfl
        refine ⟨(S ||| 2 ^ i, w'), ⟨?_, ?_, z3'⟩, ?_⟩
        · exact Nat.or_lt_two_pow (n := 4) z1 (Nat.pow_lt_pow_right (by decide) hi)
        · intro q
          dsimp only
          rw [Nat.testBit_or, zpow_bit, z2 q]
          by_cases hqi : q = i
          · subst hqi; rw [hrs]; simp
          · rw [show decide (q < i) = decide (q < i + 1) by simp; omega, decide_eq_false (Ne.symm hqi), Bool.or_false]
        · dsimp only
          rw [hst, if_pos hlt, if_neg (n9 (p_lt hp (by omega)))]
      · have hrs : rsF p a LD MM i = false := by unfold rsF; rw [decide_eq_false hlt, Bool.and_false]
        refine ⟨(S, w'), ⟨z1, hno hrs, z3'⟩, ?_⟩
        dsimp only
        rw [hst, if_neg hlt, if_pos rfl]) (by
    rintro t ⟨z, w⟩ _
    show (if (4 : Int32) ≤ nI 4 then _ else _) = _
    rw [if_pos (by decide)]) 4 0 (0, σ) zN (by decide) ⟨by show (0 : Nat) < 16; decide, fun q => by simp, fun _ _ _ _ _ => rfl⟩ (by decide)
  dsimp only at z1 z2 z3 e1
  have u := e1
  have hSb : ∀ b, b < 4 → S.testBit b = rsF p a LD MM b := fun b hb => by rw [z2 b, decide_eq_true hb, Bool.true_and]
  by_cases hS : S = 0
  · refine ⟨w, ?_, z3⟩
    refine Eq.trans u ?_
    rw [if_neg (fun q => by
      obtain ⟨⟨b, hb, hr⟩, _⟩ := q
      rw [← hSb b hb, hS] at hr; simp at hr), ← hK, hS]
    show zCi (fX9_mixesOf (nI x) (nI a) w) _ = _
    rw [e_mixesOf hp (by rw [z3 _ _ _ (by decide) (by decide)]; exact h12) hx ha (hmN w z3 a ha).2, zCi_s, if_neg (by show ¬ nI _ ≤ nI 0; exact nI_ge (by omega) (by omega)), if_pos (show nI 0 = 0 from rfl)]
  · have hex : ∃ b, b < 4 ∧ rsF p a LD MM b = true := by
      rcases Nat.eq_zero_or_pos S with q | q
      · exact absurd q hS
      · obtain ⟨b, hb⟩ := Nat.exists_testBit_of_ne_zero hS
        have h2 := z2 b
        rw [hb] at h2
        have h3 := h2.symm
        rw [Bool.and_eq_true, decide_eq_true_eq] at h3
        exact ⟨b, h3.1, h3.2⟩
    obtain ⟨b', hb', e2⟩ := zfindS (L := fun t i y => fX9_forAll_74 (nI a) (nI x) (nI S) (fun (y74_6 : zS) => (some ((-9 : Int32), y74_6) : Option (Int32 × zS))) t (nI i) y) (fun y => ∀ k i j, k ≠ 34 → k ≠ 35 → y k i j = σ k i j) (alF p a LD MM) (p ^ (Sl (LD a) 5).length) (by
      rintro t i y hi y2
      have k12 : y 21 0 12 = nI p := by rw [y2 _ _ _ (by decide) (by decide)]; exact h12
      have k28 : y 28 0 x = nI n := by rw [y2 _ _ _ (by decide) (by decide)]; exact h28
      obtain ⟨y', ey, my, fy⟩ := e_mixes (σ := y) (j := a) (m := i) hp k12 hx ha hn k28 ra (hmN y y2 a ha).2 (by omega)
      have y2' : ∀ k i j, k ≠ 34 → k ≠ 35 → y' k i j = σ k i j := fun k i j h1 h2 => by rw [fy k i j h1]; exact y2 k i j h1 h2
      obtain ⟨y3, e3, f3⟩ := e_isNewToAll (σ := y') (m := i) (S := S) hp (by rw [fy _ _ _ (by decide)]; exact k12) hx ha hn (by rw [fy _ _ _ (by decide)]; exact k28) (hmN y' y2') z1 hSb my
      refine ⟨y3, fun k i j h1 h2 => by rw [f3 k i j h2]; exact y2' k i j h1 h2, ?_⟩
      show zCi (fX9_mixesOf (nI x) (nI a) y) _ = _
      rw [e_mixesOf hp k12 hx ha (hmN y y2 a ha).2, zCi_s, if_neg (nI_ge hi (by omega)), if_neg (by show ¬ nI S = nI 0; rw [zn_eq (by omega) (by decide)]; exact hS), ey, zCv_s, e3, zCi_s, zB_s, nI_1]
      by_cases h0 : alF p a LD MM i = 0
      · rw [if_pos h0, if_pos h0, if_pos rfl]
      · rw [if_neg h0, if_neg h0, if_neg (by decide)]) (by
      rintro t y y2
      show zCi (fX9_mixesOf (nI x) (nI a) y) _ = _
      rw [e_mixesOf hp (by rw [y2 _ _ _ (by decide) (by decide)]; exact h12) hx ha (hmN y y2 a ha).2, zCi_s, if_pos (nI_le (Nat.le_refl _) (by omega))]) (p ^ (Sl (LD a) 5).length) 0 zN w (by omega) (fun i hi => absurd hi (by omega)) z3 (Nat.lt_of_le_of_lt hpl (by decide))
    refine ⟨b', ?_, hb'⟩
    refine Eq.trans u ?_
    rw [← hK]
    refine Eq.trans e2 ?_
    by_cases hq : fl (alF p a LD MM) (p ^ (Sl (LD a) 5).length) < p ^ (Sl (LD a) 5).length
    · rw [if_pos hq, if_pos ⟨hex, hq⟩]
    · rw [if_neg hq, if_neg (fun z => hq z.2)]
end FB
theorem c_forAll (a b : Int32) (σ : zS) (h : J3 σ) : Cs3 σ (fX8_forAll a b) (fX9_forAll a b) := by
  obtain ⟨p, op, s, hI⟩ := id h
  by_cases hX : lkX op (σ 27 0) a < op
  · have hop : op ≤ 3 := hI.2.2.2.2.1
    have h14 : σ 21 0 14 = nI op := hI.2.2.2.2.2.2.1
    have hX3 : lkX op (σ 27 0) a < 3 := by omega
    have hs := s_lt hI hX3
    rcases zcase2 b 4 (by decide) with q | ⟨j, hj, rfl⟩
    · refine Cs3.same h (r := -1) ?_ ?_
      · unfold fX8_forAll
        rw [e_find hI, if_pos hX, zCq_s, zGd_t hs]
        rcases q with q | q
        · rw [if_pos q]
        · rw [if_neg (zbig q (by decide)), if_neg (by rw [zlt_le]; exact fun z => z q)]
      · unfold fX9_forAll
        rw [place_1 hI hX, zCi_s, if_neg (nI_n9 hX3), isNode0 q, zCi_s, if_pos rfl]
    · obtain ⟨n, n1, n2, b1, b2, b3, hN⟩ := hI.2.2.2.2.2.2.2.2.2.2 _ hX
      obtain ⟨LD, MM, hL⟩ := nodes_ex hN
      obtain ⟨σ1, e1, f1⟩ := e_forAllC (a := j) hI.1 hI.2.1 hs hj (fun i hi => ⟨(hL i hi).1, (hL i hi).2.1⟩)
      have g1 : ∀ k i j, 19 ≤ k → σ1 k i j = σ k i j := fun k i j hk => f1 k i j (by omega) (by omega)
      have h27 : σ1 27 0 = σ 27 0 := funext fun j => g1 27 0 j (by decide)
      obtain ⟨σ2, e2, f2⟩ := e_forAllM (σ := σ1) (x := lkX op (σ 27 0) a) (a := j) hI.1 (by rw [g1 _ _ _ (by decide)]; exact hI.2.2.1) hX3 hj n2 (by rw [g1 _ _ _ (by decide)]; exact b3) (fun i hi => ⟨(hL i hi).1, (hL i hi).2.2.c n2 (g1 _ _ _ (by decide)) (fun j _ _ => g1 _ _ _ (by decide))⟩)
      have q8 : fX8_forAll a (nI j) σ = zCi (fX2_leastNewForAll (s (lkX op (σ 27 0) a)) (nI j) σ) (fun x5 s4 => some (x5, s4)) := by
        unfold fX8_forAll
        rw [e_find hI, if_pos hX, zCq_s, zGd_t hs, if_neg (n0 (by omega)), if_pos (by show nI j < nI 4; rw [zn_lt (by omega) (by decide)]; exact hj)]
      rw [e1, zCi_s] at q8
      refine ⟨_, σ1, σ2, q8, ?_, ⟨p, op, s, hI.c (fun k i j hk => by rw [f2 k i j (by omega) (by omega), f1 k i j (by omega) (by omega)])⟩, fun k i j hk => by rw [f2 k i j (by omega) (by omega), f1 k i j (by omega) (by omega)]⟩
      unfold fX9_forAll
      rw [e_place hop (by rw [g1 _ _ _ (by decide)]; exact h14), h27, if_pos hX, zCi_s, if_neg (nI_n9 hX3), isNode1 hj, zCi_s, if_neg (by decide)]
      exact e2
  · refine Cs3.same h (r := -1) (by unfold fX8_forAll; rw [e_find hI, if_neg hX, zCq_n]) ?_
    unfold fX9_forAll
    rw [place_0 hI hX, zCi_s, if_pos rfl]
