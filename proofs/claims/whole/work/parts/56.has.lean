theorem e_holds {σ : zS} {s l h : Nat} (hs : s < 8) (hl : l < 10) (hh : h < 1024) (e : σ 3 0 s = nI h) : fX6_holds (nI s) (nI l) σ = some (if h.testBit l then 1 else 0, σ) := by
  unfold fX6_holds
  rw [zIx_nI hs (by decide), nI_clamp (by omega), e]
  simp only [zn_bit1 (show h < 2 ^ 31 by omega) (show l < 32 by omega)]
  split <;> rfl
theorem z0shl : ∀ l, l < 10 → (0 : Int32) <<< (nI l &&& 31) = 0 := by decide +kernel
theorem zor0 (x : Int32) : x ||| 0 = x := by simp
theorem lett_tb {T : Nat} {l : Nat} (hl : l < 10) (hb : lettB T (nI l) = true) : T.testBit l = true := by rw [lettB_n hl] at hb; exact hb
theorem pow_sub {T l : Nat} (hl : l < 10) (h : T.testBit l = true) : lk (2 ^ l) T = 0 := (lk0 (Nat.lt_trans (zpow_lt hl) (by decide))).mpr fun j _ h1 => by
  rw [zpow_bit, decide_eq_true_eq] at h1
  rw [← h1]; exact h
theorem or_sub {a b T : Nat} (ha : a < 2 ^ 32) (hb : b < 2 ^ 32) (h1 : lk a T = 0) (h2 : lk b T = 0) : lk (a ||| b) T = 0 := (lk0 (Nat.or_lt_two_pow (n := 32) ha hb)).mpr fun j hj h => by
  rw [Nat.testBit_or, Bool.or_eq_true] at h
  rcases h with h | h
  · exact (lk0 ha).mp h1 j hj h
  · exact (lk0 hb).mp h2 j hj h
def fup (f : Nat → Nat) (k v : Nat) : Nat → Nat := fun j => if j = k then v else f j
/-- a station comes to have a letter: class -/
theorem e_give {T : Nat} {Q : List (Nat × Nat)} {σ : zS} (hV : qV T Q) (hR : qR (σ 4 0 2) (σ 5 0) (σ 6 0) Q) {l s h : Nat} (hl : l < 10) (hs : s < 8) (e : σ 3 0 s = nI h) : ∃ σ', fX6_give (nI s) (nI l) σ = some (nI (Q.length - (Q.filter (fun q => decide (q ≠ (l, s)))).length), σ') ∧ qR (σ' 4 0 2) (σ' 5 0) (σ' 6 0) (Q.filter (fun q => decide (q ≠ (l, s)))) ∧ (∀ j, σ' 3 0 j = if j = s then nI (h ||| 2 ^ l) else σ 3 0 j) ∧ Q.length - (Q.filter (fun q => decide (q ≠ (l, s)))).length ≤ 1 ∧ ∀ k i j, k ≠ 3 → k ≠ 4 → k ≠ 5 → k ≠ 6 → σ' k i j = σ k i j := by
  obtain ⟨σ', e1, f1, hle, g1⟩ := e_removePair (σ := zU σ 3 0 s (nI (h ||| 2 ^ l))) hV (l := l) (s := s) (by
    rw [zU_k (by decide), show (zU σ 3 0 s (nI (h ||| 2 ^ l))) 5 0 = σ 5 0 from funext fun j => zU_k (by decide), show (zU σ 3 0 s (nI (h ||| 2 ^ l))) 6 0 = σ 6 0 from funext fun j => zU_k (by decide)]
    exact hR) hl hs
  refine ⟨σ', ?_, f1, fun j => ?_, hle, fun k i j h3 h4 h5 h6 => ?_⟩
  · unfold fX6_give
    rw [zIx_nI hs (by decide), zIx_nI hs (by decide), zB_s, nI_clamp (by omega), e, zn_shl l (by omega), zn_or, e1, zCi_s, zGd_t]
    rcases (show Q.length - (Q.filter (fun q => decide (q ≠ (l, s)))).length = 0 ∨ Q.length - (Q.filter (fun q => decide (q ≠ (l, s)))).length = 1 by omega) with q | q <;> rw [q]
    · exact Or.inl rfl
    · exact Or.inr rfl
  · rw [g1 3 0 j (by decide) (by decide) (by decide), zU_ap]; simp
  · rw [g1 k i j h4 h5 h6, zU_k h3]
/-- a station comes to have a letter: both -/
theorem j_give {T : Nat} {Hd : Nat → Nat} {Q : List (Nat × Nat)} {σ σ1 σ2 : zS} (h : I1 T Hd Q σ) {l s : Nat} (hl : l < 10) (hs : s < 8) (hb : T.testBit l = true)
    (f1 : qR (σ1 4 0 2) (σ1 5 0) (σ1 6 0) (Q.filter (fun q => decide (q ≠ (l, s))))) (h1 : ∀ j, σ1 3 0 j = if j = s then nI (Hd s ||| 2 ^ l) else σ 3 0 j) (g1 : ∀ k i j, k ≠ 3 → k ≠ 4 → k ≠ 5 → k ≠ 6 → σ1 k i j = σ k i j)
    (f2 : qR (σ2 21 0 3) (σ2 24 0) (σ2 25 0) (Q.filter (fun q => decide (q ≠ (l, s))))) (h2 : ∀ j, σ2 23 0 j = if j = s then nI (Hd s ||| 2 ^ l) else σ1 23 0 j) (g2 : ∀ k i j, k ≠ 23 → ¬ (k = 21 ∧ j = 3) → k ≠ 24 → k ≠ 25 → σ2 k i j = σ1 k i j) : I1 T (fup Hd s (Hd s ||| 2 ^ l)) (Q.filter (fun q => decide (q ≠ (l, s)))) σ2 ∧ Ch1 σ σ2 := by
  obtain ⟨hA, hB, hC, hD, hV, r1, r2⟩ := h
  have G : ∀ k i j, k ≠ 3 → k ≠ 4 → k ≠ 5 → k ≠ 6 → k ≠ 23 → ¬ (k = 21 ∧ j = 3) → k ≠ 24 → k ≠ 25 → σ2 k i j = σ k i j := fun k i j a b c d e f g h => by rw [g2 k i j e f g h, g1 k i j a b c d]
  have P : ∀ k i j, k = 3 ∨ k = 4 ∨ k = 5 ∨ k = 6 → σ2 k i j = σ1 k i j := fun k i j hk => g2 k i j (by omega) (by omega) (by omega) (by omega)
  refine ⟨⟨hA.c (G 1 0 3 (by decide) (by decide) (by decide) (by decide) (by decide) (by decide) (by decide) (by decide)) (G 21 0 0 (by decide) (by decide) (by decide) (by decide) (by decide) (by decide) (by decide) (by decide)), hB.c (fun j _ => G 1 0 j (by decide) (by decide) (by decide) (by decide) (by decide) (by omega) (by decide) (by decide)) (fun j hj => G 21 0 j (by decide) (by decide) (by decide) (by decide) (by decide) (by omega) (by decide) (by decide)), hC.c (fun j => G 2 0 j (by decide) (by decide) (by decide) (by decide) (by decide) (by omega) (by decide) (by decide)) (fun j => G 22 0 j (by decide) (by decide) (by decide) (by decide) (by decide) (by omega) (by decide) (by decide)), ?_, ?_, ?_, f2⟩, ?_⟩
  · intro j hj
    obtain ⟨q1, q2, q3, q4⟩ := hD j hj
    unfold fup
    rw [P 3 0 j (by omega), h1, h2, g1 23 0 j (by decide) (by decide) (by decide) (by decide)]
    by_cases e : j = s
    · subst e
      rw [if_pos rfl, if_pos rfl, if_pos rfl]
      exact ⟨rfl, rfl, zor_lt q3 (zpow_lt hl), or_sub (by omega) (Nat.lt_trans (zpow_lt hl) (by decide)) q4 (pow_sub hl hb)⟩
    · rw [if_neg e, if_neg e, if_neg e]
      exact ⟨q1, q2, q3, q4⟩
  · exact qV_f hV (fun q hq _ => (hV.2.2 q hq).2.2)
  · rw [P 4 0 2 (by omega), show σ2 5 0 = σ1 5 0 from funext fun j => P 5 0 j (by omega), show σ2 6 0 = σ1 6 0 from funext fun j => P 6 0 j (by omega)]
    exact f1
  · intro k i j hk
    exact G k i j (by omega) (by omega) (by omega) (by omega) (by omega) (by omega) (by omega) (by omega)
theorem e_goesP {T : Nat} {Q : List (Nat × Nat)} {σ : zS} (hV : qV T Q) (hR : qR (σ 21 0 3) (σ 24 0) (σ 25 0) Q) {l s : Nat} (hl : l < 10) (hs : s < 8) : ∃ σ', fX9_goes (nI l) (nI s) σ = some (nI (Q.length - (Q.filter (fun q => decide (q ≠ (l, s)))).length), σ') ∧ qR (σ' 21 0 3) (σ' 24 0) (σ' 25 0) (Q.filter (fun q => decide (q ≠ (l, s)))) ∧ ∀ k i j, ¬ (k = 21 ∧ j = 3) → k ≠ 24 → k ≠ 25 → σ' k i j = σ k i j := by
  refine e_goes hV hR hl (fun q hq => ?_)
  obtain ⟨a1, a2, -⟩ := hV.2.2 q hq
  have : (nI q.2 = nI s) = (q.2 = s) := zn_eq (by omega) (by omega)
  have h9 : ¬ nI s = -9 := fun z => by have := nI_pos (n := s) (by omega); rw [z] at this; exact this (by decide)
  rw [this]
  simp [h9]
  constructor
  · intro h; rw [h]; exact ⟨rfl, rfl⟩
  · intro h; exact Prod.ext h.1 h.2
theorem c_has (a b c : Int32) (σ : zS) (h : J1 σ) : Cs1 σ (fX8_has a b c) (fX9_has a b c) := by
  obtain ⟨T, Hd, Q, hI⟩ := id h
  obtain ⟨⟨hT, hA1, hA2⟩, hB, hC, hD, hV, r1, r2⟩ := id hI
  cases hs1 : statB a with
  | false => exact Cs1.same h (r := -1) (by unfold fX8_has; rw [e_isStation, hs1]; rfl) (by unfold fX9_has; rw [e_isStationM, hs1]; rfl)
  | true =>
  obtain ⟨s, hs, rfl⟩ := statB_y hs1
  cases hl1 : lettB T b with
  | false => exact Cs1.same h (r := -1) (by unfold fX8_has; rw [e_isStation, hs1, zCi_s, if_neg (by decide), e_isThere hT _ _ hA1, hl1]; rfl) (by unfold fX9_has; rw [e_isStationM, hs1, zCi_s, if_neg (by decide), e_isLetter hT _ _ hA2, hl1]; rfl)
  | true =>
  obtain ⟨l, hl, rfl, hbit⟩ := lettB_y hl1
  obtain ⟨d1, d2, d3, d4⟩ := hD s hs
  by_cases hc0 : c = 0
  · subst hc0
    refine ⟨nI (Hd s / 2 ^ l % 2), zU σ 3 0 s (nI (lk (Hd s) (2 ^ l))), zU (zU σ 3 0 s (nI (lk (Hd s) (2 ^ l)))) 23 0 s (nI (lk (Hd s) (2 ^ l))), ?_, ?_, ⟨T, fup Hd s (lk (Hd s) (2 ^ l)), Q, ⟨hT, ?_, ?_⟩, ?_, ?_, ?_, ?_⟩, ?_⟩
    · unfold fX8_has fX6_takeFrom
      rw [e_isStation, hs1, zCi_s, if_neg (by decide), e_isThere hT _ _ hA1, hl1, zCi_s, if_neg (by decide), if_pos rfl, e_holds hs hl d3 d1, zCi_s, if_neg (by decide), zIx_nI hs (by decide), zIx_nI hs (by decide), zB_s, zCv_s, nI_clamp (by omega), d1, zn_shl l (by omega), zn_lk, bit01]
      rcases (show Hd s / 2 ^ l % 2 = 0 ∨ Hd s / 2 ^ l % 2 = 1 by omega) with q | q <;> rw [q] <;> rfl
    · unfold fX9_has
      have q0 : (zU σ 3 0 s (nI (lk (Hd s) (2 ^ l)))) 21 0 0 = nI T := by rw [zU_k (by decide)]; exact hA2
      rw [e_isStationM, hs1, zCi_s, if_neg (by decide), e_isLetter hT _ _ q0, hl1, zCi_s, if_neg (by decide), e_within, if_neg (by decide), if_neg (by decide), zCi_s, if_neg (by decide), zIx_nI hs (by decide), zB_s, zIx_nI hs (by decide), zIx_nI hs (by decide), zB_s, if_neg (by decide), nI_clamp (by omega), zU_k (show (23 : Nat) ≠ 3 by decide), d2, zn_shl l (by omega), zn_lk, z0shl l hl, zor0, zn_bit (by omega) (by omega)]
    · simp [zU_ap, hA1]
    · simp [zU_ap, hA2]
    · exact hB.c (fun j hj => by simp [zU_ap]) (fun j hj => by simp [zU_ap])
    · exact hC.c (fun j => by simp [zU_ap]) (fun j => by simp [zU_ap])
    · intro j hj
      obtain ⟨q1, q2, q3, q4⟩ := hD j hj
      unfold fup
      by_cases e : j = s
      · subst e
        rw [if_pos rfl]
        exact ⟨by simp [zU_ap], by simp [zU_ap], Nat.lt_of_le_of_lt (lk_le _ _) q3, lk_sub (by omega) q4⟩
      · rw [if_neg e]
        exact ⟨by simp [zU_ap, e, q1], by simp [zU_ap, e, q2], q3, q4⟩
    · exact iE.c (σ := σ) ⟨hV, r1, r2⟩ (by simp [zU_ap]) (by simp [zU_ap]) (fun j => by simp [zU_ap]) (fun j => by simp [zU_ap]) (fun j => by simp [zU_ap]) (fun j => by simp [zU_ap])
    · exact ((Ch1.r σ).U (by omega)).U (by omega)
  · by_cases hc1 : c = 1
    · subst hc1
      obtain ⟨σ1, e1, f1, h1, hle, g1⟩ := e_give hV r1 hl hs d1
      obtain ⟨σ2, e2, f2, g2⟩ := e_goesP (σ := zU σ1 23 0 s (nI (Hd s ||| 2 ^ l))) hV (l := l) (s := s) (by
        rw [zU_k (by decide), show (zU σ1 23 0 s (nI (Hd s ||| 2 ^ l))) 24 0 = σ 24 0 from funext fun j => by rw [zU_k (by decide), g1 24 0 j (by decide) (by decide) (by decide) (by decide)], show (zU σ1 23 0 s (nI (Hd s ||| 2 ^ l))) 25 0 = σ 25 0 from funext fun j => by rw [zU_k (by decide), g1 25 0 j (by decide) (by decide) (by decide) (by decide)], g1 21 0 3 (by decide) (by decide) (by decide) (by decide)]
        exact r2) hl hs
      obtain ⟨k1, k2⟩ := j_give (σ2 := σ2) hI hl hs hbit f1 h1 g1 f2 (fun j => by rw [g2 23 0 j (by omega) (by decide) (by decide), zU_ap]; simp) (fun k i j a b c d => by rw [g2 k i j b c d, zU_k a])
      refine ⟨nI (Hd s / 2 ^ l % 2), σ1, σ2, ?_, ?_, ⟨_, _, _, k1⟩, k2⟩
      · unfold fX8_has
        rw [e_isStation, hs1, zCi_s, if_neg (by decide), e_isThere hT _ _ hA1, hl1, zCi_s, if_neg (by decide), if_neg (by decide), if_pos rfl, e_holds hs hl d3 d1, zCi_s, if_pos rfl, e1, zCi_s, bit01]
        rcases (show Hd s / 2 ^ l % 2 = 0 ∨ Hd s / 2 ^ l % 2 = 1 by omega) with q | q <;> rw [q] <;> rfl
      · unfold fX9_has
        have q0 : σ1 21 0 0 = nI T := by rw [g1 21 0 0 (by decide) (by decide) (by decide) (by decide)]; exact hA2
        have q1 : σ1 23 0 s = nI (Hd s) := by rw [g1 23 0 s (by decide) (by decide) (by decide) (by decide)]; exact d2
        rw [e_isStationM, hs1, zCi_s, if_neg (by decide), e_isLetter hT _ _ q0, hl1, zCi_s, if_neg (by decide), e_within, if_neg (by decide), if_neg (by decide), zCi_s, if_neg (by decide), zIx_nI hs (by decide), zB_s, zIx_nI hs (by decide), zIx_nI hs (by decide), zB_s, if_pos rfl, nI_clamp (by omega), q1, zn_shl l (by omega), zn_lk, zn_or, or_lk d3 (zpow_lt hl), e2, zCi_s, zn_bit (by omega) (by omega)]
    · have hw : (if c < 0 then (0 : Int32) else if (1 : Int32) < c then 0 else 1) = 0 := by
        rcases zcase c 2 (by decide) with q | q | ⟨j, hj, rfl⟩
        · rw [if_pos q]
        · rw [if_neg (zbig q (by decide)), if_pos (by
            have h2 : ¬ c < nI (1 + 1) := by rw [zlt_le]; exact fun z => z q
            rw [zlt_1 (by decide), Classical.not_not] at h2; exact h2)]
        · rcases (show j = 0 ∨ j = 1 by omega) with rfl | rfl
          · exact absurd rfl hc0
          · exact absurd rfl hc1
      exact Cs1.same h (r := -2) (by unfold fX8_has; rw [e_isStation, hs1, zCi_s, if_neg (by decide), e_isThere hT _ _ hA1, hl1, zCi_s, if_neg (by decide), if_neg hc0, if_neg hc1]) (by unfold fX9_has; rw [e_isStationM, hs1, zCi_s, if_neg (by decide), e_isLetter hT _ _ hA2, hl1, zCi_s, if_neg (by decide), e_within, hw]; rfl)
