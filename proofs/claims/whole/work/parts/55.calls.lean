/-! letters, stations: the calls -/
theorem lk0 {a b : Nat} (ha : a < 2 ^ 32) : lk a b = 0 ↔ ∀ j, j < 32 → a.testBit j = true → b.testBit j = true := by
  constructor
  · intro h j hj h1
    have h5 := lk_bit (a := a) (b := b) hj
    rw [h, Nat.zero_testBit, h1] at h5
    cases hb : b.testBit j with
    | true => rfl
    | false => rw [hb] at h5; cases h5
  · intro h
    apply zbit_ext (Nat.lt_of_le_of_lt (lk_le a b) ha) (by decide)
    intro j hj
    rw [lk_bit hj, Nat.zero_testBit]
    cases h1 : a.testBit j with
    | false => rfl
    | true => rw [h j hj h1]; rfl
theorem lk_or {a b c : Nat} (ha : a < 2 ^ 32) (h : lk a b = 0) : lk a (b ||| c) = 0 := (lk0 ha).mpr fun j hj h1 => by rw [Nat.testBit_or, (lk0 ha).mp h j hj h1]; rfl
theorem lk_lk {a b c : Nat} (ha : a < 2 ^ 32) (h : lk a b = 0) : lk (lk a c) (lk b c) = 0 := (lk0 (Nat.lt_of_le_of_lt (lk_le _ _) ha)).mpr fun j hj h1 => by
  rw [lk_bit hj, Bool.and_eq_true] at h1
  rw [lk_bit hj, (lk0 ha).mp h j hj h1.1, h1.2]; rfl
theorem lk_sub {a b c : Nat} (ha : a < 2 ^ 32) (h : lk a b = 0) : lk (lk a c) b = 0 := (lk0 (Nat.lt_of_le_of_lt (lk_le _ _) ha)).mpr fun j hj h1 => by
  rw [lk_bit hj, Bool.and_eq_true] at h1
  exact (lk0 ha).mp h j hj h1.1
theorem or_lk {a c : Nat} (ha : a < 1024) (hc : c < 1024) : lk a c ||| c = a ||| c := by
  have h1 : lk a c < 1024 := Nat.lt_of_le_of_lt (lk_le _ _) ha
  apply zbit_ext (Nat.lt_trans (zor_lt h1 hc) (by decide)) (Nat.lt_trans (zor_lt ha hc) (by decide))
  intro j hj
  rw [Nat.testBit_or, Nat.testBit_or, lk_bit hj]
  cases a.testBit j <;> cases c.testBit j <;> rfl
theorem lettB_n {T l : Nat} (hl : l < 10) : lettB T (nI l) = T.testBit l := by
  unfold lettB
  have h1 : ¬ nI l < 0 := nI_pos (by omega)
  have h2 : nI l < 10 := nI_lt (b := 10) hl (by decide)
  rw [decide_eq_true h1, decide_eq_true h2, nI_clamp (by omega)]; rfl
theorem bit01 {a l : Nat} : (if a.testBit l = true then (1 : Int32) else 0) = nI (a / 2 ^ l % 2) := by
  simp only [Nat.testBit_eq_decide_div_mod_eq, decide_eq_true_eq]
  rcases (show a / 2 ^ l % 2 = 0 ∨ a / 2 ^ l % 2 = 1 by omega) with h | h <;> simp only [h] <;> rfl
theorem c_letter (a b : Int32) (σ : zS) (h : J1 σ) : Cs1 σ (fX8_letter a b) (fX9_letter a b) := by
  rcases zcase a 10 (by decide) with h1 | h1 | ⟨l, hl, rfl⟩
  · exact Cs1.same h (r := -1) (by unfold fX8_letter; rw [if_pos h1]) (by unfold fX9_letter; rw [e_within, if_pos h1]; rfl)
  · have h0 : ¬ a < 0 := zbig h1 (by decide)
    have h2 : ¬ a < 10 := by rw [zlt_le]; exact fun z => z h1
    have h3 : (9 : Int32) < a := by rw [show (10 : Int32) = nI (9 + 1) from rfl, zlt_1 (by decide), Classical.not_not] at h2; exact h2
    exact Cs1.same h (r := -1) (by unfold fX8_letter; rw [if_neg h0, if_neg h2]) (by unfold fX9_letter; rw [e_within, if_neg h0, if_pos h3]; rfl)
  have c1 : ¬ nI l < 0 := nI_pos (by omega)
  have c2 : nI l < 10 := nI_lt (b := 10) hl (by decide)
  have c3 : ¬ (9 : Int32) < nI l := nI_nlt (b := l) (a := 9) (by omega) (by decide)
  rcases zcase b 256 (by decide) with h1 | h1 | ⟨v, hv, rfl⟩
  · exact Cs1.same h (r := -2) (by unfold fX8_letter; rw [if_neg c1, if_pos c2, if_pos h1]) (by unfold fX9_letter; rw [e_within, if_neg c1, if_neg c3, zCi_s, if_neg (by decide), e_within, if_pos h1]; rfl)
  · have h0 : ¬ b < 0 := zbig h1 (by decide)
    have h3 : (255 : Int32) < b := by
      have h2 : ¬ b < nI (255 + 1) := by rw [zlt_le]; exact fun z => z h1
      rw [zlt_1 (by decide), Classical.not_not] at h2; exact h2
    exact Cs1.same h (r := -2) (by unfold fX8_letter; rw [if_neg c1, if_pos c2, if_neg h0, if_neg (by rw [zle_lt]; exact fun z => z h3)]) (by unfold fX9_letter; rw [e_within, if_neg c1, if_neg c3, zCi_s, if_neg (by decide), e_within, if_neg h0, if_pos h3]; rfl)
  have d1 : ¬ nI v < 0 := nI_pos (by omega)
  have d2 : nI v ≤ 255 := nI_le (b := 255) (by omega) (by decide)
  have d3 : ¬ (255 : Int32) < nI v := nI_nlt (b := v) (a := 255) (by omega) (by decide)
  obtain ⟨T, Hd, Q, hA, hB, hC, hD, hE⟩ := h
  obtain ⟨hT, hA1, hA2⟩ := hA
  have hb : T ||| 2 ^ l < 1024 := zor_lt hT (zpow_lt hl)
  refine ⟨nI (T / 2 ^ l % 2), zU (zU σ 1 0 3 (nI (T ||| 2 ^ l))) 2 0 l (nI v), zU (zU (zU (zU σ 1 0 3 (nI (T ||| 2 ^ l))) 2 0 l (nI v)) 21 0 0 (nI (T ||| 2 ^ l))) 22 0 l (nI v), ?_, ?_, ⟨T ||| 2 ^ l, Hd, Q, ⟨hb, ?_, ?_⟩, ?_, ?_, ?_, ?_⟩, ?_⟩
  · unfold fX8_letter fX6_putLetter
    rw [if_neg c1, if_pos c2, if_neg d1, if_pos d2, e_isThere hT _ _ hA1, zCi_s, lettB_n hl, bit01, zB_s, zIx_nI hl (by decide), zB_s, zGd_t (by rcases (show T / 2 ^ l % 2 = 0 ∨ T / 2 ^ l % 2 = 1 by omega) with q | q <;> rw [q]; exact Or.inl rfl; exact Or.inr rfl), zCi_s, nI_clamp (by omega), hA1, zn_shl l (by omega), zn_or]
    rcases (show T / 2 ^ l % 2 = 0 ∨ T / 2 ^ l % 2 = 1 by omega) with q | q <;> rw [q]
    · rfl
    · rfl
  · unfold fX9_letter
    rw [e_within, if_neg c1, if_neg c3, zCi_s, if_neg (by decide), e_within, if_neg d1, if_neg d3, zCi_s, if_neg (by decide), zB_s, zB_s, zIx_nI hl (by decide), zB_s, nI_clamp (by omega)]
    have e0 : (zU (zU σ 1 0 3 (nI (T ||| 2 ^ l))) 2 0 l (nI v)) 21 0 0 = nI T := by simp [zU_ap, hA2]
    rw [e0, zn_bit (by omega) (by omega), zn_shl l (by omega), zn_or]
  · simp [zU_ap]
  · simp [zU_ap]
  · exact hB.c (fun j hj => by rcases hj with rfl | rfl | rfl | rfl <;> simp [zU_ap]) (fun j hj => by rcases hj with rfl | rfl | rfl | rfl <;> simp [zU_ap])
  · intro j hj
    by_cases e : j = l
    · subst e
      simp only [zU_ap]
      simp
      exact ⟨v, hv, rfl⟩
    · obtain ⟨q1, q2⟩ := hC j hj
      simp only [zU_ap]
      simp [e]
      exact ⟨q1, q2⟩
  · intro s hs
    obtain ⟨q1, q2, q3, q4⟩ := hD s hs
    refine ⟨by simp [zU_ap, q1], by simp [zU_ap, q2], q3, lk_or (by omega) q4⟩
  · obtain ⟨⟨v1, v2, v3⟩, r1, r2⟩ := hE
    refine iE.c (σ := σ) ⟨⟨v1, v2, fun q hq => ?_⟩, r1, r2⟩ (by simp [zU_ap]) (by simp [zU_ap]) (fun j => by simp [zU_ap]) (fun j => by simp [zU_ap]) (fun j => by simp [zU_ap]) (fun j => by simp [zU_ap])
    obtain ⟨a1, a2, a3⟩ := v3 q hq
    exact ⟨a1, a2, by rw [Nat.testBit_or, a3]; rfl⟩
  · exact ((((Ch1.r σ).U (by omega)).U (by omega)).U (by omega)).U (by omega)
/-- every station loses a letter -/
theorem e_take8 {l : Nat} (hl : l < 10) {Hd : Nat → Nat} {k : zS → Option (Int32 × zS)} {σ : zS} (h : ∀ s, s < 8 → σ 3 0 s = nI (Hd s)) : ∃ w, fX6_takeLetter_16 (nI l) k zN 0 σ = k w ∧ (∀ s, s < 8 → w 3 0 s = nI (lk (Hd s) (2 ^ l))) ∧ ∀ k i j, k ≠ 3 → w k i j = σ k i j := by
  obtain ⟨w, ⟨h1, -, h3⟩, e⟩ := zloop (β := zS) (L := fun n i b => fX6_takeLetter_16 (nI l) k n (nI i) b) (fun i b => (∀ s, s < i → s < 8 → b 3 0 s = nI (lk (Hd s) (2 ^ l))) ∧ (∀ s, i ≤ s → s < 8 → b 3 0 s = nI (Hd s)) ∧ ∀ k i j, k ≠ 3 → b k i j = σ k i j) 8 k (by
    intro n i b hi hb
    obtain ⟨q1, q2, q3⟩ := hb
    refine ⟨zU b 3 0 i (nI (lk (Hd i) (2 ^ l))), ⟨fun s hs h8 => ?_, fun s hs h8 => ?_, fun k i' j hk => ?_⟩, ?_⟩
    · by_cases e : s = i
      · subst e; rw [zU_s]
      · rw [zU_j e]; exact q1 s (by omega) h8
    · rw [zU_j (by omega)]; exact q2 s (by omega) h8
    · rw [zU_k hk]; exact q3 k i' j hk
    · show (if (8 : Int32) ≤ nI i then _ else _) = _
      rw [show (8 : Int32) = nI 8 from rfl, if_neg (nI_ge hi (by decide))]
      unfold fX6_takeFrom
      rw [zIx_nI hi (by decide), zIx_nI hi (by decide), zB_s, zCv_s, zB_s, nI_1, nI_clamp (by omega), q2 i (Nat.le_refl i) hi, zn_shl l (by omega), zn_lk]) (by
    intro n b _
    show (if (8 : Int32) ≤ nI 8 then _ else _) = _
    rw [if_pos (by decide)]) 8 0 σ zN (by decide) ⟨fun s hs => by omega, fun s _ hs => h s hs, fun _ _ _ _ => rfl⟩ (by decide)
  exact ⟨w, e, fun s hs => h1 s hs hs, h3⟩
theorem e_drop8 {l : Nat} (hl : l < 10) {Hd : Nat → Nat} {k : zS → Option (Int32 × zS)} {σ : zS} (h : ∀ s, s < 8 → σ 23 0 s = nI (Hd s)) : ∃ w, fX9_drop_26 (nI l) k zN 0 σ = k w ∧ (∀ s, s < 8 → w 23 0 s = nI (lk (Hd s) (2 ^ l))) ∧ ∀ k i j, k ≠ 23 → w k i j = σ k i j := by
  obtain ⟨w, ⟨h1, -, h3⟩, e⟩ := zloop (β := zS) (L := fun n i b => fX9_drop_26 (nI l) k n (nI i) b) (fun i b => (∀ s, s < i → s < 8 → b 23 0 s = nI (lk (Hd s) (2 ^ l))) ∧ (∀ s, i ≤ s → s < 8 → b 23 0 s = nI (Hd s)) ∧ ∀ k i j, k ≠ 23 → b k i j = σ k i j) 8 k (by
    intro n i b hi hb
    obtain ⟨q1, q2, q3⟩ := hb
    refine ⟨zU b 23 0 i (nI (lk (Hd i) (2 ^ l))), ⟨fun s hs h8 => ?_, fun s hs h8 => ?_, fun k i' j hk => ?_⟩, ?_⟩
    · by_cases e : s = i
      · subst e; rw [zU_s]
      · rw [zU_j e]; exact q1 s (by omega) h8
    · rw [zU_j (by omega)]; exact q2 s (by omega) h8
    · rw [zU_k hk]; exact q3 k i' j hk
    · show (if (8 : Int32) ≤ nI i then _ else _) = _
      rw [show (8 : Int32) = nI 8 from rfl, if_neg (nI_ge hi (by decide)), zIx_nI hi (by decide), zIx_nI hi (by decide), zB_s, zB_s, nI_1, nI_clamp (by omega), q2 i (Nat.le_refl i) hi, zn_shl l (by omega), zn_lk]) (by
    intro n b _
    show (if (8 : Int32) ≤ nI 8 then _ else _) = _
    rw [if_pos (by decide)]) 8 0 σ zN (by decide) ⟨fun s hs => by omega, fun s _ hs => h s hs, fun _ _ _ _ => rfl⟩ (by decide)
  exact ⟨w, e, fun s hs => h1 s hs hs, h3⟩
theorem qV_f {T T' : Nat} {Q : List (Nat × Nat)} {keep : Nat × Nat → Bool} (h : qV T Q) (hT : ∀ q ∈ Q, keep q = true → T'.testBit q.1 = true) : qV T' (Q.filter keep) := ⟨Nat.le_trans (List.length_filter_le _ _) h.1, h.2.1.filter _, fun q hq => by
  obtain ⟨h1, h2⟩ := List.mem_filter.mp hq
  obtain ⟨a1, a2, a3⟩ := h.2.2 q h1
  exact ⟨a1, a2, hT q h1 h2⟩⟩
theorem c_drop (a : Int32) (σ : zS) (h : J1 σ) : Cs1 σ (fX8_drop a) (fX9_drop a) := by
  obtain ⟨T, Hd, Q, hA, hB, hC, hD, hE⟩ := id h
  obtain ⟨hT, hA1, hA2⟩ := id hA
  cases hb : lettB T a with
  | false => exact Cs1.same h (r := -1) (by unfold fX8_drop; rw [e_isThere hT _ _ hA1, hb]; rfl) (by unfold fX9_drop; rw [e_isLetter hT _ _ hA2, hb]; rfl)
  | true =>
    obtain ⟨l, hl, rfl, hbit⟩ := lettB_y hb
    obtain ⟨hV, r1, r2⟩ := id hE
    -- the class
    obtain ⟨w1, e1, f1, g1⟩ := e_take8 hl (Hd := Hd) (k := fun y => zCi (fX5_removeLetter (nI l) y) (fun x4 s3 => some (x4, s3))) (σ := zU σ 1 0 3 (nI (lk T (2 ^ l)))) (fun s hs => by rw [zU_k (by decide)]; exact (hD s hs).1)
    obtain ⟨σ1, e2, f2, g2⟩ := e_removeLetter hV (σ := w1) (l := l) (by
      rw [g1 4 0 2 (by decide), show w1 5 0 = σ 5 0 from funext fun j => by rw [g1 5 0 j (by decide), zU_k (by decide)], show w1 6 0 = σ 6 0 from funext fun j => by rw [g1 6 0 j (by decide), zU_k (by decide)], zU_k (by decide)]
      exact r1) hl
    have G1 : ∀ k i j, k ≠ 1 → k ≠ 3 → k ≠ 4 → k ≠ 5 → k ≠ 6 → σ1 k i j = σ k i j := fun k i j h1 h3 h4 h5 h6 => by rw [g2 k i j h4 h5 h6, g1 k i j h3, zU_k h1]
    have G2 : ∀ j, σ1 1 0 j = if j = 3 then nI (lk T (2 ^ l)) else σ 1 0 j := fun j => by rw [g2 1 0 j (by decide) (by decide) (by decide), g1 1 0 j (by decide), zU_ap]; simp
    -- the reference
    obtain ⟨w2, e3, f3, g3⟩ := e_drop8 hl (Hd := Hd) (k := fun y => zCi (fX9_goes (nI l) (-9) y) (fun x6 s5 => some (x6, s5))) (σ := zU σ1 21 0 0 (nI (lk T (2 ^ l)))) (fun s hs => by rw [zU_k (by decide), G1 23 0 s (by decide) (by decide) (by decide) (by decide) (by decide)]; exact (hD s hs).2.1)
    have H2 : ∀ k i j, k ≠ 23 → k ≠ 21 → w2 k i j = σ1 k i j := fun k i j h1 h2 => by rw [g3 k i j h1, zU_k h2]
    obtain ⟨σ2, e4, f4, g4⟩ := e_goes hV (σ := w2) (l := l) (a2 := -9) (keep := fun q => decide (q.1 ≠ l)) (by
      rw [g3 21 0 3 (by decide), zU_j (by decide), G1 21 0 3 (by decide) (by decide) (by decide) (by decide) (by decide), show w2 24 0 = σ 24 0 from funext fun j => by rw [H2 24 0 j (by decide) (by decide), G1 24 0 j (by decide) (by decide) (by decide) (by decide) (by decide)], show w2 25 0 = σ 25 0 from funext fun j => by rw [H2 25 0 j (by decide) (by decide), G1 25 0 j (by decide) (by decide) (by decide) (by decide) (by decide)]]
      exact r2) hl (fun q _ => by simp)
    have K2 : ∀ k i j, k ≠ 21 → k ≠ 23 → k ≠ 24 → k ≠ 25 → σ2 k i j = σ1 k i j := fun k i j h1 h2 h3 h4 => by rw [g4 k i j (fun z => h1 z.1) h3 h4, H2 k i j h2 h1]
    have K3 : ∀ j, j ≠ 3 → σ2 21 0 j = if j = 0 then nI (lk T (2 ^ l)) else σ 21 0 j := fun j hj => by
      rw [g4 21 0 j (fun z => hj z.2) (by decide) (by decide), g3 21 0 j (by decide), zU_ap]
      by_cases e : j = 0
      · simp [e]
      · simp [e]; exact G1 21 0 j (by decide) (by decide) (by decide) (by decide) (by decide)
    refine ⟨nI (Q.length - (Q.filter (fun q => decide (q.1 ≠ l))).length), σ1, σ2, ?_, ?_, ⟨lk T (2 ^ l), fun s => lk (Hd s) (2 ^ l), Q.filter (fun q => decide (q.1 ≠ l)), ⟨Nat.lt_of_le_of_lt (lk_le _ _) hT, ?_, ?_⟩, ?_, ?_, ?_, ?_, ?_, ?_⟩, ?_⟩
    · unfold fX8_drop fX6_takeLetter
      rw [e_isThere hT _ _ hA1, hb, zCi_s, if_neg (by decide), zB_s, hA1, zn_shl l (by omega), zn_lk, e1, e2]
      rfl
    · unfold fX9_drop
      have q0 : σ1 21 0 0 = nI T := by rw [G1 21 0 0 (by decide) (by decide) (by decide) (by decide) (by decide)]; exact hA2
      rw [e_isLetter hT _ _ q0, hb, zCi_s, if_neg (by decide), zB_s, q0, zn_shl l (by omega), zn_lk, e3, e4]
      rfl
    · rw [K2 1 0 3 (by decide) (by decide) (by decide) (by decide), G2]; rfl
    · rw [K3 0 (by decide)]; rfl
    · exact hB.c (fun j hj => by rw [K2 1 0 j (by decide) (by decide) (by decide) (by decide), G2, if_neg (by omega)]) (fun j hj => by rw [K3 j (by omega), if_neg (by omega)])
    · exact hC.c (fun j => by rw [K2 2 0 j (by decide) (by decide) (by decide) (by decide), G1 2 0 j (by decide) (by decide) (by decide) (by decide) (by decide)]) (fun j => by rw [K2 22 0 j (by decide) (by decide) (by decide) (by decide), G1 22 0 j (by decide) (by decide) (by decide) (by decide) (by decide)])
    · intro s hs
      obtain ⟨q1, q2, q3, q4⟩ := hD s hs
      refine ⟨?_, ?_, Nat.lt_of_le_of_lt (lk_le _ _) q3, lk_lk (by omega) q4⟩
      · rw [K2 3 0 s (by decide) (by decide) (by decide) (by decide), g2 3 0 s (by decide) (by decide) (by decide)]; exact f1 s hs
      · rw [g4 23 0 s (by omega) (by decide) (by decide)]; exact f3 s hs
    · exact qV_f hV (fun q hq hk => by
        obtain ⟨a1, a2, a3⟩ := hV.2.2 q hq
        rw [lk_bit (by omega), a3, zpow_bit]
        simp at hk ⊢
        omega)
    · rw [K2 4 0 2 (by decide) (by decide) (by decide) (by decide), show σ2 5 0 = σ1 5 0 from funext fun j => K2 5 0 j (by decide) (by decide) (by decide) (by decide), show σ2 6 0 = σ1 6 0 from funext fun j => K2 6 0 j (by decide) (by decide) (by decide) (by decide)]
      exact f2
    · exact f4
    · intro k i j hk
      have hk1 : k ≠ 1 ∧ k ≠ 3 ∧ k ≠ 4 ∧ k ≠ 5 ∧ k ≠ 6 ∧ k ≠ 23 ∧ k ≠ 24 ∧ k ≠ 25 := by omega
      obtain ⟨n1, n3, n4, n5, n6, n7, n8, n9⟩ := hk1
      by_cases e : k = 21
      · subst e
        rw [g4 21 i j (by omega) (by decide) (by decide), g3 21 i j (by decide), zU_ap, if_neg (by omega)]
        exact G1 21 i j n1 n3 n4 n5 n6
      · rw [K2 k i j e n7 n8 n9]; exact G1 k i j n1 n3 n4 n5 n6
