/-! open, of the reference -/
theorem e_at0 {x r : Nat} {σ : zS} : fX9_at (nI x) (0 : Int32) (nI r) σ = some (nI (160 * x + 8 * r), σ) := by
  have := e_at (x := x) (j := 0) (r := r) (σ := σ)
  rw [show 8 * (5 * (4 * x + 0) + r) = 160 * x + 8 * r by omega] at this
  exact this
section OM
variable {p n op : Nat} {a : Int32} {σ : zS}
theorem e_o139 {b k : Nat} (hp : pp p) (h12 : σ 21 0 12 = nI p) (hn : n ≤ 5) (hb : b + 8 ≤ 480) (K : zS → Option (Int32 × zS)) : ∃ z, fX9_open_139 (nI n) a (nI k) (nI b) K zN 0 σ = K z ∧ (∀ j, j < 3 → z 30 0 (b + n + j) = iI (uR p a k (5 + j))) ∧ ∀ k i j, ¬ (k = 30 ∧ b + n ≤ j ∧ j < b + n + 3) → z k i j = σ k i j := by
  have hpb := hp.b
  obtain ⟨z, ⟨k1, k2⟩, e⟩ := zloop (β := zS) (L := fun t i y => fX9_open_139 (nI n) a (nI k) (nI b) K t (nI i) y) (fun i y => (∀ j, j < i → y 30 0 (b + n + j) = iI (uR p a k (5 + j))) ∧ ∀ k i j, ¬ (k = 30 ∧ b + n ≤ j ∧ j < b + n + 3) → y k i j = σ k i j) 3 K (by
    rintro t i y hi ⟨k1, k2⟩
    refine ⟨zU y 30 0 (b + n + i) (iI (uR p a k (5 + i))), ⟨?_, ?_⟩, ?_⟩
    · intro c hc
      by_cases hci : c = i
      · subst hci; rw [zU_s]
      · rw [zU_j (by omega)]; exact k1 c (by omega)
    · intro k' i' j hk'
      rw [zU_ap, if_neg (by omega)]; exact k2 k' i' j hk'
    · obtain ⟨s1, s2⟩ := sgN_s a k i
      show (if (3 : Int32) ≤ nI i then _ else zGd (¬ (y 21 0 12) = 0) (zIx ((nI b + nI n) + nI i) 480 (zB (zU y 30 0 ((nI b + nI n) + nI i).toNatClampNeg (sgE a k i - sgE a k i / (y 21 0 12) * (y 21 0 12))) _))) = _
      rw [if_neg (lg3 hi), k2 21 0 12 (by omega), h12, zGd_t (pn0 hp), nI_add, nI_add, zIx_nI (by omega) (by decide), nI_clamp (by omega), s2, iI_n (sgN a k i), iI_mod (by omega) (by omega) (by omega), zB_s, zB_s, nI_1]
      unfold uR
      rw [if_neg (by omega), show 5 + i - 5 = i by omega]) (by
    rintro t y _
    show (if (3 : Int32) ≤ nI 3 then _ else _) = _
    rw [if_pos (by decide)]) 3 0 σ zN (by decide) ⟨fun c hc => absurd hc (by omega), fun _ _ _ _ => rfl⟩ (by decide)
  exact ⟨z, e, k1, k2⟩
theorem e_o102 {b k : Nat} (hk : k < 5) (hn : n ≤ 5) (hb : b + 8 ≤ 480) (K : zS → Option (Int32 × zS)) : ∃ z, fX9_open_102 (nI n) (nI k) (nI b) K zN 0 σ = K z ∧ (∀ j, j < n → z 30 0 (b + j) = iI (uR p a k j)) ∧ ∀ k i j, ¬ (k = 30 ∧ b ≤ j ∧ j < b + n) → z k i j = σ k i j := by
  obtain ⟨z, ⟨k1, k2⟩, e⟩ := zloop (β := zS) (L := fun t i y => fX9_open_102 (nI n) (nI k) (nI b) K t (nI i) y) (fun i y => (∀ j, j < i → y 30 0 (b + j) = iI (uR p a k j)) ∧ ∀ k i j, ¬ (k = 30 ∧ b ≤ j ∧ j < b + n) → y k i j = σ k i j) n K (by
    rintro t i y hi ⟨k1, k2⟩
    refine ⟨zU y 30 0 (b + i) (iI (uR p a k i)), ⟨?_, ?_⟩, ?_⟩
    · intro c hc
      by_cases hci : c = i
      · subst hci; rw [zU_s]
      · rw [zU_j (by omega)]; exact k1 c (by omega)
    · intro k' i' j hk'
      rw [zU_ap, if_neg (by omega)]; exact k2 k' i' j hk'
    · show (if nI n ≤ nI i then _ else _) = _
      rw [if_neg (nI_ge hi (by omega)), nI_add, zIx_nI (by omega) (by decide), zIx_nI (by omega) (by decide), nI_clamp (by omega), uR_5 (by omega)]
      simp only [zB_s, nI_1]
      by_cases h : i = k
      · rw [if_pos (by rw [h]), if_pos h]; rfl
      · rw [if_neg (by rw [zn_eq (by omega) (by omega)]; exact h), if_neg h]; rfl) (by
    rintro t y _
    show (if nI n ≤ nI n then _ else _) = _
    rw [if_pos (nI_le (Nat.le_refl _) (by omega))]) n 0 σ zN (by omega) ⟨fun c hc => absurd hc (by omega), fun _ _ _ _ => rfl⟩ (Nat.lt_of_le_of_lt hn (by decide))
  exact ⟨z, e, k1, k2⟩
theorem e_o84 (hp : pp p) (h12 : σ 21 0 12 = nI p) (hop : op < 3) (hn : n ≤ 5) (K : zS → Option (Int32 × zS)) : ∃ z, fX9_open_84 (nI n) a (nI op) K zN 0 σ = K z ∧ (∀ k, k < n → ∀ i, i < n + 3 → z 30 0 (160 * op + 8 * k + i) = iI (uR p a k (cm n i))) ∧ ∀ k i j, ¬ (k = 30 ∧ 160 * op ≤ j ∧ j < 160 * op + 40) → z k i j = σ k i j := by
  obtain ⟨z, ⟨k1, k2⟩, e⟩ := zloop (β := zS) (L := fun t i y => fX9_open_84 (nI n) a (nI op) K t (nI i) y) (fun m y => (∀ k, k < m → ∀ i, i < n + 3 → y 30 0 (160 * op + 8 * k + i) = iI (uR p a k (cm n i))) ∧ ∀ k i j, ¬ (k = 30 ∧ 160 * op ≤ j ∧ j < 160 * op + 40) → y k i j = σ k i j) n K (by
    rintro t m y hm ⟨k1, k2⟩
    obtain ⟨y1, e1, m1, f1⟩ := e_o102 (p := p) (a := a) (σ := y) (b := 160 * op + 8 * m) (k := m) (by omega) hn (by omega) (fun (y102_14 : zS) => (fX9_open_139 (nI n) a (nI m) (nI (160 * op + 8 * m)) (fun (y139_15 : zS) => (zB (nI m + 1) (fun x16 => fX9_open_84 (nI n) a (nI op) K t x16 y139_15) : Option (Int32 × zS))) zN (0 : Int32) y102_14 : Option (Int32 × zS)))
    obtain ⟨y2, e2, m2, f2⟩ := e_o139 (σ := y1) (a := a) (b := 160 * op + 8 * m) (k := m) hp (by rw [f1 21 0 12 (by omega), k2 21 0 12 (by omega)]; exact h12) hn (by omega) (fun (y139_15 : zS) => (zB (nI m + 1) (fun x16 => fX9_open_84 (nI n) a (nI op) K t x16 y139_15) : Option (Int32 × zS)))
    refine ⟨y2, ⟨?_, ?_⟩, ?_⟩
    · intro k hk i hi
      by_cases hkm : k = m
      · subst hkm
        rcases Nat.lt_or_ge i n with h | h
        · rw [f2 30 0 _ (by omega), m1 i h, cm_l h]
        · have := m2 (i - n) (by omega)
          rw [show 160 * op + 8 * k + n + (i - n) = 160 * op + 8 * k + i by omega] at this
          rw [this]
          unfold cm
          rw [if_neg (by omega), show 5 + (i - n) = i - n + 5 by omega]
      · rw [f2 30 0 _ (by omega), f1 30 0 _ (by omega)]
        exact k1 k (by omega) i hi
    · intro k' i' j hk'
      rw [f2 k' i' j (by omega), f1 k' i' j (by omega)]; exact k2 k' i' j hk'
    · show (if nI n ≤ nI m then _ else _) = _
      rw [if_neg (nI_ge hm (by omega)), e_at0, zCi_s]
      refine e1.trans (e2.trans ?_)
      rw [zB_s, nI_1]) (by
    rintro t y _
    show (if nI n ≤ nI n then _ else _) = _
    rw [if_pos (nI_le (Nat.le_refl _) (by omega))]) n 0 σ zN (by omega) ⟨fun c hc => absurd hc (by omega), fun _ _ _ _ => rfl⟩ (Nat.lt_of_le_of_lt hn (by decide))
  exact ⟨z, e, k1, k2⟩
theorem e_o48 (hop : op < 3) (K : zS → Option (Int32 × zS)) : ∃ z, fX9_open_48 (nI n) (nI op) K zN 0 σ = K z ∧ (∀ j, j < 4 → z 29 0 (4 * op + j) = if j = 0 then nI n else 0) ∧ ∀ k i j, ¬ (k = 29 ∧ 4 * op ≤ j ∧ j < 4 * op + 4) → z k i j = σ k i j := by
  obtain ⟨z, ⟨k1, k2⟩, e⟩ := zloop (β := zS) (L := fun t i y => fX9_open_48 (nI n) (nI op) K t (nI i) y) (fun i y => (∀ j, j < i → y 29 0 (4 * op + j) = if j = 0 then nI n else 0) ∧ ∀ k i j, ¬ (k = 29 ∧ 4 * op ≤ j ∧ j < 4 * op + 4) → y k i j = σ k i j) 4 K (by
    rintro t i y hi ⟨k1, k2⟩
    refine ⟨zU y 29 0 (4 * op + i) (if i = 0 then nI n else 0), ⟨?_, ?_⟩, ?_⟩
    · intro c hc
      by_cases hci : c = i
      · subst hci; rw [zU_s]
      · rw [zU_j (by omega)]; exact k1 c (by omega)
    · intro k' i' j hk'
      rw [zU_ap, if_neg (by omega)]; exact k2 k' i' j hk'
    · show (if (4 : Int32) ≤ nI i then _ else _) = _
      rw [if_neg (lg4 hi), e_41, zIx_nI (by omega) (by decide), zIx_nI (by omega) (by decide), nI_clamp (by omega)]
      simp only [zB_s, nI_1]
      by_cases h : i = 0
      · rw [if_pos (by rw [h]; rfl), if_pos h]
      · rw [if_neg (by show ¬ nI i = nI 0; rw [zn_eq (by omega) (by omega)]; exact h), if_neg h]) (by
    rintro t y _
    show (if (4 : Int32) ≤ nI 4 then _ else _) = _
    rw [if_pos (by decide)]) 4 0 σ zN (by decide) ⟨fun c hc => absurd hc (by omega), fun _ _ _ _ => rfl⟩ (by decide)
  exact ⟨z, e, k1, k2⟩
theorem within15 (h1 : 1 ≤ n) (h2 : n ≤ 5) : fX9_within (nI n) 1 5 σ = some (1, σ) := by
  rw [e_within, if_neg (by show ¬ nI n < nI 1; rw [zn_lt (by omega) (by decide)]; omega), if_neg (by show ¬ nI 5 < nI n; rw [zn_lt (by decide) (by omega)]; omega)]
theorem e_openM (hp : pp p) (h12 : σ 21 0 12 = nI p) (hop : op < 3) (h14 : σ 21 0 14 = nI op) (h1 : 1 ≤ n) (hn : n ≤ 5) : ∃ σ', fX9_open (nI n) a σ = some (σ 21 0 13, σ') ∧ σ' 21 0 14 = nI (op + 1) ∧ σ' 21 0 13 = σ 21 0 13 + 1 ∧ σ' 27 0 op = σ 21 0 13 ∧ σ' 28 0 op = nI n ∧ mN σ' (4 * op) n (bl n) (uR p a) ∧ (∀ j, 1 ≤ j → j < 4 → σ' 29 0 (4 * op + j) = 0) ∧ ∀ k i j, ¬ (k = 21 ∧ (j = 13 ∨ j = 14)) → ¬ (k = 27 ∧ j = op) → ¬ (k = 28 ∧ j = op) → ¬ (k = 29 ∧ 4 * op ≤ j ∧ j < 4 * op + 4) → ¬ (k = 30 ∧ 160 * op ≤ j ∧ j < 160 * op + 40) → σ' k i j = σ k i j := by
  generalize hK : (fun (y84_9 : zS) => (zB (zU y84_9 21 0 14 ((y84_9 21 0 14) + (1 : Int32))) (fun s10 => zB (zU s10 21 0 13 ((s10 21 0 13) + (1 : Int32))) (fun s11 => some ((s11 21 0 13) - (1 : Int32), s11))) : Option (Int32 × zS))) = K
  obtain ⟨w1, e1, m1, f1⟩ := e_o48 (n := n) (σ := zU (zU σ 27 0 op (σ 21 0 13)) 28 0 op (nI n)) hop (fun (y48_8 : zS) => (fX9_open_84 (nI n) a (nI op) K zN (0 : Int32) y48_8 : Option (Int32 × zS)))
  obtain ⟨w2, e2, m2, f2⟩ := e_o84 (n := n) (a := a) (op := op) (σ := w1) hp (by rw [f1 21 0 12 (by omega), zU_k (by decide), zU_k (by decide)]; exact h12) hop hn K
  have g21 : ∀ j, w2 21 0 j = σ 21 0 j := fun j => by rw [f2 21 0 j (by omega), f1 21 0 j (by omega), zU_k (by decide), zU_k (by decide)]
  refine ⟨zU (zU w2 21 0 14 (nI (op + 1))) 21 0 13 (σ 21 0 13 + 1), ?_, ?_, ?_, ?_, ?_, ⟨?_, ?_⟩, ?_, ?_⟩
  · unfold fX9_open
    rw [within15 h1 hn, zCi_s, if_neg (by decide), h14, if_neg (by show ¬ nI op = nI 3; rw [zn_eq (by omega) (by decide)]; omega), zB_s, zIx_nI hop (by decide), nI_clamp (by omega), zB_s, zIx_nI hop (by decide), zB_s, hK]
    refine e1.trans (e2.trans ?_)
    rw [← hK]
    dsimp only
    rw [zB_s, zB_s, g21, h14, nI_1, zU_j (show (13 : Nat) ≠ 14 by decide), g21, zU_s, Int32.add_sub_cancel]
  · rw [zU_j (by decide), zU_s]
  · rw [zU_s]
  · rw [zU_k (by decide), zU_k (by decide), f2 27 0 op (by omega), f1 27 0 op (by omega), zU_k (by decide), zU_s]
  · rw [zU_k (by decide), zU_k (by decide), f2 28 0 op (by omega), f1 28 0 op (by omega), zU_s]
  · have := m1 0 (by decide)
    rw [if_pos rfl, Nat.add_zero] at this
    rw [zU_k (by decide), zU_k (by decide), f2 29 0 _ (by omega), this, (bl_Sl (r := 0) (q := 0) hn).1]
  · intro r q hr i hi
    obtain ⟨rfl, hr2⟩ := (bl_Sl hn).2 hr
    rw [zU_k (by decide), zU_k (by decide), show 8 * (5 * (4 * op) + q) + i = 160 * op + 8 * q + i by omega]
    exact m2 q hr2 i hi
  · intro j j1 j2
    have := m1 j j2
    rw [if_neg (by omega)] at this
    rw [zU_k (by decide), zU_k (by decide), f2 29 0 _ (by omega), this]
  · intro k i j a1 a2 a3 a4 a5
    rw [zU_ap, if_neg (by omega), zU_ap, if_neg (by omega), f2 k i j a5, f1 k i j a4, zU_ap, if_neg (by omega), zU_ap, if_neg (by omega)]
end OM
theorem mN_0 {σ : zS} {y n : Nat} {M : Nat → Nat → Int} (h : σ 29 0 y = 0) : mN σ y n (bl 0) M := by
  refine ⟨by rw [h, (bl_Sl (r := 0) (q := 0) (show 0 ≤ 5 by omega)).1]; rfl, fun r q hr => ?_⟩
  have := ((bl_Sl (show 0 ≤ 5 by omega)).2 hr).2
  omega
theorem cN_0 {σ : zS} {nd : Nat} {M : Nat → Nat → Int} (h : ∀ q, q < 5 → σ 17 nd q = 0) : cN σ nd (bl 0) M := ⟨fun q hq => by rw [h q hq, if_neg (by unfold bl; simp)], fun q hq hl => absurd hl (by unfold bl; simp)⟩
theorem c_open (a b : Int32) (σ : zS) (h : J3 σ) : Cs3 σ (fX8_open a b) (fX9_open a b) := by
  obtain ⟨p, op, s, hI⟩ := id h
  obtain ⟨a1, a2, a3, a4, a5, a6, a7, a8, a9, a10, a11⟩ := id hI
  by_cases h1 : a < 1
  · exact Cs3.same h (r := -2) (by unfold fX8_open; rw [if_pos h1]) (by unfold fX9_open; rw [e_within, if_pos h1]; rfl)
  by_cases h5 : (5 : Int32) < a
  · exact Cs3.same h (r := -2) (by unfold fX8_open; rw [if_neg h1, if_neg (by rw [zle_lt]; exact fun z => z h5)]) (by unfold fX9_open; rw [e_within, if_neg h1, if_pos h5]; rfl)
  obtain ⟨n, n1, n2, rfl⟩ : ∃ n, 1 ≤ n ∧ n ≤ 5 ∧ a = nI n := by
    rcases zcase a 6 (by decide) with q | q | ⟨n, hn, rfl⟩
    · refine absurd ?_ h1
      rw [Int32.lt_iff_toInt_lt] at q ⊢
      have : (0 : Int32).toInt = 0 := rfl
      have : (1 : Int32).toInt = 1 := rfl
      omega
    · exact absurd q (by rw [← zlt_le, zlt_1 (n := 5) (by decide)]; exact h5)
    · refine ⟨n, ?_, by omega, rfl⟩
      rcases Nat.eq_zero_or_pos n with z | z
      · subst z; exact absurd (by decide) h1
      · exact z
  have u8 : fX8_open (nI n) b σ = zCi (fX2_begin (nI n) b σ) (fun x2 s1 => some (x2, s1)) := by
    unfold fX8_open
    rw [if_neg h1, if_pos (by rw [zle_lt]; exact h5)]
  by_cases ho : op = 3
  · subst ho
    refine Cs3.same h (r := -4) ?_ ?_
    · rw [u8]
      unfold fX2_begin
      rw [a6, if_neg (by decide), zCi_s]
    · unfold fX9_open
      rw [within15 n1 n2, zCi_s, if_neg (by decide), a7, if_pos (by decide)]
  have hop : op < 3 := by omega
  have hg := (a9 op hop).1
  obtain ⟨σ1, e1, x1, x2, x3, x4, x5, x6, f1⟩ := e_begin (σ := σ) (a := b) (n := n) a1 a2 hop a6 hg (a9 op hop).2 n2
  have g1 : ∀ k i j, 19 ≤ k → σ1 k i j = σ k i j := fun k i j hk => f1 k i j (by omega) (by omega) (by omega) (by omega)
  obtain ⟨σ2, e2, y1, y2, y3, y4, y5, y6, f2⟩ := e_openM (σ := σ1) (a := b) (n := n) a1 (by rw [g1 _ _ _ (by decide)]; exact a3) hop (by rw [g1 _ _ _ (by decide)]; exact a7) n1 n2
  have g2 : ∀ k i j, k < 21 → σ2 k i j = σ1 k i j := fun k i j hk => f2 k i j (by omega) (by omega) (by omega) (by omega) (by omega)
  have h13 : σ1 21 0 13 = σ 10 0 5 := by rw [g1 _ _ _ (by decide)]; exact a8
  refine ⟨σ 10 0 5, σ1, σ2, by rw [u8, e1, zCi_s], by rw [e2, h13], ⟨p, op + 1, s, a1, ?_, ?_, ?_, by omega, ?_, y1, ?_, ?_, a10, ?_⟩, ?_⟩
  · rw [g2 9 0 0 (by decide), f1 9 0 0 (by omega) (by omega) (by omega) (by omega)]; exact a2
  · rw [f2 21 0 12 (by omega) (by omega) (by omega) (by omega) (by omega), g1 21 0 12 (by decide)]; exact a3
  · rw [f2 21 0 19 (by omega) (by omega) (by omega) (by omega) (by omega), g1 21 0 19 (by decide), g2 9 0 1 (by decide), f1 9 0 1 (by omega) (by omega) (by omega) (by omega)]; exact a4
  · rw [g2 10 0 4 (by decide)]; exact x1
  · rw [y2, h13, g2 10 0 5 (by decide), x2]
  · intro x hx
    rw [g2 11 0 x (by decide), f1 11 0 x (by omega) (by omega) (by omega) (by omega)]; exact a9 x hx
  · intro x hx
    by_cases hxo : x = op
    · subst hxo
      refine ⟨n, n1, n2, ?_, ?_, y4, fun j hj => ?_⟩
      · rw [g2 13 _ 1 (by decide), x3, y3, h13]
      · rw [g2 13 _ 2 (by decide), x4]
      · by_cases hj0 : j = 0
        · subst hj0
          exact ⟨bl n, uR p b, uR_Rf a1 n2 (Nat.le_refl _), x5.c (fun q _ => g2 _ _ _ (by decide)) (fun q _ _ c _ => g2 _ _ _ (by decide)), y5⟩
        · exact ⟨bl 0, uR p b, uR_Rf a1 n2 (by omega), cN_0 (fun q hq => by rw [g2 17 _ q (by decide)]; exact x6 j q (by omega) hj hq), mN_0 (y6 j (by omega) hj)⟩
    · have hne : s x ≠ s op := fun z => hxo (a10 x op (by omega) hop z)
      have hsx := (a9 x (by omega)).1
      have hb : ∀ k i j, k < 21 → ¬ (k = 10) → ¬ (k = 13 ∧ i = s op) → ¬ (k = 17 ∧ 4 * s op ≤ i ∧ i < 4 * s op + 4) → ¬ (k = 18 ∧ (i = 60 ∨ 20 * s op ≤ i ∧ i < 20 * s op + 5)) → σ2 k i j = σ k i j := fun k i j z1 z2 z3 z4 z5 => by rw [g2 k i j z1, f1 k i j (by omega) z3 z4 z5]
      exact (a11 x (by omega)).c (hb _ _ _ (by omega) (by omega) (by omega) (by omega) (by omega)) (hb _ _ _ (by omega) (by omega) (by omega) (by omega) (by omega)) (by rw [f2 27 0 x (by omega) (by omega) (by omega) (by omega) (by omega), g1 _ _ _ (by decide)]) (by rw [f2 28 0 x (by omega) (by omega) (by omega) (by omega) (by omega), g1 _ _ _ (by decide)]) (fun j q hj => hb _ _ _ (by omega) (by omega) (by omega) (by omega) (by omega)) (fun i c i1 i2 => hb _ _ _ (by omega) (by omega) (by omega) (by omega) (by omega)) (fun j hj => by rw [f2 29 0 _ (by omega) (by omega) (by omega) (by omega) (by omega), g1 _ _ _ (by decide)]) (fun i i1 i2 => by rw [f2 30 0 _ (by omega) (by omega) (by omega) (by omega) (by omega), g1 _ _ _ (by decide)])
  · intro k i j hk
    rw [f2 k i j (by omega) (by omega) (by omega) (by omega) (by omega), f1 k i j (by omega) (by omega) (by omega) (by omega)]
