/-! the reference: mixes, and a row that comes -/
section MC
variable {p n x j : Nat} {led : Nat → Bool} {M : Nat → Nat → Int} {v : Nat → Int} {σ : zS}
theorem pn0 (hp : pp p) : ¬ nI p = 0 := by
  have := hp.b
  show ¬ nI p = nI 0
  rw [zn_eq (by omega) (by decide)]; omega
theorem e_add62 {r : Nat} {t : Int} {u w : Nat → Int} (hp : pp p) (hn : n ≤ 5) (hx : x < 3) (hj : j < 4) (hr : r < 5) (h12 : σ 21 0 12 = nI p) (h28 : σ 28 0 x = nI n) (hu : mV (σ 34 0) n u) (hw : ∀ i, i < n + 3 → σ 30 0 (8 * (5 * (4 * x + j) + r) + i) = iI (w (cm n i))) (bu : ∀ c, 0 ≤ u c ∧ u c < p) (bw : ∀ c, 0 ≤ w c ∧ w c < p) (t1 : 0 ≤ t) (t2 : t < p) (K : zS → Option (Int32 × zS)) : ∃ z, fX9_mixes_62 (nI x) (nI j) (nI r) (iI t) K zN 0 σ = K z ∧ mV (z 34 0) n (fun c => (u c + t * w c) % p) ∧ ∀ k i j, k ≠ 34 → z k i j = σ k i j := by
  obtain ⟨p1, p2⟩ := hp.b
  obtain ⟨z, ⟨k1, k2⟩, e⟩ := zloop (β := zS) (L := fun s i z => fX9_mixes_62 (nI x) (nI j) (nI r) (iI t) K s (nI i) z)
    (fun i z => (∀ c, c < n + 3 → z 34 0 c = iI (if c < i then (u (cm n c) + t * w (cm n c)) % p else u (cm n c))) ∧ ∀ k i j, k ≠ 34 → z k i j = σ k i j) (n + 3) K (by
    rintro s i z hi ⟨k1, k2⟩
    refine ⟨zU z 34 0 i (iI ((u (cm n i) + t * w (cm n i)) % p)), ⟨?_, ?_⟩, ?_⟩
    · intro c hc
      by_cases hci : c = i
      · subst hci; rw [zU_s, if_pos (by omega)]
      · rw [zU_j hci, k1 c hc]
        by_cases hlt : c < i
        · rw [if_pos hlt, if_pos (by omega)]
        · rw [if_neg hlt, if_neg (by omega)]
    · intro k' i' j' hk'
      rw [zU_k hk']; exact k2 k' i' j' hk'
    · show zIx (nI x) 3 _ = _
      have b1 := bu (cm n i)
      have b2 := bw (cm n i)
      have b3 : 0 ≤ t * w (cm n i) ∧ t * w (cm n i) ≤ 49 := by
        refine ⟨Int.mul_nonneg (by omega) b2.1, ?_⟩
        calc t * w (cm n i) ≤ 7 * w (cm n i) := Int.mul_le_mul_of_nonneg_right (by omega) b2.1
          _ ≤ 49 := by omega
      have hz := k1 i hi
      rw [if_neg (Nat.lt_irrefl i)] at hz
      rw [zIx_nI hx (by decide), nI_clamp (show x < 2 ^ 31 by omega), k2 28 0 x (by decide), h28, n3, if_neg (nI_ge hi (by omega)), zIx_nI (show i < 8 by omega) (by decide), e_at, zCi_s, nI_add, zIx_nI (by omega) (by decide), k2 21 0 12 (by decide), h12, zGd_t (pn0 hp), zIx_nI (show i < 8 by omega) (by decide), nI_clamp (by omega), nI_clamp (by omega), hz, k2 30 0 _ (by decide), hw i hi, iI_mul, iI_add, iI_mod (by omega) (by omega) (by omega), zB_s, zB_s, nI_1]) (by
    rintro s z ⟨k1, k2⟩
    show zIx (nI x) 3 _ = _
    rw [zIx_nI hx (by decide), nI_clamp (show x < 2 ^ 31 by omega), k2 28 0 x (by decide), h28, n3, if_pos (nI_le (Nat.le_refl _) (by omega))]) (n + 3) 0 σ zN (by omega) ⟨fun c hc => by rw [if_neg (by omega)]; exact hu c hc, fun _ _ _ _ => rfl⟩ (Nat.lt_of_le_of_lt (show n + 3 ≤ 8 by omega) (by decide))
  exact ⟨z, e, fun i hi => by rw [k1 i hi, if_pos hi], k2⟩
theorem e_mixes (hp : pp p) (h12 : σ 21 0 12 = nI p) (hx : x < 3) (hj : j < 4) (hn : n ≤ 5) (h28 : σ 28 0 x = nI n) (hR : Rf p n led M) (h : mN σ (4 * x + j) n led M) {m : Nat} (hm : m < 1000000) : ∃ σ', fX9_mixes (nI x) (nI j) (nI m) σ = some (0, σ') ∧ mV (σ' 34 0) n (mv p M (Sl led 5) m) ∧ ∀ k i j, k ≠ 34 → σ' k i j = σ k i j := by
  obtain ⟨p1, p2⟩ := hp.b
  have hlen := Sl_len led 5
  obtain ⟨w1, ⟨f1, f2⟩, e1⟩ := zloop (β := zS) (L := fun t i y => fX9_mixes_3 (fun (y3_1 : zS) => (fX9_mixes_30 (nI x) (nI j) (fun (y30_2 : zS) => (some ((0 : Int32), y30_2) : Option (Int32 × zS))) zN (nI m) (0 : Int32) y3_1 : Option (Int32 × zS))) t (nI i) y)
    (fun i y => (∀ c, c < i → y 34 0 c = 0) ∧ ∀ k i j, k ≠ 34 → y k i j = σ k i j) 8 (fun y => fX9_mixes_30 (nI x) (nI j) (fun (y30_2 : zS) => (some ((0 : Int32), y30_2) : Option (Int32 × zS))) zN (nI m) (0 : Int32) y) (by
    rintro t i y hi ⟨f1, f2⟩
    refine ⟨zU y 34 0 i 0, ⟨?_, ?_⟩, ?_⟩
    · intro c hc
      by_cases hci : c = i
      · subst hci; rw [zU_s]
      · rw [zU_j hci]; exact f1 c (by omega)
    · intro k' i' j hk'
      rw [zU_k hk']; exact f2 k' i' j hk'
    · show (if (8 : Int32) ≤ nI i then _ else _) = _
      rw [if_neg (lg8 hi), zIx_nI hi (by decide), nI_clamp (by omega), zB_s, zB_s, nI_1]) (by
    rintro t y _
    show (if (8 : Int32) ≤ nI 8 then _ else _) = _
    rw [if_pos (by decide)]) 8 0 σ zN (by decide) ⟨fun c hc => absurd hc (by omega), fun _ _ _ _ => rfl⟩ (by decide)
  obtain ⟨⟨z, w2⟩, ⟨g0, g1, g2⟩, e2⟩ := zloop (β := Nat × zS) (L := fun t r b => fX9_mixes_30 (nI x) (nI j) (fun (y30_2 : zS) => (some ((0 : Int32), y30_2) : Option (Int32 × zS))) t (nI b.1) (nI r) b.2)
    (fun r b => b.1 = m / p ^ r ∧ mV (b.2 34 0) n (mv p M ((Sl led 5).take r) m) ∧ ∀ k i j, k ≠ 34 → b.2 k i j = σ k i j) (Sl led 5).length (fun b => some (0, b.2)) (by
    rintro t r ⟨z, y⟩ hr ⟨g0, g1, g2⟩
    dsimp only at g0 g1 g2 ⊢
    have hzm : z < 1000000 := by rw [g0]; exact Nat.lt_of_le_of_lt (Nat.div_le_self _ _) hm
    obtain ⟨q, hq⟩ : ∃ q, (Sl led 5)[r]? = some q := ⟨_, List.getElem?_eq_getElem hr⟩
    obtain ⟨r1, r2⟩ := get_in hq
    obtain ⟨q1, q2⟩ := Sl_mem.1 r2
    have hmN : mN y (4 * x + j) n led M := h.c hn (g2 29 0 _ (by decide)) (fun j' _ _ => g2 30 0 j' (by decide))
    obtain ⟨y', ey, ry, fy⟩ := e_add62 (σ := y) (r := r) (t := ((z % p : Nat) : Int)) (w := M q) hp hn hx hj (by omega) (by rw [g2 21 0 12 (by decide)]; exact h12) (by rw [g2 28 0 x (by decide)]; exact h28) g1 (hmN.2 r q hq) (fun c => mv_b (by omega) M _ m c) (hR q q1 q2).2.1 (by omega) (by have := Nat.mod_lt z (show 0 < p by omega); omega) (fun (y62_9 : zS) => (zB (nI r + 1) (fun x10 => fX9_mixes_30 (nI x) (nI j) (fun (y30_2 : zS) => (some ((0 : Int32), y30_2) : Option (Int32 × zS))) t (nI (z / p)) x10 y62_9) : Option (Int32 × zS)))
    refine ⟨(z / p, y'), ⟨?_, ?_, ?_⟩, ?_⟩
    · dsimp only
      rw [g0, Nat.div_div_eq_div_mul]; rfl
    · intro i hi
      dsimp only
      rw [ry i hi, take_s hq, mv_app, g0, List.length_take, Nat.min_eq_left (by omega)]
    · intro k' i' j' hk'
      dsimp only
      rw [fy k' i' j' hk']; exact g2 k' i' j' hk'
    · show zCi (fX9_rankOf (nI x) (nI j) y) _ = _
      rw [e_rk hx hj, zCi_s, hmN.1, if_neg (nI_ge r1 (by omega)), g2 21 0 12 (by decide), h12, zGd_t (pn0 hp), iI_n z, iI_mod (by omega) (by omega) (by omega), zB_s, zGd_t (pn0 hp), iI_div (by omega) (by omega) (by omega), zB_s, ← Int.natCast_emod, ← Int.natCast_ediv, ← iI_n (z / p)]
      refine Eq.trans ey ?_
      rw [zB_s, nI_1]) (by
    rintro t ⟨z, y⟩ ⟨g0, g1, g2⟩
    show zCi (fX9_rankOf (nI x) (nI j) y) _ = _
    dsimp only at g2
    rw [e_rk hx hj, zCi_s, g2 29 0 _ (by decide), h.1, if_pos (nI_le (Nat.le_refl _) (by omega))]) (Sl led 5).length 0 (m, w1) zN (by omega) ⟨by show m = m / p ^ 0; rw [Nat.pow_zero, Nat.div_one], fun i hi => by
      show w1 34 0 i = iI 0
      exact f1 i (by omega), f2⟩ (Nat.lt_of_le_of_lt hlen (by decide))
  rw [List.take_length] at g1
  exact ⟨w2, e1.trans e2, g1, g2⟩
theorem e_mixesOf (hp : pp p) (h12 : σ 21 0 12 = nI p) (hx : x < 3) (hj : j < 4) (h : mN σ (4 * x + j) n led M) : fX9_mixesOf (nI x) (nI j) σ = some (nI (p ^ (Sl led 5).length), σ) := by
  have hlen := Sl_len led 5
  obtain ⟨b, hb, e⟩ := zloop (β := Nat) (L := fun t r b => fX9_mixesOf_5 (nI x) (nI j) (fun u y => some (u, y)) t (nI b) (nI r) σ) (fun r b => b = p ^ r) (Sl led 5).length (fun b => some (nI b, σ)) (by
    rintro t r b hr rfl
    refine ⟨p ^ r * p, rfl, ?_⟩
    show zCi (fX9_rankOf (nI x) (nI j) σ) _ = _
    rw [e_rk hx hj, zCi_s, h.1, if_neg (nI_ge hr (by omega)), h12, nI_mu, zB_s, zB_s, nI_1]) (by
    rintro t b _
    show zCi (fX9_rankOf (nI x) (nI j) σ) _ = _
    rw [e_rk hx hj, zCi_s, h.1, if_pos (nI_le (Nat.le_refl _) (by omega))]) (Sl led 5).length 0 1 zN (by omega) rfl (Nat.lt_of_le_of_lt hlen (by decide))
  rw [hb] at e
  exact e
theorem e_scale {k : Nat} {u : Nat → Int} (hp : pp p) (hn : n ≤ 5) (h12 : σ 21 0 12 = nI p) (hk : k < p) (hu : mV (σ 35 0) n u) (bu : ∀ c, 0 ≤ u c ∧ u c < p) (K : zS → Option (Int32 × zS)) : ∃ z, fX9_comes_46 (nI n) (nI k) K zN 0 σ = K z ∧ mV (z 35 0) n (fun c => ((k : Int) * u c) % p) ∧ ∀ k i j, k ≠ 35 → z k i j = σ k i j := by
  obtain ⟨p1, p2⟩ := hp.b
  obtain ⟨z, ⟨k1, k2⟩, e⟩ := zloop (β := zS) (L := fun s i z => fX9_comes_46 (nI n) (nI k) K s (nI i) z)
    (fun i z => (∀ c, c < n + 3 → z 35 0 c = iI (if c < i then ((k : Int) * u (cm n c)) % p else u (cm n c))) ∧ ∀ k i j, k ≠ 35 → z k i j = σ k i j) (n + 3) K (by
    rintro s i z hi ⟨k1, k2⟩
    refine ⟨zU z 35 0 i (iI (((k : Int) * u (cm n i)) % p)), ⟨?_, ?_⟩, ?_⟩
    · intro c hc
      by_cases hci : c = i
      · subst hci; rw [zU_s, if_pos (by omega)]
      · rw [zU_j hci, k1 c hc]
        by_cases hlt : c < i
        · rw [if_pos hlt, if_pos (by omega)]
        · rw [if_neg hlt, if_neg (by omega)]
    · intro k' i' j' hk'
      rw [zU_k hk']; exact k2 k' i' j' hk'
    · show (if nI n + 3 ≤ nI i then _ else _) = _
      have b1 := bu (cm n i)
      have b3 : 0 ≤ (k : Int) * u (cm n i) ∧ (k : Int) * u (cm n i) ≤ 49 := by
        refine ⟨Int.mul_nonneg (by omega) b1.1, ?_⟩
        calc (k : Int) * u (cm n i) ≤ 7 * u (cm n i) := Int.mul_le_mul_of_nonneg_right (by omega) b1.1
          _ ≤ 49 := by omega
      have hz := k1 i hi
      rw [if_neg (Nat.lt_irrefl i)] at hz
      rw [n3, if_neg (nI_ge hi (by omega)), zIx_nI (show i < 8 by omega) (by decide), k2 21 0 12 (by decide), h12, zGd_t (pn0 hp), zIx_nI (show i < 8 by omega) (by decide), nI_clamp (by omega), hz, iI_n k, iI_mul, Int.mul_comm (u (cm n i)), iI_mod (by omega) (by omega) (by omega), zB_s, zB_s, nI_1]) (by
    rintro s z ⟨k1, k2⟩
    show (if nI n + 3 ≤ nI (n + 3) then _ else _) = _
    rw [n3, if_pos (nI_le (Nat.le_refl _) (by omega))]) (n + 3) 0 σ zN (by omega) ⟨fun c hc => by rw [if_neg (by omega)]; exact hu c hc, fun _ _ _ _ => rfl⟩ (Nat.lt_of_le_of_lt (show n + 3 ≤ 8 by omega) (by decide))
  exact ⟨z, e, fun i hi => by rw [k1 i hi, if_pos hi], k2⟩
theorem e_rsA {a : Nat} {t : Int} {u w : Nat → Int} (hp : pp p) (hn : n ≤ 5) (h12 : σ 21 0 12 = nI p) (ha : a + 8 ≤ 480) (hu : ∀ i, i < n + 3 → σ 30 0 (a + i) = iI (u (cm n i))) (hw : mV (σ 35 0) n w) (bu : ∀ c, 0 ≤ u c ∧ u c < p) (bw : ∀ c, 0 ≤ w c ∧ w c < p) (t1 : 0 ≤ t) (t2 : t < p) (K : zS → Option (Int32 × zS)) : ∃ z, fX9_comes_149 (nI n) (nI a) (iI t) K zN 0 σ = K z ∧ (∀ i, i < n + 3 → z 30 0 (a + i) = iI ((u (cm n i) + (p - t) * w (cm n i)) % p)) ∧ ∀ k i j, ¬ (k = 30 ∧ a ≤ j ∧ j < a + 8) → z k i j = σ k i j := by
  obtain ⟨p1, p2⟩ := hp.b
  obtain ⟨z, ⟨k1, k2⟩, e⟩ := zloop (β := zS) (L := fun s i z => fX9_comes_149 (nI n) (nI a) (iI t) K s (nI i) z)
    (fun i z => (∀ c, c < n + 3 → z 30 0 (a + c) = iI (if c < i then (u (cm n c) + (p - t) * w (cm n c)) % p else u (cm n c))) ∧ ∀ k i j, ¬ (k = 30 ∧ a ≤ j ∧ j < a + 8) → z k i j = σ k i j) (n + 3) K (by
    rintro s i z hi ⟨k1, k2⟩
    refine ⟨zU z 30 0 (a + i) (iI ((u (cm n i) + (p - t) * w (cm n i)) % p)), ⟨?_, ?_⟩, ?_⟩
    · intro c hc
      by_cases hci : c = i
      · subst hci; rw [zU_s, if_pos (by omega)]
      · rw [zU_j (by omega), k1 c hc]
        by_cases hlt : c < i
        · rw [if_pos hlt, if_pos (by omega)]
        · rw [if_neg hlt, if_neg (by omega)]
    · intro k' i' j' hk'
      rw [zU_ap, if_neg (by omega)]; exact k2 k' i' j' hk'
    · show (if nI n + 3 ≤ nI i then _ else _) = _
      have b1 := bu (cm n i)
      have b2 := bw (cm n i)
      have b3 : 0 ≤ ((p : Int) - t) * w (cm n i) ∧ ((p : Int) - t) * w (cm n i) ≤ 49 := by
        refine ⟨Int.mul_nonneg (by omega) b2.1, ?_⟩
        calc ((p : Int) - t) * w (cm n i) ≤ 7 * w (cm n i) := Int.mul_le_mul_of_nonneg_right (by omega) b2.1
          _ ≤ 49 := by omega
      have hz := k1 i hi
      rw [if_neg (Nat.lt_irrefl i)] at hz
      rw [n3, if_neg (nI_ge hi (by omega)), nI_add, zIx_nI (show a + i < 480 by omega) (by decide), zIx_nI (show i < 8 by omega) (by decide), k2 21 0 12 (by omega), h12, zGd_t (pn0 hp), zIx_nI (show a + i < 480 by omega) (by decide), nI_clamp (by omega), nI_clamp (by omega), hz, k2 35 0 i (by omega), hw i hi, iI_n p, iI_sub, iI_mul, iI_add, ← iI_n p, iI_mod (by omega) (by omega) (by omega), zB_s, zB_s, nI_1]) (by
    rintro s z _
    show (if nI n + 3 ≤ nI (n + 3) then _ else _) = _
    rw [n3, if_pos (nI_le (Nat.le_refl _) (by omega))]) (n + 3) 0 σ zN (by omega) ⟨fun c hc => by rw [if_neg (by omega)]; exact hu c hc, fun _ _ _ _ => rfl⟩ (Nat.lt_of_le_of_lt (show n + 3 ≤ 8 by omega) (by decide))
  exact ⟨z, e, fun i hi => by rw [k1 i hi, if_pos hi], k2⟩
theorem e_rsB {a : Nat} {t : Int} {u w : Nat → Int} (hp : pp p) (hn : n ≤ 5) (h12 : σ 21 0 12 = nI p) (ha : a + 8 ≤ 480) (hu : ∀ i, i < n + 3 → σ 30 0 (a + i) = iI (u (cm n i))) (hw : mV (σ 35 0) n w) (bu : ∀ c, 0 ≤ u c ∧ u c < p) (bw : ∀ c, 0 ≤ w c ∧ w c < p) (t1 : 0 ≤ t) (t2 : t < p) (K : zS → Option (Int32 × zS)) : ∃ z, fX9_comes_149_57 (nI n) (nI a) (iI t) K zN 0 σ = K z ∧ (∀ i, i < n + 3 → z 30 0 (a + i) = iI ((u (cm n i) + (p - t) * w (cm n i)) % p)) ∧ ∀ k i j, ¬ (k = 30 ∧ a ≤ j ∧ j < a + 8) → z k i j = σ k i j := by
  obtain ⟨p1, p2⟩ := hp.b
  obtain ⟨z, ⟨k1, k2⟩, e⟩ := zloop (β := zS) (L := fun s i z => fX9_comes_149_57 (nI n) (nI a) (iI t) K s (nI i) z)
    (fun i z => (∀ c, c < n + 3 → z 30 0 (a + c) = iI (if c < i then (u (cm n c) + (p - t) * w (cm n c)) % p else u (cm n c))) ∧ ∀ k i j, ¬ (k = 30 ∧ a ≤ j ∧ j < a + 8) → z k i j = σ k i j) (n + 3) K (by
    rintro s i z hi ⟨k1, k2⟩
    refine ⟨zU z 30 0 (a + i) (iI ((u (cm n i) + (p - t) * w (cm n i)) % p)), ⟨?_, ?_⟩, ?_⟩
    · intro c hc
      by_cases hci : c = i
      · subst hci; rw [zU_s, if_pos (by omega)]
      · rw [zU_j (by omega), k1 c hc]
        by_cases hlt : c < i
        · rw [if_pos hlt, if_pos (by omega)]
        · rw [if_neg hlt, if_neg (by omega)]
    · intro k' i' j' hk'
      rw [zU_ap, if_neg (by omega)]; exact k2 k' i' j' hk'
    · show (if nI n + 3 ≤ nI i then _ else _) = _
      have b1 := bu (cm n i)
      have b2 := bw (cm n i)
      have b3 : 0 ≤ ((p : Int) - t) * w (cm n i) ∧ ((p : Int) - t) * w (cm n i) ≤ 49 := by
        refine ⟨Int.mul_nonneg (by omega) b2.1, ?_⟩
        calc ((p : Int) - t) * w (cm n i) ≤ 7 * w (cm n i) := Int.mul_le_mul_of_nonneg_right (by omega) b2.1
          _ ≤ 49 := by omega
      have hz := k1 i hi
      rw [if_neg (Nat.lt_irrefl i)] at hz
      rw [n3, if_neg (nI_ge hi (by omega)), nI_add, zIx_nI (show a + i < 480 by omega) (by decide), zIx_nI (show i < 8 by omega) (by decide), k2 21 0 12 (by omega), h12, zGd_t (pn0 hp), zIx_nI (show a + i < 480 by omega) (by decide), nI_clamp (by omega), nI_clamp (by omega), hz, k2 35 0 i (by omega), hw i hi, iI_n p, iI_sub, iI_mul, iI_add, ← iI_n p, iI_mod (by omega) (by omega) (by omega), zB_s, zB_s, nI_1]) (by
    rintro s z _
    show (if nI n + 3 ≤ nI (n + 3) then _ else _) = _
    rw [n3, if_pos (nI_le (Nat.le_refl _) (by omega))]) (n + 3) 0 σ zN (by omega) ⟨fun c hc => by rw [if_neg (by omega)]; exact hu c hc, fun _ _ _ _ => rfl⟩ (Nat.lt_of_le_of_lt (show n + 3 ≤ 8 by omega) (by decide))
  exact ⟨z, e, fun i hi => by rw [k1 i hi, if_pos hi], k2⟩
theorem e_228 {r : Nat} (hx : x < 3) (hj : j < 4) (h1 : 1 ≤ r) (h2 : r ≤ 4) (K : zS → Option (Int32 × zS)) : ∃ z, fX9_comes_228 (nI x) (nI j) (nI r) K zN 0 σ = K z ∧ (∀ c, c < 8 → z 30 0 (8 * (5 * (4 * x + j) + r) + c) = σ 30 0 (8 * (5 * (4 * x + j) + (r - 1)) + c)) ∧ ∀ k i j', ¬ (k = 30 ∧ 8 * (5 * (4 * x + j) + r) ≤ j' ∧ j' < 8 * (5 * (4 * x + j) + r) + 8) → z k i j' = σ k i j' := by
  obtain ⟨z, ⟨k1, k2⟩, e⟩ := zloop (β := zS) (L := fun s i z => fX9_comes_228 (nI x) (nI j) (nI r) K s (nI i) z)
    (fun i z => (∀ c, c < i → z 30 0 (8 * (5 * (4 * x + j) + r) + c) = σ 30 0 (8 * (5 * (4 * x + j) + (r - 1)) + c)) ∧ ∀ k i j', ¬ (k = 30 ∧ 8 * (5 * (4 * x + j) + r) ≤ j' ∧ j' < 8 * (5 * (4 * x + j) + r) + 8) → z k i j' = σ k i j') 8 K (by
    rintro s i z hi ⟨k1, k2⟩
    refine ⟨zU z 30 0 (8 * (5 * (4 * x + j) + r) + i) (σ 30 0 (8 * (5 * (4 * x + j) + (r - 1)) + i)), ⟨?_, ?_⟩, ?_⟩
    · intro c hc
      by_cases hci : c = i
      · subst hci; rw [zU_s]
      · rw [zU_j (by omega), k1 c (by omega)]
    · intro k' i' j' hk'
      rw [zU_ap, if_neg (by omega)]; exact k2 k' i' j' hk'
    · show (if (8 : Int32) ≤ nI i then _ else _) = _
      rw [if_neg (lg8 hi), e_at, zCi_s, show nI r - 1 = nI (r - 1) from pk_sub h1, e_at, zCi_s, nI_add, nI_add, zIx_nI (by omega) (by decide), zIx_nI (by omega) (by decide), nI_clamp (by omega), nI_clamp (by omega), k2 30 0 _ (by omega), zB_s, zB_s, nI_1]) (by
    rintro s z _
    show (if (8 : Int32) ≤ nI 8 then _ else _) = _
    rw [if_pos (by decide)]) 8 0 σ zN (by omega) ⟨fun c hc => absurd hc (by omega), fun _ _ _ _ => rfl⟩ (by decide)
  exact ⟨z, e, k1, k2⟩
theorem e_218 {pl len : Nat} (hx : x < 3) (hj : j < 4) (h1 : pl ≤ len) (h2 : len ≤ 4) (K : zS → Option (Int32 × zS)) : ∃ z, fX9_comes_218 (nI x) (nI j) (nI pl) K zN (nI len) σ = K z ∧ (∀ r, pl < r → r ≤ len → ∀ c, c < 8 → z 30 0 (8 * (5 * (4 * x + j) + r) + c) = σ 30 0 (8 * (5 * (4 * x + j) + (r - 1)) + c)) ∧ ∀ k i j', ¬ (k = 30 ∧ 8 * (5 * (4 * x + j) + pl + 1) ≤ j' ∧ j' < 8 * (5 * (4 * x + j) + len + 1)) → z k i j' = σ k i j' := by
  obtain ⟨z, ⟨k1, k2⟩, e⟩ := zloop (β := zS) (L := fun s i z => fX9_comes_218 (nI x) (nI j) (nI pl) K s (nI (len - i)) z)
    (fun i z => (∀ r, len - i < r → r ≤ len → ∀ c, c < 8 → z 30 0 (8 * (5 * (4 * x + j) + r) + c) = σ 30 0 (8 * (5 * (4 * x + j) + (r - 1)) + c)) ∧ ∀ k i' j', ¬ (k = 30 ∧ 8 * (5 * (4 * x + j) + (len - i) + 1) ≤ j' ∧ j' < 8 * (5 * (4 * x + j) + len + 1)) → z k i' j' = σ k i' j') (len - pl) K (by
    rintro s i z hi ⟨k1, k2⟩
    obtain ⟨z', e', m1, m2⟩ := e_228 (σ := z) (r := len - i) hx hj (by omega) (by omega) (fun (y228_26 : zS) => (zB (nI (len - i) + (-1)) (fun x27 => fX9_comes_218 (nI x) (nI j) (nI pl) K s x27 y228_26) : Option (Int32 × zS)))
    refine ⟨z', ⟨?_, ?_⟩, ?_⟩
    · intro r hr1 hr2 c hc
      by_cases hr : r = len - i
      · subst hr
        rw [m1 c hc, k2 30 0 _ (by omega)]
      · rw [m2 30 0 _ (by omega), k1 r (by omega) hr2 c hc]
    · intro k' i' j' hk'
      rw [m2 k' i' j' (by omega)]; exact k2 k' i' j' (by omega)
    · show (if nI (len - i) ≤ nI pl then _ else _) = _
      rw [if_neg (nI_ge (by omega) (by omega))]
      refine Eq.trans e' ?_
      rw [zB_s, show nI (len - i) + (-1) = nI (len - (i + 1)) by
        rw [iI_n, show (-1 : Int32) = iI (-1) from rfl, iI_add, iI_n]; congr 1; omega]) (by
    rintro s z _
    show (if nI (len - (len - pl)) ≤ nI pl then _ else _) = _
    rw [if_pos (nI_le (by omega) (by omega))]) (len - pl) 0 σ zN (by omega) ⟨fun r r1 r2 => absurd r2 (by omega), fun _ _ _ _ => rfl⟩ (Nat.lt_of_le_of_lt (show len - pl ≤ 4 by omega) (by decide))
  rw [show len - (len - pl) = pl by omega] at k1 k2
  exact ⟨z, e, k1, k2⟩
theorem e_282 {pl : Nat} (hx : x < 3) (hj : j < 4) (h2 : pl ≤ 4) (K : zS → Option (Int32 × zS)) : ∃ z, fX9_comes_282 (nI x) (nI j) (nI pl) K zN 0 σ = K z ∧ (∀ c, c < 8 → z 30 0 (8 * (5 * (4 * x + j) + pl) + c) = σ 35 0 c) ∧ ∀ k i j', ¬ (k = 30 ∧ 8 * (5 * (4 * x + j) + pl) ≤ j' ∧ j' < 8 * (5 * (4 * x + j) + pl) + 8) → z k i j' = σ k i j' := by
  obtain ⟨z, ⟨k1, k2⟩, e⟩ := zloop (β := zS) (L := fun s i z => fX9_comes_282 (nI x) (nI j) (nI pl) K s (nI i) z)
    (fun i z => (∀ c, c < i → z 30 0 (8 * (5 * (4 * x + j) + pl) + c) = σ 35 0 c) ∧ ∀ k i j', ¬ (k = 30 ∧ 8 * (5 * (4 * x + j) + pl) ≤ j' ∧ j' < 8 * (5 * (4 * x + j) + pl) + 8) → z k i j' = σ k i j') 8 K (by
    rintro s i z hi ⟨k1, k2⟩
    refine ⟨zU z 30 0 (8 * (5 * (4 * x + j) + pl) + i) (σ 35 0 i), ⟨?_, ?_⟩, ?_⟩
    · intro c hc
      by_cases hci : c = i
      · subst hci; rw [zU_s]
      · rw [zU_j (by omega), k1 c (by omega)]
    · intro k' i' j' hk'
      rw [zU_ap, if_neg (by omega)]; exact k2 k' i' j' hk'
    · show (if (8 : Int32) ≤ nI i then _ else _) = _
      rw [if_neg (lg8 hi), e_at, zCi_s, zIx_nI hi (by decide), nI_add, zIx_nI (by omega) (by decide), nI_clamp (by omega), nI_clamp (by omega), k2 35 0 _ (by omega), zB_s, zB_s, nI_1]) (by
    rintro s z _
    show (if (8 : Int32) ≤ nI 8 then _ else _) = _
    rw [if_pos (by decide)]) 8 0 σ zN (by omega) ⟨fun c hc => absurd hc (by omega), fun _ _ _ _ => rfl⟩ (by decide)
  exact ⟨z, e, k1, k2⟩
end MC
