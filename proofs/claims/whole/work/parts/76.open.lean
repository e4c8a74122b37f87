/-! open -/
def sgE (a : Int32) (k j : Nat) : Int32 := ((a.toUInt32 >>> (((2 : Int32) * (((3 : Int32) * nI k) + nI j)).toUInt32 &&& Int32.toUInt32 31)).toInt32) &&& (3 : Int32)
theorem sgE_n (a : Int32) (k j : Nat) : ∃ s, s < 4 ∧ sgE a k j = nI s := by
  obtain ⟨s, hs, e⟩ := pk_andE (((a.toUInt32 >>> (((2 : Int32) * (((3 : Int32) * nI k) + nI j)).toUInt32 &&& Int32.toUInt32 31)).toInt32)) (m := 3) 2 (by decide)
  exact ⟨s, by omega, e⟩
noncomputable def sgN (a : Int32) (k j : Nat) : Nat := Classical.choose (sgE_n a k j)
theorem sgN_s (a : Int32) (k j : Nat) : sgN a k j < 4 ∧ sgE a k j = nI (sgN a k j) := Classical.choose_spec (sgE_n a k j)
/-- the rows of the letters themselves -/
noncomputable def uR (p : Nat) (a : Int32) (q c : Nat) : Int := if c < 5 then (if c = q then 1 else 0) else ((sgN a q (c - 5) : Nat) : Int) % p
def bl (k : Nat) : Nat → Bool := fun q => decide (q < k)
section OP
variable {p n : Nat} {a : Int32} {σ : zS}
theorem uR_b (hp : pp p) (q c : Nat) : 0 ≤ uR p a q c ∧ uR p a q c < p := by
  have := hp.b
  unfold uR
  split
  · split <;> omega
  · exact ⟨md_0 (by omega), md_l (by omega)⟩
theorem uR_5 {q c : Nat} (hc : c < 5) : uR p a q c = if c = q then 1 else 0 := if_pos hc
theorem uR_Rf (hp : pp p) (hn : n ≤ 5) {k : Nat} (hk : k ≤ n) : Rf p n (bl k) (uR p a) := by
  intro q hq hl
  have hl : q < k := of_decide_eq_true hl
  refine ⟨by omega, uR_b hp q, ?_, ?_, ?_, ?_⟩
  · rw [uR_5 hq, if_pos rfl]
  · intro c hc; rw [uR_5 (by omega), if_neg (by omega)]
  · intro r hr _ hne; rw [uR_5 hr, if_neg hne]
  · intro c h1 h2; rw [uR_5 h2, if_neg (by omega)]
theorem uR_V (hp : pp p) {k : Nat} (hk : k < n) : Vc p n (uR p a k) := ⟨uR_b hp k, fun c h1 h2 => by rw [uR_5 h2, if_neg (by omega)]⟩
theorem uR_lo (hp : pp p) {k : Nat} (hk : k < 5) (c : Nat) : lo p (Sl (bl k) 5) (uR p a) (uR p a k) c = uR p a k c := by
  have := uR_b (a := a) hp k c
  unfold lo
  rw [sm_0 (fun q hq => by
    obtain ⟨q1, q2⟩ := Sl_mem.1 hq
    have q2 : q < k := of_decide_eq_true q2
    rw [uR_5 q1, if_neg (by omega), Int.zero_mul]), Int.sub_zero]
  exact Int.emod_eq_of_lt this.1 this.2
theorem uR_fl (hp : pp p) {k : Nat} (hk : k < 5) : fl (lo p (Sl (bl k) 5) (uR p a) (uR p a k)) 5 = k := by
  refine fl_u (by omega) (fun j hj => ?_) (fun _ => ?_)
  · rw [uR_lo hp hk, uR_5 (by omega), if_neg (by omega)]
  · rw [uR_lo hp hk, uR_5 hk, if_pos rfl]; decide
theorem iv1 (hp : pp p) : ivK p 1 = 1 := by
  have hpb := hp.b
  have h1 : ivP p 1 1 := ⟨by omega, by omega, by rw [Nat.mul_one]; exact Nat.mod_eq_of_lt (by omega), fun j h1 h2 => by omega⟩
  obtain ⟨a1, a2, a3, a4⟩ := ivK_s ⟨1, h1⟩
  rcases Nat.lt_or_ge 1 (ivK p 1) with h | h
  · exact absurd h1.2.2.1 (a4 1 h (by omega))
  · omega
theorem uR_nx (hp : pp p) {k : Nat} (hk : k < 5) : isN p (bl k) (uR p a) (uR p a k) = true ∧ nxL p (bl k) (uR p a) (uR p a k) = bl (k + 1) ∧ nxM p (bl k) (uR p a) (uR p a k) = uR p a := by
  have hN : isN p (bl k) (uR p a) (uR p a k) = true := decide_eq_true (by rw [uR_fl hp hk]; exact hk)
  refine ⟨hN, ?_, ?_⟩
  · unfold nxL
    rw [if_pos hN, uR_fl hp hk]
    funext q
    unfold adL bl
    by_cases h : q = k
    · subst h; simp
    · rw [show (q == k) = false by simp; exact h, Bool.false_or]
      simp; omega
  · unfold nxM
    rw [if_pos hN, uR_fl hp hk, uR_lo hp hk, uR_5 hk, if_pos rfl, show (1 : Int).toNat = 1 from rfl, iv1 hp]
    have hw : nwR p 1 (Sl (bl k) 5) (uR p a) (uR p a k) = uR p a k := by
      funext c
      have := uR_b (a := a) hp k c
      unfold nwR
      rw [uR_lo hp hk, show ((1 : Nat) : Int) = 1 from rfl, Int.one_mul]
      exact Int.emod_eq_of_lt this.1 this.2
    rw [hw]
    funext q c
    unfold adM
    by_cases h : q = k
    · rw [if_pos h, h]
    · have := uR_b (a := a) hp q c
      rw [if_neg h, uR_5 (c := k) hk, if_neg (Ne.symm h), Int.zero_mul, Int.sub_zero]
      exact Int.emod_eq_of_lt this.1 this.2
theorem bl_Sl {r q : Nat} (hn : n ≤ 5) : (Sl (bl n) 5).length = n ∧ ((Sl (bl n) 5)[r]? = some q → q = r ∧ r < n) := by
  have e : Sl (bl n) 5 = List.range n := by
    unfold Sl bl
    rcases (show n = 0 ∨ n = 1 ∨ n = 2 ∨ n = 3 ∨ n = 4 ∨ n = 5 by omega) with rfl | rfl | rfl | rfl | rfl | rfl <;> decide
  rw [e]
  refine ⟨List.length_range, fun h => ?_⟩
  have hr := (get_in h).1
  rw [List.length_range] at hr
  rw [List.getElem?_range hr] at h
  exact ⟨(Option.some.inj h).symm, hr⟩
theorem e_clear {nd : Nat} : ∃ σ', fX3_clear nd σ = some (0, σ') ∧ (∀ q, q < 5 → σ' 17 nd q = 0) ∧ ∀ k i j, ¬ (k = 17 ∧ i = nd) → σ' k i j = σ k i j := by
  obtain ⟨w, ⟨f1, f2⟩, e⟩ := zloop (β := zS) (L := fun t i y => fX3_clear_2 nd (fun y => some ((0 : Int32), y)) t (nI i) y) (fun i y => (∀ q, q < i → y 17 nd q = 0) ∧ ∀ k i j, ¬ (k = 17 ∧ i = nd) → y k i j = σ k i j) 5 (fun y => some (0, y)) (by
    rintro t i y hi ⟨f1, f2⟩
    refine ⟨zU y 17 nd i 0, ⟨?_, ?_⟩, ?_⟩
    · intro c hc
      by_cases hci : c = i
      · subst hci; rw [zU_s]
      · rw [zU_j hci]; exact f1 c (by omega)
    · intro k' i' j hk'
      rw [zU_ap, if_neg (fun z => hk' ⟨z.1, z.2.1⟩)]; exact f2 k' i' j hk'
    · show (if (5 : Int32) ≤ nI i then _ else _) = _
      rw [if_neg (lg5 hi), zIx_nI hi (by decide), nI_clamp (by omega), nar0, zB_s, zB_s, nI_1]) (by
    rintro t y _
    show (if (5 : Int32) ≤ nI 5 then _ else _) = _
    rw [if_pos (by decide)]) 5 0 σ zN (by decide) ⟨fun c hc => absurd hc (by omega), fun _ _ _ _ => rfl⟩ (by decide)
  exact ⟨w, e, f1, f2⟩
theorem e_renew {g : Nat} {b c : Int32} (hg : g < 3) : ∃ σ', fX1_renew g b c σ = some (0, σ') ∧ σ' 13 g 1 = b ∧ σ' 13 g 2 = c ∧ (∀ j q, j < 4 → q < 5 → σ' 17 (4 * g + j) q = 0) ∧ ∀ k i j, ¬ (k = 13 ∧ i = g) → ¬ (k = 17 ∧ 4 * g ≤ i ∧ i < 4 * g + 4) → σ' k i j = σ k i j := by
  obtain ⟨w, ⟨f1, f2⟩, e⟩ := zloop (β := zS) (L := fun t i y => fX1_renew_12 g (fun y => some ((0 : Int32), y)) t (nI i) y) (fun i y => (∀ j q, j < i → q < 5 → y 17 (4 * g + j) q = 0) ∧ ∀ k i' j, ¬ (k = 17 ∧ 4 * g ≤ i' ∧ i' < 4 * g + i) → y k i' j = zU (zU σ 13 g 1 b) 13 g 2 c k i' j) 4 (fun y => some (0, y)) (by
    rintro t i y hi ⟨f1, f2⟩
    obtain ⟨y', ey, h1, h2⟩ := e_clear (σ := y) (nd := 4 * g + i)
    refine ⟨y', ⟨?_, ?_⟩, ?_⟩
    · intro j q hj hq
      by_cases hji : j = i
      · subst hji; exact h1 q hq
      · rw [h2 17 _ q (by omega)]; exact f1 j q (by omega) hq
    · intro k' i' j hk'
      rw [h2 k' i' j (by omega)]; exact f2 k' i' j (by omega)
    · show (if (4 : Int32) ≤ nI i then _ else _) = _
      rw [if_neg (lg4 hi), zIx_nI hi (by decide), zB_s, nI_clamp (by omega), zGd_t (by omega), ey, zCv_s, zB_s, nI_1]) (by
    rintro t y _
    show (if (4 : Int32) ≤ nI 4 then _ else _) = _
    rw [if_pos (by decide)]) 4 0 (zU (zU σ 13 g 1 b) 13 g 2 c) zN (by decide) ⟨fun j q hj => absurd hj (by omega), fun _ _ _ _ => rfl⟩ (by decide)
  refine ⟨w, ?_, ?_, ?_, f1, fun k i j h1 h2 => ?_⟩
  · unfold fX1_renew
    rw [zB_s, zB_s]
    exact e
  · rw [f2 13 g 1 (by omega), zU_j (by decide), zU_s]
  · rw [f2 13 g 2 (by omega), zU_s]
  · rw [f2 k i j (by omega), zU_ap, if_neg (by omega), zU_ap, if_neg (by omega)]
theorem e_writeLetter {k : Nat} (hp : pp p) (h9 : σ 9 0 0 = nI p) (hk : k < 5) : ∃ σ', fX2_writeLetter (nI k) a σ = some (0, σ') ∧ rV σ' 60 (uR p a k) ∧ ∀ k i j, ¬ (k = 18 ∧ i = 60) → σ' k i j = σ k i j := by
  obtain ⟨w1, ⟨f1, f2⟩, e1⟩ := zloop (β := zS) (L := fun t i y => fX2_writeLetter_2 (nI k) (fun (y2_1 : zS) => (fX2_writeLetter_31 (nI k) a (fun (y31_2 : zS) => (some ((0 : Int32), y31_2) : Option (Int32 × zS))) zN (0 : Int32) y2_1 : Option (Int32 × zS))) t (nI i) y) (fun i y => (∀ c, c < i → y 18 60 c = iI (uR p a k c)) ∧ ∀ k i j, ¬ (k = 18 ∧ i = 60) → y k i j = σ k i j) 5 (fun y => fX2_writeLetter_31 (nI k) a (fun (y31_2 : zS) => (some ((0 : Int32), y31_2) : Option (Int32 × zS))) zN (0 : Int32) y) (by
    rintro t i y hi ⟨f1, f2⟩
    refine ⟨zU y 18 60 i (iI (uR p a k i)), ⟨?_, ?_⟩, ?_⟩
    · intro c hc
      by_cases hci : c = i
      · subst hci; rw [zU_s]
      · rw [zU_j hci]; exact f1 c (by omega)
    · intro k' i' j hk'
      rw [zU_ap, if_neg (fun z => hk' ⟨z.1, z.2.1⟩)]; exact f2 k' i' j hk'
    · show (if (5 : Int32) ≤ nI i then _ else _) = _
      rw [if_neg (lg5 hi), zIx_nI (show i < 8 by omega) (by decide), zIx_nI (show i < 8 by omega) (by decide), nI_clamp (by omega), uR_5 hi]
      simp only [zB_s, nI_1]
      by_cases h : i = k
      · rw [if_pos (by rw [h]), if_pos h]; rfl
      · rw [if_neg (by rw [zn_eq (by omega) (by omega)]; exact h), if_neg h]; rfl) (by
    rintro t y _
    show (if (5 : Int32) ≤ nI 5 then _ else _) = _
    rw [if_pos (by decide)]) 5 0 σ zN (by decide) ⟨fun c hc => absurd hc (by omega), fun _ _ _ _ => rfl⟩ (by decide)
  obtain ⟨w2, ⟨g1, g2⟩, e2⟩ := zloop (β := zS) (L := fun t i y => fX2_writeLetter_31 (nI k) a (fun (y31_2 : zS) => (some ((0 : Int32), y31_2) : Option (Int32 × zS))) t (nI i) y) (fun i y => (∀ c, c < 5 + i → y 18 60 c = iI (uR p a k c)) ∧ ∀ k i j, ¬ (k = 18 ∧ i = 60) → y k i j = σ k i j) 3 (fun y => some (0, y)) (by
    rintro t i y hi ⟨g1, g2⟩
    refine ⟨zU y 18 60 (5 + i) (iI (uR p a k (5 + i))), ⟨?_, ?_⟩, ?_⟩
    · intro c hc
      by_cases hci : c = 5 + i
      · subst hci; rw [zU_s]
      · rw [zU_j hci]; exact g1 c (by omega)
    · intro k' i' j hk'
      rw [zU_ap, if_neg (fun z => hk' ⟨z.1, z.2.1⟩)]; exact g2 k' i' j hk'
    · obtain ⟨s1, s2⟩ := sgN_s a k i
      show (if (3 : Int32) ≤ nI i then _ else zCi (fX0_left (sgE a k i) y) _) = _
      rw [if_neg (lg3 hi), s2, iI_n (sgN a k i), e_left hp (by rw [g2 9 0 0 (by omega)]; exact h9) (by omega) (by omega), zCi_s, show (5 : Int32) + nI i = nI (5 + i) by show nI 5 + nI i = _; rw [nI_add], zIx_nI (show 5 + i < 8 by omega) (by decide), zB_s, zB_s, nI_1, nI_clamp (by omega)]
      unfold uR
      rw [if_neg (by omega), show 5 + i - 5 = i by omega]) (by
    rintro t y _
    show (if (3 : Int32) ≤ nI 3 then _ else _) = _
    rw [if_pos (by decide)]) 3 0 w1 zN (by decide) ⟨fun c hc => f1 c (by omega), f2⟩ (by decide)
  exact ⟨w2, e1.trans e2, fun c hc => g1 c (by omega), g2⟩
/-- the class's begin -/
theorem e_begin {op g : Nat} (hp : pp p) (h9 : σ 9 0 0 = nI p) (hop : op < 3) (h4 : σ 10 0 4 = nI op) (hg : g < 3) (h11 : σ 11 0 op = nI g) (hn : n ≤ 5) : ∃ σ', fX2_begin (nI n) a σ = some (σ 10 0 5, σ') ∧ σ' 10 0 4 = nI (op + 1) ∧ σ' 10 0 5 = σ 10 0 5 + 1 ∧ σ' 13 g 1 = σ 10 0 5 ∧ σ' 13 g 2 = nI n ∧ cN σ' (4 * g) (bl n) (uR p a) ∧ (∀ j q, 1 ≤ j → j < 4 → q < 5 → σ' 17 (4 * g + j) q = 0) ∧ ∀ k i j, ¬ (k = 10 ∧ (j = 4 ∨ j = 5)) → ¬ (k = 13 ∧ i = g) → ¬ (k = 17 ∧ 4 * g ≤ i ∧ i < 4 * g + 4) → ¬ (k = 18 ∧ (i = 60 ∨ 20 * g ≤ i ∧ i < 20 * g + 5)) → σ' k i j = σ k i j := by
  obtain ⟨w1, e1, r1, r2, r3, r4⟩ := e_renew (σ := σ) (b := σ 10 0 5) (c := nI n) hg
  generalize hK : (fun (y33_5 : zS) => (zB (zU y33_5 10 0 4 ((y33_5 10 0 4) + (1 : Int32))) (fun s6 => zB (zU s6 10 0 5 ((s6 10 0 5) + (1 : Int32))) (fun s7 => some (s7 13 g 1, s7))) : Option (Int32 × zS))) = K
  obtain ⟨w2, ⟨f1, f2⟩, e2⟩ := zloop (β := zS) (L := fun t i y => fX2_begin_33 (nI n) a g K t (nI i) y) (fun i y => cN y (4 * g) (bl i) (uR p a) ∧ ∀ k i j, ¬ (k = 17 ∧ i = 4 * g) → ¬ (k = 18 ∧ (i = 60 ∨ 20 * g ≤ i ∧ i < 20 * g + 5)) → y k i j = w1 k i j) n K (by
    rintro t i y hi ⟨f1, f2⟩
    have h9y : y 9 0 0 = nI p := by rw [f2 9 0 0 (by omega) (by omega), r4 9 0 0 (by omega) (by omega)]; exact h9
    obtain ⟨y1, ey1, m1, g1⟩ := e_writeLetter (σ := y) (a := a) (k := i) hp h9y (by omega)
    obtain ⟨y2, ey2, m2, g2⟩ := e_take (σ := y1) (nd := 4 * g) (r := 60) (n := n) hp (by rw [g1 9 0 0 (by omega)]; exact h9y) (by omega) (uR_Rf (a := a) hp hn (show i ≤ n by omega)) (f1.c (fun q _ => g1 _ _ _ (by omega)) (fun q _ _ c _ => g1 _ _ _ (by omega))) (uR_V hp hi) m1 (by omega)
    obtain ⟨x1, x2, x3⟩ := uR_nx (a := a) hp (show i < 5 by omega)
    rw [x2, x3] at m2
    refine ⟨y2, ⟨m2, fun k' i' j h1 h2 => by rw [g2 k' i' j h1 (by omega), g1 k' i' j (by omega)]; exact f2 k' i' j h1 h2⟩, ?_⟩
    show (if nI n ≤ nI i then _ else _) = _
    rw [if_neg (nI_ge hi (by omega)), ey1, zCv_s, show (0 : Int32) = nI 0 from rfl, zIx_nI (by decide) (by decide), zB_s, nI_clamp (by decide), Nat.add_zero, zGd_t (by omega), ey2, zCi_s, zB_s, nI_1]) (by
    rintro t y _
    show (if nI n ≤ nI n then _ else _) = _
    rw [if_pos (nI_le (Nat.le_refl _) (by omega))]) n 0 w1 zN (by omega) ⟨⟨fun q hq => by
      have := r3 0 q (by omega) hq
      rw [Nat.add_zero] at this
      rw [this, if_neg (by unfold bl; simp)], fun q hq hl => absurd hl (by unfold bl; simp)⟩, fun _ _ _ _ _ => rfl⟩ (Nat.lt_of_le_of_lt hn (by decide))
  have g10 : ∀ j, w2 10 0 j = σ 10 0 j := fun j => by rw [f2 10 0 j (by omega) (by omega), r4 10 0 j (by omega) (by omega)]
  refine ⟨zU (zU w2 10 0 4 (nI (op + 1))) 10 0 5 (σ 10 0 5 + 1), ?_, ?_, ?_, ?_, ?_, ?_, ?_, ?_⟩
  · unfold fX2_begin
    rw [h4, if_pos (by show nI op < nI 3; rw [zn_lt (by omega) (by decide)]; exact hop), zIx_nI hop (by decide), nI_clamp (by omega), h11, nI_clamp (by omega), Nat.mod_eq_of_lt hg, zB_s, zGd_t hg, e1, zCv_s, hK]
    refine Eq.trans e2 ?_
    rw [← hK]
    dsimp only
    rw [zB_s, zB_s, g10, h4, nI_1, zU_j (show (5 : Nat) ≠ 4 by decide), g10, zU_k (show (13 : Nat) ≠ 10 by decide), zU_k (show (13 : Nat) ≠ 10 by decide), f2 13 g 1 (by omega) (by omega), r1]
  · rw [zU_j (by decide), zU_s]
  · rw [zU_s]
  · rw [zU_k (by decide), zU_k (by decide), f2 13 g 1 (by omega) (by omega)]; exact r1
  · rw [zU_k (by decide), zU_k (by decide), f2 13 g 2 (by omega) (by omega)]; exact r2
  · exact f1.c (fun q _ => by rw [zU_k (by decide), zU_k (by decide)]) (fun q _ _ c _ => by rw [zU_k (by decide), zU_k (by decide)])
  · intro j q h1 h2 h3
    rw [zU_k (by decide), zU_k (by decide), f2 17 _ q (by omega) (by omega)]; exact r3 j q h2 h3
  · intro k i j h1 h2 h3 h4
    rw [zU_ap, if_neg (by omega), zU_ap, if_neg (by omega), f2 k i j (by omega) (by omega), r4 k i j (by omega) (by omega)]
end OP
