/-! generations: what holds between class and reference -/
def Gn (p : Nat) (σ : zS) (g x : Nat) : Prop := ∃ n, 1 ≤ n ∧ n ≤ 5 ∧ σ 13 g 1 = σ 27 0 x ∧ σ 13 g 2 = nI n ∧ σ 28 0 x = nI n ∧ ∀ j, j < 4 → ∃ led M, Rf p n led M ∧ cN σ (4 * g + j) led M ∧ mN σ (4 * x + j) n led M
def I3 (p op : Nat) (s : Nat → Nat) (σ : zS) : Prop := pp p ∧ σ 9 0 0 = nI p ∧ σ 21 0 12 = nI p ∧ σ 21 0 19 = σ 9 0 1 ∧ op ≤ 3 ∧ σ 10 0 4 = nI op ∧ σ 21 0 14 = nI op ∧ σ 21 0 13 = σ 10 0 5 ∧ (∀ x, x < 3 → s x < 3 ∧ σ 11 0 x = nI (s x)) ∧ (∀ x y, x < 3 → y < 3 → s x = s y → x = y) ∧ ∀ x, x < op → Gn p σ (s x) x
def J3 (σ : zS) : Prop := ∃ p op s, I3 p op s σ
theorem Gn.c {p g x : Nat} {σ σ' : zS} (h : Gn p σ g x) (h1 : σ' 13 g 1 = σ 13 g 1) (h2 : σ' 13 g 2 = σ 13 g 2) (h3 : σ' 27 0 x = σ 27 0 x) (h4 : σ' 28 0 x = σ 28 0 x) (h5 : ∀ j q, j < 4 → σ' 17 (4 * g + j) q = σ 17 (4 * g + j) q) (h6 : ∀ i c, 20 * g ≤ i → i < 20 * g + 20 → σ' 18 i c = σ 18 i c) (h7 : ∀ j, j < 4 → σ' 29 0 (4 * x + j) = σ 29 0 (4 * x + j)) (h8 : ∀ i, 160 * x ≤ i → i < 160 * x + 160 → σ' 30 0 i = σ 30 0 i) : Gn p σ' g x := by
  obtain ⟨n, n1, n2, a1, a2, a3, hN⟩ := h
  refine ⟨n, n1, n2, by rw [h1, h3]; exact a1, by rw [h2]; exact a2, by rw [h4]; exact a3, fun j hj => ?_⟩
  obtain ⟨led, M, b1, b2, b3⟩ := hN j hj
  exact ⟨led, M, b1, b2.c (fun q _ => h5 j q hj) (fun q hq _ c _ => h6 _ c (by omega) (by omega)), b3.c n2 (h7 j hj) (fun i i1 i2 => h8 i (by omega) (by omega))⟩
theorem I3.c {p op : Nat} {s : Nat → Nat} {σ σ' : zS} (h : I3 p op s σ) (h1 : ∀ k i j, (k = 9 ∨ k = 10 ∨ k = 11 ∨ k = 13 ∨ k = 17 ∨ (k = 18 ∧ i < 60) ∨ (27 ≤ k ∧ k ≤ 30) ∨ (k = 21 ∧ (j = 12 ∨ j = 13 ∨ j = 14 ∨ j = 19))) → σ' k i j = σ k i j) : I3 p op s σ' := by
  obtain ⟨a1, a2, a3, a4, a5, a6, a7, a8, a9, a10, a11⟩ := h
  refine ⟨a1, ?_, ?_, ?_, a5, ?_, ?_, ?_, ?_, a10, ?_⟩
  · rw [h1 9 0 0 (by omega)]; exact a2
  · rw [h1 21 0 12 (by omega)]; exact a3
  · rw [h1 21 0 19 (by omega), h1 9 0 1 (by omega)]; exact a4
  · rw [h1 10 0 4 (by omega)]; exact a6
  · rw [h1 21 0 14 (by omega)]; exact a7
  · rw [h1 21 0 13 (by omega), h1 10 0 5 (by omega)]; exact a8
  · intro x hx; rw [h1 11 0 x (by omega)]; exact a9 x hx
  · intro x hx
    have := a9 x (by omega)
    exact (a11 x hx).c (h1 _ _ _ (by omega)) (h1 _ _ _ (by omega)) (h1 _ _ _ (by omega)) (h1 _ _ _ (by omega)) (fun j q hj => h1 _ _ _ (by omega)) (fun i c i1 i2 => h1 _ _ _ (by omega)) (fun j hj => h1 _ _ _ (by omega)) (fun i i1 i2 => h1 _ _ _ (by omega))
def Ch3 (σ σ' : zS) : Prop := ∀ k i j, ¬ ((9 ≤ k ∧ k ≤ 20) ∨ (27 ≤ k ∧ k ≤ 30) ∨ 34 ≤ k ∨ (k = 21 ∧ (j = 12 ∨ j = 13 ∨ j = 14 ∨ j = 19 ∨ j = 26))) → σ' k i j = σ k i j
def Cs3 (σ : zS) (f g : zS → Option (Int32 × zS)) : Prop := ∃ r σ1 σ2, f σ = some (r, σ1) ∧ g σ1 = some (r, σ2) ∧ J3 σ2 ∧ Ch3 σ σ2
theorem Ch3.r (σ : zS) : Ch3 σ σ := fun _ _ _ _ => rfl
theorem Cs3.same {σ : zS} {f g : zS → Option (Int32 × zS)} {r : Int32} (hI : J3 σ) (h1 : f σ = some (r, σ)) (h2 : g σ = some (r, σ)) : Cs3 σ f g := ⟨r, σ, σ, h1, h2, hI, Ch3.r σ⟩
/-! where a generation is -/
def lkX (op : Nat) (f : Nat → Int32) (a : Int32) : Nat := fl (fun x => if f x = a then 1 else 0) op
theorem e_place {op : Nat} {w : zS} {a : Int32} (hop : op ≤ 3) (h : w 21 0 14 = nI op) : fX9_placeOf a w = some (if lkX op (w 27 0) a < op then nI (lkX op (w 27 0) a) else -9, w) := by
  have := zfind (L := fun t i => fX9_placeOf_2 a (fun y => some ((-9 : Int32), y)) t (nI i) w) (fun x => if w 27 0 x = a then 1 else 0) op (fun i => some (nI i, w)) (some (-9, w)) (by
    intro t i hi
    show (if w 21 0 14 ≤ nI i then _ else _) = _
    rw [h, if_neg (nI_ge hi (by omega)), zIx_nI (by omega) (by decide), nI_clamp (by omega), zB_s, nI_1]
    by_cases hc : w 27 0 i = a
    · simp [hc]
    · simp [hc]) (by
    intro t
    show (if w 21 0 14 ≤ nI op then _ else _) = _
    rw [h, if_pos (nI_le (Nat.le_refl _) (by omega))]) op 0 zN (by omega) (fun j hj => absurd hj (by omega)) (Nat.lt_of_le_of_lt hop (by decide))
  refine Eq.trans this ?_
  unfold lkX
  split <;> rfl
theorem s_mod {p op : Nat} {s : Nat → Nat} {σ : zS} (h : I3 p op s σ) {x : Nat} (hx : x < 3) : (σ 11 0 x).toNatClampNeg % 3 = s x := by
  obtain ⟨-, -, -, -, -, -, -, -, a9, -, -⟩ := h
  obtain ⟨b1, b2⟩ := a9 x hx
  rw [b2, nI_clamp (by omega), Nat.mod_eq_of_lt b1]
theorem s_lt {p op : Nat} {s : Nat → Nat} {σ : zS} (h : I3 p op s σ) {x : Nat} (hx : x < 3) : s x < 3 := by
  obtain ⟨-, -, -, -, -, -, -, -, a9, -, -⟩ := h
  exact (a9 x hx).1
theorem e_find {p op : Nat} {s : Nat → Nat} {σ : zS} (h : I3 p op s σ) (a : Int32) : fX2_find a σ = some (if lkX op (σ 27 0) a < op then some (s (lkX op (σ 27 0) a)) else none, σ) := by
  have hop : op ≤ 3 := h.2.2.2.2.1
  have h4 : σ 10 0 4 = nI op := h.2.2.2.2.2.1
  have := zfind (L := fun t i => fX2_find_2 a (fun y => some (none, y)) t (nI i) σ) (fun x => if σ 27 0 x = a then 1 else 0) op (fun i => some (some (s i), σ)) (some (none, σ)) (by
    intro t i hi
    obtain ⟨n, -, -, b3, -⟩ := h.2.2.2.2.2.2.2.2.2.2 i hi
    show (if σ 10 0 4 ≤ nI i then _ else _) = _
    rw [h4, if_neg (nI_ge hi (by omega)), zIx_nI (by omega) (by decide), nI_clamp (by omega), s_mod h (show i < 3 by omega), zB_s, zGd_t (s_lt h (by omega)), b3, zIx_nI (by omega) (by decide), zB_s, zGd_t (s_lt h (by omega)), zB_s, nI_1]
    by_cases hc : σ 27 0 i = a
    · simp [hc]
    · simp [hc]) (by
    intro t
    show (if σ 10 0 4 ≤ nI op then _ else _) = _
    rw [h4, if_pos (nI_le (Nat.le_refl _) (by omega))]) op 0 zN (by omega) (fun j hj => absurd hj (by omega)) (Nat.lt_of_le_of_lt hop (by decide))
  refine Eq.trans this ?_
  unfold lkX
  split <;> rfl
theorem zCq_n {β : Type} {σ : zS} {a : zS → Option β} {b : Nat → zS → Option β} : zCq (some (none, σ)) a b = a σ := rfl
theorem zCq_s {β : Type} {i : Nat} {σ : zS} {a : zS → Option β} {b : Nat → zS → Option β} : zCq (some (some i, σ)) a b = b i σ := rfl
theorem e_isNode {b : Int32} {σ : zS} : fX9_isNode b σ = some (if b < 0 then 0 else if 3 < b then 0 else 1, σ) := by
  unfold fX9_isNode
  rw [e_within, zCi_s, zGd_t (by split; · exact Or.inl rfl
                                 · split; · exact Or.inl rfl
                                   · exact Or.inr rfl)]
theorem isNode1 {j : Nat} {σ : zS} (hj : j < 4) : fX9_isNode (nI j) σ = some (1, σ) := by
  rw [e_isNode, if_neg (by show ¬ nI j < nI 0; rw [zn_lt (by omega) (by decide)]; omega), if_neg (by show ¬ nI 3 < nI j; rw [zn_lt (by decide) (by omega)]; omega)]
theorem isNode0 {b : Int32} {σ : zS} (h : b < 0 ∨ nI 4 ≤ b) : fX9_isNode b σ = some (0, σ) := by
  rw [e_isNode]
  rcases h with h | h
  · rw [if_pos h]
  · rw [if_neg (zbig h (by decide)), if_pos (by
      have h2 : ¬ b < nI (3 + 1) := by rw [zlt_le]; exact fun z => z h
      rw [zlt_1 (by decide), Classical.not_not] at h2; exact h2)]
theorem zcase2 (b : Int32) (n : Nat) (hn : n < 2 ^ 31) : (b < 0 ∨ nI n ≤ b) ∨ ∃ j, j < n ∧ b = nI j := by
  rcases zcase b n hn with q | q | q
  · exact Or.inl (Or.inl q)
  · exact Or.inl (Or.inr q)
  · exact Or.inr q
section LK
variable {p op : Nat} {s : Nat → Nat} {σ : zS} {a b : Int32}
theorem node_0 (h : I3 p op s σ) (hX : ¬ lkX op (σ 27 0) a < op) : fX2_nodeOf a b σ = some (none, σ) := by
  unfold fX2_nodeOf
  rw [e_find h, if_neg hX, zCq_n]
theorem node_b (h : I3 p op s σ) (hb : b < 0 ∨ nI 4 ≤ b) : fX2_nodeOf a b σ = some (none, σ) := by
  by_cases hX : lkX op (σ 27 0) a < op
  · unfold fX2_nodeOf
    rw [e_find h, if_pos hX, zCq_s, zGd_t (s_lt h (by have := h.2.2.2.2.1; omega))]
    rcases hb with hb | hb
    · rw [if_pos hb]
    · rw [if_neg (zbig hb (by decide)), if_neg (by rw [zlt_le]; exact fun z => z hb)]
  · exact node_0 h hX
theorem node_1 (h : I3 p op s σ) (hX : lkX op (σ 27 0) a < op) {j : Nat} (hj : j < 4) : fX2_nodeOf a (nI j) σ = some (some (4 * s (lkX op (σ 27 0) a) + j), σ) := by
  have hs := s_lt h (x := lkX op (σ 27 0) a) (by have := h.2.2.2.2.1; omega)
  unfold fX2_nodeOf
  rw [e_find h, if_pos hX, zCq_s, zGd_t hs, if_neg (by show ¬ nI j < nI 0; rw [zn_lt (by omega) (by decide)]; omega), if_pos (by show nI j < nI 4; rw [zn_lt (by omega) (by decide)]; omega), zIx_nI hj (by decide), zB_s, nI_clamp (by omega), zGd_t (by omega)]
theorem place_0 (h : I3 p op s σ) (hX : ¬ lkX op (σ 27 0) a < op) : fX9_placeOf a σ = some (-9, σ) := by
  rw [e_place h.2.2.2.2.1 h.2.2.2.2.2.2.1, if_neg hX]
theorem place_1 (h : I3 p op s σ) (hX : lkX op (σ 27 0) a < op) : fX9_placeOf a σ = some (nI (lkX op (σ 27 0) a), σ) := by
  rw [e_place h.2.2.2.2.1 h.2.2.2.2.2.2.1, if_pos hX]
theorem nI_n9 {x : Nat} (hx : x < 3) : ¬ nI x = (-9 : Int32) := by
  rcases (show x = 0 ∨ x = 1 ∨ x = 2 by omega) with rfl | rfl | rfl <;> decide
end LK
theorem c_opened (a : Int32) (σ : zS) (h : J3 σ) : Cs3 σ (fX8_opened a) (fX9_opened a) := by
  obtain ⟨p, op, s, hI⟩ := id h
  obtain ⟨a1, a2, a3, a4, a5, a6, a7, a8, a9, a10, a11⟩ := id hI
  by_cases h0 : a < 0
  · exact Cs3.same h (r := -1) (by unfold fX8_opened; rw [if_pos h0]) (by unfold fX9_opened; rw [e_within, if_pos h0]; rfl)
  rcases zcase a op (by omega) with q | q | ⟨x, hx, rfl⟩
  · exact absurd q h0
  · refine Cs3.same h (r := -1) (by unfold fX8_opened; rw [if_neg h0, a6, if_neg (by rw [zlt_le]; exact fun z => z q)]) ?_
    unfold fX9_opened
    rw [e_within, if_neg h0, a7, if_pos (by
      rw [iI_n, iI_1, iI_sub, Int32.lt_iff_toInt_lt, iI_toInt (by omega) (by omega)]
      rw [Int32.le_iff_toInt_le, nI_toInt (by omega)] at q
      omega)]
    rfl
  · obtain ⟨n, -, -, b3, -⟩ := a11 x hx
    refine Cs3.same h (r := σ 27 0 x) ?_ ?_
    · unfold fX8_opened
      rw [if_neg h0, a6, if_pos (by rw [zn_lt (by omega) (by omega)]; exact hx), zIx_nI (by omega) (by decide), nI_clamp (by omega), s_mod hI (by omega), zB_s, zGd_t (s_lt hI (by omega)), b3]
    · unfold fX9_opened
      rw [e_within, if_neg h0, a7, if_neg (by
        rw [iI_n, iI_1, iI_sub, iI_n, Int32.lt_iff_toInt_lt, iI_toInt (by omega) (by omega), iI_toInt (by omega) (by omega)]
        omega), zCi_s, if_neg (by decide), zIx_nI (by omega) (by decide), nI_clamp (by omega)]
theorem c_rank (a b : Int32) (σ : zS) (h : J3 σ) : Cs3 σ (fX8_rank a b) (fX9_rank a b) := by
  obtain ⟨p, op, s, hI⟩ := id h
  by_cases hX : lkX op (σ 27 0) a < op
  · have hX3 : lkX op (σ 27 0) a < 3 := by have := hI.2.2.2.2.1; omega
    rcases zcase2 b 4 (by decide) with q | ⟨j, hj, rfl⟩
    · refine Cs3.same h (r := -1) (by unfold fX8_rank; rw [node_b hI q, zCq_n]) ?_
      unfold fX9_rank
      rw [place_1 hI hX, zCi_s, if_neg (nI_n9 hX3), isNode0 q, zCi_s, if_pos rfl]
    · obtain ⟨n, n1, n2, b1, b2, b3, hN⟩ := hI.2.2.2.2.2.2.2.2.2.2 _ hX
      obtain ⟨led, M, c1, c2, c3⟩ := hN j hj
      have hs := s_lt hI hX3
      refine Cs3.same h (r := nI (Sl led 5).length) ?_ ?_
      · unfold fX8_rank
        rw [node_1 hI hX hj, zCq_s, zGd_t (by omega), e_height c2]; rfl
      · unfold fX9_rank
        rw [place_1 hI hX, zCi_s, if_neg (nI_n9 hX3), isNode1 hj, zCi_s, if_neg (by decide), e_rk hX3 hj, zCi_s, c3.1]
  · refine Cs3.same h (r := -1) (by unfold fX8_rank; rw [node_0 hI hX, zCq_n]) ?_
    unfold fX9_rank
    rw [place_0 hI hX, zCi_s, if_pos rfl]
