/-! the tape -/
def J2 (σ : zS) : Prop := (∃ n, n ≤ 12 ∧ σ 7 0 1 = nI n ∧ σ 21 0 11 = nI n ∧ ∀ i, i < n → σ 26 0 i = σ 8 0 i) ∧ σ 31 0 = zS0 31 0 ∧ σ 32 0 = zS0 32 0 ∧ σ 33 0 = zS0 33 0
theorem J2.c {σ σ' : zS} (h : J2 σ) (h1 : ∀ k i j, (k = 7 ∨ k = 8 ∨ k = 26 ∨ k = 31 ∨ k = 32 ∨ k = 33 ∨ (k = 21 ∧ j = 11)) → σ' k i j = σ k i j) : J2 σ' := by
  obtain ⟨⟨n, n1, n2, n3, n4⟩, c1, c2, c3⟩ := h
  refine ⟨⟨n, n1, by rw [h1 7 0 1 (by omega)]; exact n2, by rw [h1 21 0 11 (by omega)]; exact n3, fun i hi => by rw [h1 26 0 i (by omega), h1 8 0 i (by omega)]; exact n4 i hi⟩, ?_, ?_, ?_⟩
  · rw [← c1]; exact funext fun j => h1 31 0 j (by omega)
  · rw [← c2]; exact funext fun j => h1 32 0 j (by omega)
  · rw [← c3]; exact funext fun j => h1 33 0 j (by omega)
def Cs2 (σ : zS) (f g : zS → Option (Int32 × zS)) : Prop := ∃ r σ1 σ2, f σ = some (r, σ1) ∧ g σ1 = some (r, σ2) ∧ J2 σ2 ∧ ∀ k i j, k ≠ 7 → k ≠ 8 → k ≠ 26 → ¬ (k = 21 ∧ j = 11) → σ2 k i j = σ k i j
theorem Cs2.same {σ : zS} {f g : zS → Option (Int32 × zS)} {r : Int32} (hI : J2 σ) (h1 : f σ = some (r, σ)) (h2 : g σ = some (r, σ)) : Cs2 σ f g := ⟨r, σ, σ, h1, h2, hI, fun _ _ _ _ _ _ _ => rfl⟩
theorem c_key (a : Int32) (σ : zS) (h : J2 σ) : Cs2 σ (fX8_key a) (fX9_key a) := by
  by_cases h1 : a < 0
  · exact Cs2.same h (r := -2) (by unfold fX8_key; rw [if_pos h1]) (by unfold fX9_key; rw [e_within, if_pos h1]; rfl)
  by_cases h2 : (127 : Int32) < a
  · exact Cs2.same h (r := -2) (by unfold fX8_key; rw [if_neg h1, if_neg (by rw [zle_lt]; exact fun q => q h2)]) (by unfold fX9_key; rw [e_within, if_neg h1, if_pos h2]; rfl)
  obtain ⟨⟨n, n1, n2, n3, n4⟩, c1, c2, c3⟩ := id h
  by_cases hn : n = 12
  · subst hn
    refine Cs2.same h (r := -4) ?_ ?_
    · unfold fX8_key fX7_add
      rw [if_neg h1, if_pos (by rw [zle_lt]; exact h2), n2, if_neg (by decide), zCi_s, if_pos rfl]
    · unfold fX9_key
      rw [e_within, if_neg h1, if_neg h2, zCi_s, if_neg (by decide), n3, if_pos (by decide)]
  have hl : n < 12 := by omega
  refine ⟨nI (n + 1), zU (zU σ 8 0 n a) 7 0 1 (nI (n + 1)), zU (zU (zU (zU σ 8 0 n a) 7 0 1 (nI (n + 1))) 26 0 n a) 21 0 11 (nI (n + 1)), ?_, ?_, ⟨⟨n + 1, by omega, ?_, ?_, ?_⟩, ?_, ?_, ?_⟩, ?_⟩
  · unfold fX8_key fX7_add
    rw [if_neg h1, if_pos (by rw [zle_lt]; exact h2), n2, if_pos (by show nI n < nI 12; rw [zn_lt (by omega) (by decide)]; exact hl), zIx_nI hl (by decide), nI_clamp (by omega), zB_s, zB_s, zU_k (by decide), n2, nI_1, zCi_s, if_neg (by decide), zU_s]
  · unfold fX9_key
    rw [e_within, if_neg h1, if_neg h2, zCi_s, if_neg (by decide), zU_k (show (21 : Nat) ≠ 7 by decide), zU_k (show (21 : Nat) ≠ 8 by decide), n3, if_neg (by show ¬ nI n = nI 12; rw [zn_eq (by omega) (by decide)]; omega), zIx_nI hl (by decide), nI_clamp (by omega), zB_s, zB_s, zU_s, zU_k (show (21 : Nat) ≠ 26 by decide), zU_k (show (21 : Nat) ≠ 7 by decide), zU_k (show (21 : Nat) ≠ 8 by decide), n3, nI_1]
  · rw [zU_k (by decide), zU_k (by decide), zU_s]
  · rw [zU_s]
  · intro i hi
    simp only [zU_k (show (26 : Nat) ≠ 21 by decide), zU_k (show (8 : Nat) ≠ 21 by decide), zU_k (show (8 : Nat) ≠ 26 by decide), zU_k (show (8 : Nat) ≠ 7 by decide)]
    by_cases hin : i = n
    · subst hin; rw [zU_s, zU_s]
    · rw [zU_j hin, zU_k (by decide), zU_k (by decide), zU_j hin]; exact n4 i (by omega)
  · rw [← c1]; funext j; rw [zU_k (by decide), zU_k (by decide), zU_k (by decide), zU_k (by decide)]
  · rw [← c2]; funext j; rw [zU_k (by decide), zU_k (by decide), zU_k (by decide), zU_k (by decide)]
  · rw [← c3]; funext j; rw [zU_k (by decide), zU_k (by decide), zU_k (by decide), zU_k (by decide)]
  · intro k i j a1 a2 a3 a4
    rw [zU_ap, if_neg (fun z => a4 ⟨z.1, z.2.2⟩), zU_k a3, zU_k a1, zU_k a2]
theorem c_wipe (σ : zS) (h : J2 σ) : Cs2 σ fX8_wipe fX9_wipe := by
  obtain ⟨⟨n, n1, n2, n3, n4⟩, c1, c2, c3⟩ := id h
  refine ⟨nI n, zU σ 7 0 1 0, zU (zU σ 7 0 1 0) 21 0 11 0, ?_, ?_, ⟨⟨0, by omega, ?_, ?_, fun i hi => absurd hi (by omega)⟩, ?_, ?_, ?_⟩, ?_⟩
  · unfold fX8_wipe; rw [n2, zB_s, zB_s]
  · unfold fX9_wipe; rw [zU_k (by decide), n3, zB_s, zB_s]
  · rw [zU_k (by decide), zU_s]; rfl
  · rw [zU_s]; rfl
  · rw [← c1]; funext j; rw [zU_k (by decide), zU_k (by decide)]
  · rw [← c2]; funext j; rw [zU_k (by decide), zU_k (by decide)]
  · rw [← c3]; funext j; rw [zU_k (by decide), zU_k (by decide)]
  · intro k i j a1 a2 a3 a4
    rw [zU_ap, if_neg (fun z => a4 ⟨z.1, z.2.2⟩), zU_k a1]
/-! words -/
def bt (w i : Nat) : Int32 := (zByt.getD w []).getD i 0
def lw (w : Nat) : Nat := zLen.getD w 0
def fr (w : Nat) : Nat := [0, 3, 8, 12, 17].getD w 0
def pr (w : Nat) : Nat := [2, 3, 5, 7].getD w 0
theorem e_char {σ : zS} : ∀ w, w < 4 → ∀ i, i < lw w → fJ0_charAt_5068e w (nI i) σ = some (bt w i, σ) := by
  intro w hw
  rcases (show w = 0 ∨ w = 1 ∨ w = 2 ∨ w = 3 by omega) with rfl | rfl | rfl | rfl
  · intro i hi
    have hi : i < 3 := hi
    rcases (show i = 0 ∨ i = 1 ∨ i = 2 by omega) with rfl | rfl | rfl <;> rfl
  · intro i hi
    have hi : i < 5 := hi
    rcases (show i = 0 ∨ i = 1 ∨ i = 2 ∨ i = 3 ∨ i = 4 by omega) with rfl | rfl | rfl | rfl | rfl <;> rfl
  · intro i hi
    have hi : i < 4 := hi
    rcases (show i = 0 ∨ i = 1 ∨ i = 2 ∨ i = 3 by omega) with rfl | rfl | rfl | rfl <;> rfl
  · intro i hi
    have hi : i < 5 := hi
    rcases (show i = 0 ∨ i = 1 ∨ i = 2 ∨ i = 3 ∨ i = 4 by omega) with rfl | rfl | rfl | rfl | rfl <;> rfl
theorem lw_sh : ∀ w, w < 4 → nI (zLen.getD w 0) >>> ((0 : Int32) &&& 31) = nI (lw w) := by decide +kernel
theorem e_len {σ : zS} {w : Nat} (hw : w < 4) : fJ0_length_8abf5 w σ = some (nI (lw w), σ) := by
  unfold fJ0_length_8abf5 fJ0_coder_7d493
  rw [if_neg (by decide), zCi_s, lw_sh w hw]
theorem lw_b : ∀ w, w < 4 → 3 ≤ lw w ∧ lw w ≤ 5 ∧ fr w + lw w = fr (w + 1) ∧ fr (w + 1) ≤ 17 := by decide
theorem w31 : ∀ w, w < 4 → zS0 31 0 w = nI (pr w) := by decide
theorem w32 : ∀ w, w < 4 → zS0 32 0 w = nI (lw w) := by decide
theorem w33 : ∀ w, w < 4 → ∀ i, i < lw w → zS0 33 0 (fr w + i) = bt w i := by decide
/-- where the tape is unlike a word -/
def ml (f : Nat → Int32) (w : Nat) : Nat → Int := fun i => if bt w i = f i then 0 else 1
/-- whether n codes spell a word -/
def sp (f : Nat → Int32) (n w : Nat) : Bool := decide (n = lw w) && decide (¬ fl (ml f w) (lw w) < lw w)
theorem e_spells {n w : Nat} {σ : zS} (hw : w < 4) (hn : n ≤ 12) (h : σ 7 0 1 = nI n) : fX7_spells w σ = some (if sp (σ 8 0) n w = true then 1 else 0, σ) := by
  have hb := lw_b w hw
  unfold fX7_spells sp
  rw [e_len hw, zCi_s, h]
  by_cases hl : n = lw w
  · subst hl
    rw [if_pos rfl, decide_eq_true rfl, Bool.true_and]
    have := zfind (L := fun t i => fX7_spells_15 w (fun y => some ((1 : Int32), y)) t (nI i) σ) (ml (σ 8 0) w) (lw w) (fun i => some (0, σ)) (some (1, σ)) (by
      intro t i hi
      show (if σ 7 0 1 ≤ nI i then _ else _) = _
      rw [h, if_neg (nI_ge hi (by omega)), e_char w hw i hi, zCi_s, zIx_nI (by omega) (by decide), nI_clamp (by omega), zB_s, nI_1]
      unfold ml
      by_cases hq : bt w i = σ 8 0 i
      · rw [if_pos hq, if_pos hq, if_pos rfl]
      · rw [if_neg hq, if_neg hq, if_neg (by decide)]) (by
      intro t
      show (if σ 7 0 1 ≤ nI (lw w) then _ else _) = _
      rw [h, if_pos (nI_le (Nat.le_refl _) (by omega))]) (lw w) 0 zN (by omega) (fun j hj => absurd hj (by omega)) (Nat.lt_of_le_of_lt hb.2.1 (by decide))
    refine Eq.trans this ?_
    by_cases hq : fl (ml (σ 8 0) w) (lw w) < lw w
    · rw [if_pos hq, decide_eq_false (fun z => z hq)]; rfl
    · rw [if_neg hq, decide_eq_true hq]; rfl
  · rw [if_neg (by rw [zn_eq (by omega) (by omega)]; omega), decide_eq_false hl, Bool.false_and]; rfl
theorem e_p35 {w : Nat} {σ : zS} (hw : w < 4) (h32 : σ 32 0 = zS0 32 0) (h33 : σ 33 0 = zS0 33 0) (K : Int32 → zS → Option (Int32 × zS)) : fX9_primeOnTape_35_17 (nI (fr w)) (nI w) K zN 1 0 σ = K (if fl (ml (σ 26 0) w) (lw w) < lw w then 0 else 1) σ := by
  have hb := lw_b w hw
  have h32w : σ 32 0 w = nI (lw w) := by rw [h32]; exact w32 w hw
  have hend : ∀ t i, fX9_primeOnTape_35_17 (nI (fr w)) (nI w) K (t + 1) 0 (nI i) σ = K 0 σ := by
    intro t i
    show zIx (nI w) 4 (if σ 32 0 (nI w).toNatClampNeg ≤ nI i then _ else _) = _
    rw [zIx_nI hw (by decide)]
    split
    · rfl
    · rw [if_pos rfl]
  have := zfind (L := fun t i => fX9_primeOnTape_35_17 (nI (fr w)) (nI w) K (t + 1) 1 (nI i) σ) (ml (σ 26 0) w) (lw w) (fun i => K 0 σ) (K 1 σ) (by
    intro t i hi
    show zIx (nI w) 4 _ = _
    rw [zIx_nI hw (by decide), nI_clamp (show w < 2 ^ 31 by omega), h32w, if_neg (nI_ge hi (by omega)), if_neg (by decide), zIx_nI (show i < 12 by omega) (by decide), nI_add, zIx_nI (show fr w + i < 17 by omega) (by decide), nI_clamp (by omega), nI_clamp (by omega), show σ 33 0 (fr w + i) = bt w i by rw [h33]; exact w33 w hw i hi, zB_s, zB_s, nI_1]
    unfold ml
    by_cases hq : bt w i = σ 26 0 i
    · rw [if_pos hq.symm, if_pos hq, if_pos rfl]
    · rw [if_neg (Ne.symm hq), if_neg hq, if_neg (by decide)]
      exact hend t (i + 1)) (by
    intro t
    show zIx (nI w) 4 _ = _
    rw [zIx_nI hw (by decide), nI_clamp (show w < 2 ^ 31 by omega), h32w, if_pos (nI_le (Nat.le_refl _) (by omega))]) (lw w) 0 19999 (by omega) (fun j hj => absurd hj (by omega)) (Nat.lt_of_le_of_lt hb.2.1 (by decide))
  refine Eq.trans this ?_
  split <;> rfl
theorem e_pw {n w : Nat} {σ : zS} (hw : w < 4) (hn : n ≤ 12) (h11 : σ 21 0 11 = nI n) (h31 : σ 31 0 = zS0 31 0) (h32 : σ 32 0 = zS0 32 0) (h33 : σ 33 0 = zS0 33 0) (t : Nat) (K : zS → Option (Int32 × zS)) : fX9_primeOnTape_4 K (t + 1) (nI (fr w)) (nI w) σ = if sp (σ 26 0) n w = true then some (nI (pr w), σ) else fX9_primeOnTape_4 K t (nI (fr (w + 1))) (nI (w + 1)) σ := by
  have hb := lw_b w hw
  have h32w : σ 32 0 w = nI (lw w) := by rw [h32]; exact w32 w hw
  have h31w : σ 31 0 w = nI (pr w) := by rw [h31]; exact w31 w hw
  show (if (4 : Int32) ≤ nI w then _ else _) = _
  rw [if_neg (lg4 hw), zIx_nI hw (by decide), nI_clamp (by omega), h32w, h11]
  unfold sp
  by_cases hl : n = lw w
  · rw [if_pos (by rw [hl]), e_p35 hw h32 h33, decide_eq_true hl, Bool.true_and]
    by_cases hq : fl (ml (σ 26 0) w) (lw w) < lw w
    · rw [if_pos hq, if_pos rfl, decide_eq_false (fun z => z hq), if_neg (by decide), zIx_nI hw (by decide), h32w, zB_s, zB_s, nI_1, nI_add, hb.2.2.1]
    · rw [if_neg hq, if_neg (by decide), decide_eq_true hq, if_pos rfl, zIx_nI hw (by decide), h31w]
  · rw [if_neg (by rw [zn_eq (by omega) (by omega)]; exact hl), decide_eq_false hl, Bool.false_and, if_neg (by decide)]
    show zIx (nI w) 4 (if σ 32 0 (nI w).toNatClampNeg ≤ (0 : Int32) then _ else _) = _
    rw [zIx_nI hw (by decide), nI_clamp (by omega), h32w, if_neg (by show ¬ nI (lw w) ≤ nI 0; exact nI_ge (by omega) (by omega)), if_pos rfl]
    dsimp only
    rw [if_pos rfl, zIx_nI hw (by decide), h32w, zB_s, zB_s, nI_1, nI_add, hb.2.2.1]
/-- the number on the tape, 0: none -/
def tn (f : Nat → Int32) (n : Nat) : Nat := if sp f n 0 = true then 2 else if sp f n 1 = true then 3 else if sp f n 2 = true then 5 else if sp f n 3 = true then 7 else 0
theorem e_told {n : Nat} {σ : zS} (hn : n ≤ 12) (h : σ 7 0 1 = nI n) : fX7_toldNumber σ = some (nI (tn (σ 8 0) n), σ) := by
  unfold fX7_toldNumber tn
  rw [e_spells (by decide) hn h, zCi_s, e_spells (by decide) hn h, zCi_s, e_spells (by decide) hn h, zCi_s, e_spells (by decide) hn h, zCi_s]
  cases sp (σ 8 0) n 0 <;> cases sp (σ 8 0) n 1 <;> cases sp (σ 8 0) n 2 <;> cases sp (σ 8 0) n 3 <;> rfl
theorem e_prime {n : Nat} {σ : zS} (hn : n ≤ 12) (h11 : σ 21 0 11 = nI n) (h31 : σ 31 0 = zS0 31 0) (h32 : σ 32 0 = zS0 32 0) (h33 : σ 33 0 = zS0 33 0) : fX9_primeOnTape σ = some (if tn (σ 26 0) n = 0 then -9 else nI (tn (σ 26 0) n), σ) := by
  have hz : zN = 19995 + 1 + 1 + 1 + 1 + 1 := rfl
  have e : fX9_primeOnTape σ = fX9_primeOnTape_4 (fun (y4_1 : zS) => (some ((-9 : Int32), y4_1) : Option (Int32 × zS))) (19995 + 1 + 1 + 1 + 1 + 1) (nI (fr 0)) (nI 0) σ := rfl
  rw [e, e_pw (by decide) hn h11 h31 h32 h33, e_pw (by decide) hn h11 h31 h32 h33, e_pw (by decide) hn h11 h31 h32 h33, e_pw (by decide) hn h11 h31 h32 h33]
  unfold tn
  cases sp (σ 26 0) n 0 <;> cases sp (σ 26 0) n 1 <;> cases sp (σ 26 0) n 2 <;> cases sp (σ 26 0) n 3 <;> rfl
theorem tn_pp (f : Nat → Int32) (n : Nat) : tn f n = 0 ∨ pp (tn f n) := by
  unfold tn pp
  cases sp f n 0 <;> cases sp f n 1 <;> cases sp f n 2 <;> cases sp f n 3 <;> simp
theorem sp_c {f g : Nat → Int32} {n w : Nat} (h : ∀ i, i < n → f i = g i) : sp f n w = sp g n w := by
  unfold sp
  by_cases hl : n = lw w
  · rw [fl_ex (f := ml f w) (g := ml g w) (fun j hj => by unfold ml; rw [h j (by omega)])]
  · rw [decide_eq_false hl]; rfl
theorem tn_c {f g : Nat → Int32} {n : Nat} (h : ∀ i, i < n → f i = g i) : tn f n = tn g n := by
  unfold tn
  rw [sp_c h, sp_c h, sp_c h, sp_c h]
theorem c_word (σ : zS) (h : J2 σ) (h3 : J3 σ) : ∃ r σ1 σ2, fX8_word σ = some (r, σ1) ∧ fX9_word σ1 = some (r, σ2) ∧ J2 σ2 ∧ J3 σ2 ∧ ∀ k i j, k ≠ 7 → k ≠ 9 → k ≠ 10 → ¬ (k = 21 ∧ (j = 11 ∨ j = 12 ∨ j = 13 ∨ j = 14)) → σ2 k i j = σ k i j := by
  obtain ⟨⟨n, n1, n2, n3, n4⟩, c1, c2, c3⟩ := id h
  have ht : tn (σ 26 0) n = tn (σ 8 0) n := tn_c n4
  rcases tn_pp (σ 8 0) n with h0 | hp
  · refine ⟨-1, σ, σ, ?_, ?_, h, h3, fun _ _ _ _ _ _ _ => rfl⟩
    · unfold fX8_word; rw [e_told n1 n2, h0, zCi_s]; rfl
    · unfold fX9_word; rw [e_prime n1 n3 c1 c2 c3, ht, h0, zCi_s]; rfl
  · obtain ⟨p, op, s, a1, a2, a3, a4, a5, a6, a7, a8, a9, a10, a11⟩ := h3
    have hb := hp.b
    generalize hg : tn (σ 8 0) n = P at *
    have hP0 : ¬ nI P = 0 := by show ¬ nI P = nI 0; rw [zn_eq (by omega) (by decide)]; omega
    have hP9 : ¬ nI P = -9 := n9 (by omega)
    refine ⟨nI P, zU (zU (zU (zU σ 7 0 1 0) 9 0 0 (nI P)) 10 0 4 0) 10 0 5 0, zU (zU (zU (zU (zU (zU (zU (zU σ 7 0 1 0) 9 0 0 (nI P)) 10 0 4 0) 10 0 5 0) 21 0 12 (nI P)) 21 0 14 0) 21 0 13 0) 21 0 11 0, ?_, ?_, ?_, ⟨P, 0, s, hp, ?_, ?_, ?_, by omega, ?_, ?_, ?_, ?_, a10, fun x hx => absurd hx (by omega)⟩, ?_⟩
    · unfold fX8_word
      rw [e_told n1 n2, hg, zCi_s, if_neg hP0, zB_s, zB_s]
      unfold fX2_forget
      rw [zB_s, zB_s, zCv_s]
    · have k : ∀ k i j, k ≠ 7 → k ≠ 9 → k ≠ 10 → zU (zU (zU (zU σ 7 0 1 0) 9 0 0 (nI P)) 10 0 4 0) 10 0 5 0 k i j = σ k i j := fun k i j b1 b2 b3 => by rw [zU_k b3, zU_k b3, zU_k b2, zU_k b1]
      unfold fX9_word
      rw [e_prime (n := n) n1 (by rw [k _ _ _ (by decide) (by decide) (by decide)]; exact n3) (by rw [← c1]; exact funext fun j => k _ _ _ (by decide) (by decide) (by decide)) (by rw [← c2]; exact funext fun j => k _ _ _ (by decide) (by decide) (by decide)) (by rw [← c3]; exact funext fun j => k _ _ _ (by decide) (by decide) (by decide)), show (zU (zU (zU (zU σ 7 0 1 0) 9 0 0 (nI P)) 10 0 4 0) 10 0 5 0) 26 0 = σ 26 0 from funext fun j => k _ _ _ (by decide) (by decide) (by decide), ht, show (if P = 0 then (-9 : Int32) else nI P) = nI P from if_neg (by omega), zCi_s, if_neg hP9, zB_s, zB_s, zB_s, zB_s, zU_j (by decide), zU_j (by decide), zU_j (by decide), zU_s]
    · refine ⟨⟨0, by omega, ?_, ?_, fun i hi => absurd hi (by omega)⟩, ?_, ?_, ?_⟩
      · rw [zU_k (by decide), zU_k (by decide), zU_k (by decide), zU_k (by decide), zU_k (by decide), zU_k (by decide), zU_k (by decide), zU_s]; rfl
      · rw [zU_s]; rfl
      · rw [← c1]; funext j; simp only [zU_k (show (31 : Nat) ≠ 21 by decide), zU_k (show (31 : Nat) ≠ 10 by decide), zU_k (show (31 : Nat) ≠ 9 by decide), zU_k (show (31 : Nat) ≠ 7 by decide)]
      · rw [← c2]; funext j; simp only [zU_k (show (32 : Nat) ≠ 21 by decide), zU_k (show (32 : Nat) ≠ 10 by decide), zU_k (show (32 : Nat) ≠ 9 by decide), zU_k (show (32 : Nat) ≠ 7 by decide)]
      · rw [← c3]; funext j; simp only [zU_k (show (33 : Nat) ≠ 21 by decide), zU_k (show (33 : Nat) ≠ 10 by decide), zU_k (show (33 : Nat) ≠ 9 by decide), zU_k (show (33 : Nat) ≠ 7 by decide)]
    · simp only [zU_k (show (9 : Nat) ≠ 21 by decide), zU_k (show (9 : Nat) ≠ 10 by decide), zU_s]
    · rw [zU_j (by decide), zU_j (by decide), zU_j (by decide), zU_s]
    · simp only [zU_j (show (19 : Nat) ≠ 11 by decide), zU_j (show (19 : Nat) ≠ 13 by decide), zU_j (show (19 : Nat) ≠ 14 by decide), zU_j (show (19 : Nat) ≠ 12 by decide), zU_k (show (21 : Nat) ≠ 10 by decide), zU_k (show (21 : Nat) ≠ 9 by decide), zU_k (show (21 : Nat) ≠ 7 by decide), zU_k (show (9 : Nat) ≠ 21 by decide), zU_k (show (9 : Nat) ≠ 10 by decide), zU_j (show (1 : Nat) ≠ 0 by decide), zU_k (show (9 : Nat) ≠ 7 by decide)]
      exact a4
    · simp only [zU_k (show (10 : Nat) ≠ 21 by decide), zU_j (show (4 : Nat) ≠ 5 by decide), zU_s]; rfl
    · rw [zU_j (by decide), zU_j (by decide), zU_s]; rfl
    · simp only [zU_j (show (13 : Nat) ≠ 11 by decide), zU_s, zU_k (show (10 : Nat) ≠ 21 by decide)]
    · intro x hx
      simp only [zU_k (show (11 : Nat) ≠ 21 by decide), zU_k (show (11 : Nat) ≠ 10 by decide), zU_k (show (11 : Nat) ≠ 9 by decide), zU_k (show (11 : Nat) ≠ 7 by decide)]
      exact a9 x hx
    · intro k i j b1 b2 b3 b4
      rw [zU_ap, if_neg (by omega), zU_ap, if_neg (by omega), zU_ap, if_neg (by omega), zU_ap, if_neg (by omega), zU_k b3, zU_k b3, zU_k b2, zU_k b1]
