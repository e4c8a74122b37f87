/-! sweep -/
def dnf (v : Int32) (f : Nat → Int32) (x : Nat) : Nat → Int := fun j => if f (4 * x + j) = v then 0 else 1
def dn (w : zS) (x : Nat) : Bool := decide (¬ fl (dnf (w 28 0 x) (w 29 0) x) 4 < 4)
theorem e_isDoneM {x : Nat} {w : zS} (hx : x < 3) : fX9_isDone (nI x) w = some (if dn w x = true then 1 else 0, w) := by
  obtain ⟨z, hz, e⟩ := zloop (β := Int32) (L := fun t j z => fX9_isDone_4 (nI x) (fun (u2_4_1 : Int32) (y4_1 : zS) => (zGd (u2_4_1 = 0 ∨ u2_4_1 = 1) (some (u2_4_1, y4_1)) : Option (Int32 × zS))) t z (nI j) w) (fun j z => z = if fl (dnf (w 28 0 x) (w 29 0) x) j < j then 0 else 1) 4 (fun z => zGd (z = 0 ∨ z = 1) (some (z, w))) (by
    rintro t j z hj rfl
    refine ⟨_, rfl, ?_⟩
    show (if (4 : Int32) ≤ nI j then _ else _) = _
    have hle := fl_le (dnf (w 28 0 x) (w 29 0) x) j
    have hstep : fl (dnf (w 28 0 x) (w 29 0) x) (j + 1) = if fl (dnf (w 28 0 x) (w 29 0) x) j < j then fl (dnf (w 28 0 x) (w 29 0) x) j else if dnf (w 28 0 x) (w 29 0) x j = 0 then j + 1 else j := rfl
    rw [if_neg (lg4 hj)]
    simp only [zB_s, nI_1]
    by_cases h1 : fl (dnf (w 28 0 x) (w 29 0) x) j < j
    · rw [if_pos h1] at hstep
      rw [if_pos h1, if_pos rfl, hstep, if_pos (by omega)]
    · rw [if_neg h1] at hstep
      rw [if_neg h1, if_neg (by decide), e_rk hx hj, zCi_s, zIx_nI hx (by decide), nI_clamp (by omega)]
      by_cases h2 : w 29 0 (4 * x + j) = w 28 0 x
      · rw [if_pos h2]
        rw [show dnf (w 28 0 x) (w 29 0) x j = 0 from if_pos h2, if_pos rfl] at hstep
        rw [hstep, if_neg (by omega)]
      · rw [if_neg h2]
        rw [show dnf (w 28 0 x) (w 29 0) x j = 1 from if_neg h2, if_neg (by decide)] at hstep
        rw [hstep, if_pos (by omega)]) (by
    rintro t z _
    show (if (4 : Int32) ≤ nI 4 then _ else _) = _
    rw [if_pos (by decide)]) 4 0 1 zN (by decide) rfl (by decide)
  refine Eq.trans e ?_
  rw [hz]
  unfold dn
  by_cases h : fl (dnf (w 28 0 x) (w 29 0) x) 4 < 4
  · rw [if_pos h, decide_eq_false (fun q => q h), zGd_t (Or.inl rfl)]; rfl
  · rw [if_neg h, decide_eq_true h, zGd_t (Or.inr rfl)]; rfl
theorem e_isDoneC {p g x : Nat} {w : zS} (hg : g < 3) (hG : Gn p w g x) : fX1_isDone g w = some (if dn w x = true then 1 else 0, w) := by
  obtain ⟨n, n1, n2, b1, b2, b3, hN⟩ := hG
  have := zfind (L := fun t j => fX1_isDone_2 g (fun y => some ((1 : Int32), y)) t (nI j) w) (dnf (w 28 0 x) (w 29 0) x) 4 (fun j => some (0, w)) (some (1, w)) (by
    intro t j hj
    obtain ⟨led, M, c1, c2, c3⟩ := hN j hj
    have hl5 := Sl_len led 5
    have hln : (Sl led 5).length ≤ n := Sl_len2 (fun q h1 h2 => (c1 q h2 h1).1)
    show (if (4 : Int32) ≤ nI j then _ else _) = _
    rw [if_neg (lg4 hj), zIx_nI hj (by decide), zB_s, nI_clamp (by omega), zGd_t (by omega), e_height c2, zCi_s, b2, zB_s, nI_1]
    unfold dnf
    rw [c3.1, b3]
    by_cases h : (Sl led 5).length = n
    · rw [if_pos (nI_le (by omega) (by omega)), h, if_pos rfl, if_pos rfl]
    · rw [if_neg (nI_ge (by omega) (by omega)), if_neg (by
        rw [if_neg (by rw [zn_eq (by omega) (by omega)]; exact h)]; decide)]) (by
    intro t
    show (if (4 : Int32) ≤ nI 4 then _ else _) = _
    rw [if_pos (by decide)]) 4 0 zN (by decide) (fun j hj => absurd hj (by omega)) (by decide)
  refine Eq.trans this ?_
  unfold dn
  by_cases h : fl (dnf (w 28 0 x) (w 29 0) x) 4 < 4
  · rw [if_pos h, decide_eq_false (fun q => q h)]; rfl
  · rw [if_neg h, decide_eq_true h]; rfl
def Mv (w σ : zS) (r q : Nat) : Prop := w 27 0 r = σ 27 0 q ∧ w 28 0 r = σ 28 0 q ∧ (∀ j, j < 4 → w 29 0 (4 * r + j) = σ 29 0 (4 * q + j)) ∧ ∀ i, i < 160 → w 30 0 (160 * r + i) = σ 30 0 (160 * q + i)
theorem Mv.t {a b c : zS} {x y z : Nat} (h1 : Mv a b x y) (h2 : Mv b c y z) : Mv a c x z := ⟨h1.1.trans h2.1, h1.2.1.trans h2.2.1, fun j hj => (h1.2.2.1 j hj).trans (h2.2.2.1 j hj), fun i hi => (h1.2.2.2 i hi).trans (h2.2.2.2 i hi)⟩
theorem Mv_dn {w σ : zS} {r q : Nat} (h : Mv w σ r q) : dn w r = dn σ q := by
  unfold dn
  rw [fl_ex (g := dnf (σ 28 0 q) (σ 29 0) q) (fun j hj => by unfold dnf; rw [h.2.2.1 j hj, h.2.1])]
theorem Gn.mv {p g r q : Nat} {w σ : zS} (h : Gn p σ g q) (hm : Mv w σ r q) (h1 : w 13 g 1 = σ 13 g 1) (h2 : w 13 g 2 = σ 13 g 2) (h5 : ∀ j q, j < 4 → w 17 (4 * g + j) q = σ 17 (4 * g + j) q) (h6 : ∀ i c, 20 * g ≤ i → i < 20 * g + 20 → w 18 i c = σ 18 i c) : Gn p w g r := by
  obtain ⟨n, n1, n2, a1, a2, a3, hN⟩ := h
  refine ⟨n, n1, n2, by rw [h1, hm.1]; exact a1, by rw [h2]; exact a2, by rw [hm.2.1]; exact a3, fun j hj => ?_⟩
  obtain ⟨led, M, b1, b2, b3⟩ := hN j hj
  refine ⟨led, M, b1, b2.c (fun q _ => h5 j q hj) (fun q hq _ c _ => h6 _ c (by omega) (by omega)), by rw [hm.2.2.1 j hj]; exact b3.1, fun t q' ht i hi => ?_⟩
  have htl := (get_in ht).1
  have hl5 := Sl_len led 5
  have := hm.2.2.2 (8 * (5 * j + t) + i) (by omega)
  rw [show 160 * r + (8 * (5 * j + t) + i) = 8 * (5 * (4 * r + j) + t) + i by omega, show 160 * q + (8 * (5 * j + t) + i) = 8 * (5 * (4 * q + j) + t) + i by omega] at this
  rw [this]
  exact b3.2 t q' ht i hi
theorem e_moves {r q : Nat} {w : zS} (hr : r < 3) (hq : q < 3) : ∃ w', fX9_moves (nI r) (nI q) w = some (0, w') ∧ Mv w' w r q ∧ (∀ x, x < 3 → x ≠ r → Mv w' w x x) ∧ ∀ k i j, ¬ (27 ≤ k ∧ k ≤ 30) → w' k i j = w k i j := by
  obtain ⟨w1, ⟨f1, f2⟩, e1⟩ := zloop (β := zS) (L := fun t i y => fX9_moves_26 (nI r) (nI q) (fun (y26_7 : zS) => (fX9_moves_59 (nI r) (nI q) (fun (y59_8 : zS) => (some ((0 : Int32), y59_8) : Option (Int32 × zS))) zN (0 : Int32) y26_7 : Option (Int32 × zS))) t (nI i) y)
    (fun i y => (∀ c, c < i → y 29 0 (4 * r + c) = w 29 0 (4 * q + c)) ∧ ∀ k i' j, ¬ (k = 29 ∧ 4 * r ≤ j ∧ j < 4 * r + i) → y k i' j = zU (zU w 27 0 r (w 27 0 q)) 28 0 r (w 28 0 q) k i' j) 4 (fun y => fX9_moves_59 (nI r) (nI q) (fun (y59_8 : zS) => (some ((0 : Int32), y59_8) : Option (Int32 × zS))) zN (0 : Int32) y) (by
    rintro t i y hi ⟨f1, f2⟩
    refine ⟨zU y 29 0 (4 * r + i) (w 29 0 (4 * q + i)), ⟨?_, ?_⟩, ?_⟩
    · intro c hc
      by_cases hci : c = i
      · subst hci; rw [zU_s]
      · rw [zU_j (by omega)]; exact f1 c (by omega)
    · intro k' i' j' hk'
      rw [zU_ap, if_neg (by omega)]; exact f2 k' i' j' (by omega)
    · show (if (4 : Int32) ≤ nI i then _ else _) = _
      have hrd : y 29 0 (4 * q + i) = w 29 0 (4 * q + i) := by
        rw [f2 29 0 _ (by omega), zU_k (by decide), zU_k (by decide)]
      rw [if_neg (lg4 hi), e_41, e_41, zIx_nI (by omega) (by decide), zIx_nI (by omega) (by decide), nI_clamp (by omega), nI_clamp (by omega), hrd, zB_s, zB_s, nI_1]) (by
    rintro t y _
    show (if (4 : Int32) ≤ nI 4 then _ else _) = _
    rw [if_pos (by decide)]) 4 0 (zU (zU w 27 0 r (w 27 0 q)) 28 0 r (w 28 0 q)) zN (by decide) ⟨fun c hc => absurd hc (by omega), fun _ _ _ _ => rfl⟩ (by decide)
  obtain ⟨w2, ⟨g1, g2⟩, e2⟩ := zloop (β := zS) (L := fun t i y => fX9_moves_59 (nI r) (nI q) (fun (y59_8 : zS) => (some ((0 : Int32), y59_8) : Option (Int32 × zS))) t (nI i) y)
    (fun i y => (∀ c, c < i → y 30 0 (160 * r + c) = w 30 0 (160 * q + c)) ∧ ∀ k i' j, ¬ (k = 30 ∧ 160 * r ≤ j ∧ j < 160 * r + i) → y k i' j = w1 k i' j) 160 (fun y => some (0, y)) (by
    rintro t i y hi ⟨g1, g2⟩
    refine ⟨zU y 30 0 (160 * r + i) (w 30 0 (160 * q + i)), ⟨?_, ?_⟩, ?_⟩
    · intro c hc
      by_cases hci : c = i
      · subst hci; rw [zU_s]
      · rw [zU_j (by omega)]; exact g1 c (by omega)
    · intro k' i' j' hk'
      rw [zU_ap, if_neg (by omega)]; exact g2 k' i' j' (by omega)
    · show zCi (fX9_at (nI 1) (nI 0) (nI 0) y) _ = _
      have hrd : y 30 0 (160 * q + i) = w 30 0 (160 * q + i) := by
        rw [g2 30 0 _ (by omega), f2 30 0 _ (by omega), zU_k (by decide), zU_k (by decide)]
      rw [e_at, zCi_s, if_neg (by show ¬ nI 160 ≤ nI i; exact nI_ge hi (by decide)), show (0 : Int32) = nI 0 from rfl, e_at, zCi_s, e_at, zCi_s, nI_add, nI_add, show 8 * (5 * (4 * q + 0) + 0) + i = 160 * q + i by omega, show 8 * (5 * (4 * r + 0) + 0) + i = 160 * r + i by omega, zIx_nI (by omega) (by decide), zIx_nI (by omega) (by decide), nI_clamp (by omega), nI_clamp (by omega), hrd, zB_s, zB_s, nI_1]) (by
    rintro t y _
    show zCi (fX9_at (nI 1) (nI 0) (nI 0) y) _ = _
    rw [e_at, zCi_s, if_pos (by decide)]) 160 0 w1 zN (by decide) ⟨fun c hc => absurd hc (by omega), fun _ _ _ _ => rfl⟩ (by decide)
  refine ⟨w2, ?_, ⟨?_, ?_, ?_, g1⟩, fun x hx hxr => ⟨?_, ?_, ?_, ?_⟩, ?_⟩
  · unfold fX9_moves
    rw [zIx_nI hq (by decide), zIx_nI hr (by decide), nI_clamp (by omega), nI_clamp (by omega), zB_s, zIx_nI hq (by decide), zIx_nI hr (by decide), zB_s, zU_k (show (28 : Nat) ≠ 27 by decide)]
    exact e1.trans e2
  · rw [g2 27 0 r (by omega), f2 27 0 r (by omega), zU_k (by decide), zU_s]
  · rw [g2 28 0 r (by omega), f2 28 0 r (by omega), zU_s]
  · intro j hj; rw [g2 29 0 _ (by omega)]; exact f1 j hj
  · rw [g2 27 0 x (by omega), f2 27 0 x (by omega), zU_k (by decide), zU_j hxr]
  · rw [g2 28 0 x (by omega), f2 28 0 x (by omega), zU_j hxr, zU_k (by decide)]
  · intro j hj; rw [g2 29 0 _ (by omega), f2 29 0 _ (by omega), zU_k (by decide), zU_k (by decide)]
  · intro i hi; rw [g2 30 0 _ (by omega), f2 30 0 _ (by omega), zU_k (by decide), zU_k (by decide)]
  · intro k i j hk
    rw [g2 k i j (by omega), f2 k i j (by omega), zU_k (by omega), zU_k (by omega)]
/-- the slots after the class's sweep -/
theorem e_sweepC {p op : Nat} {s : Nat → Nat} {σ : zS} (hI : I3 p op s σ) : ∃ σ', fX8_sweep σ = some (nI op - nI (Sl (fun x => !dn σ x) op).length, σ') ∧ σ' 10 0 4 = nI (Sl (fun x => !dn σ x) op).length ∧ (∃ s' : Nat → Nat, (∀ x, x < 3 → s' x < 3 ∧ σ' 11 0 x = nI (s' x)) ∧ (∀ x y, x < 3 → y < 3 → s' x = s' y → x = y) ∧ ∀ r q, (Sl (fun x => !dn σ x) op)[r]? = some q → s' r = s q) ∧ ∀ k i j, k ≠ 11 → ¬ (k = 10 ∧ j = 4) → σ' k i j = σ k i j := by
  obtain ⟨a1, a2, a3, a4, a5, a6, a7, a8, a9, a10, a11⟩ := id hI
  generalize hK : (fun (u1_4_1 : Int32) (y4_1 : zS) => (zB ((y4_1 10 0 4) - u1_4_1) (fun x2 => zB (zU y4_1 10 0 4 u1_4_1) (fun s3 => some (x2, s3))) : Option (Int32 × zS))) = K
  obtain ⟨⟨kp, w⟩, ⟨z1, ⟨s', s1, s2, s3, s4⟩, z3⟩, e1⟩ := zloop (β := Nat × zS) (L := fun t i b => fX2_takeOutDone_4 K t (nI b.1) (nI i) b.2)
    (fun i b => b.1 = (Sl (fun x => !dn σ x) i).length ∧ (∃ s' : Nat → Nat, (∀ x, x < 3 → s' x < 3 ∧ b.2 11 0 x = nI (s' x)) ∧ (∀ x y, x < 3 → y < 3 → s' x = s' y → x = y) ∧ (∀ r q, (Sl (fun x => !dn σ x) i)[r]? = some q → s' r = s q) ∧ ∀ x, i ≤ x → x < 3 → s' x = s x) ∧ ∀ k i j, k ≠ 11 → b.2 k i j = σ k i j) op (fun b => K (nI b.1) b.2) (by
    rintro t i ⟨kp, w⟩ hi ⟨z1, ⟨s', s1, s2, s3, s4⟩, z3⟩
    dsimp only at z1 s1 z3
    have hkp : kp ≤ i := by rw [z1]; exact Sl_len _ i
    have hGw : Gn p w (s i) i := (a11 i hi).c (z3 _ _ _ (by decide)) (z3 _ _ _ (by decide)) (z3 _ _ _ (by decide)) (z3 _ _ _ (by decide)) (fun _ _ _ => z3 _ _ _ (by decide)) (fun _ _ _ _ => z3 _ _ _ (by decide)) (fun _ _ => z3 _ _ _ (by decide)) (fun _ _ _ => z3 _ _ _ (by decide))
    have hsi : s' i = s i := s4 i (Nat.le_refl _) (by omega)
    have hsi3 : s i < 3 := (a9 i (by omega)).1
    have hmi : (w 11 0 i).toNatClampNeg % 3 = s i := by rw [(s1 i (by omega)).2, hsi, nI_clamp (by omega), Nat.mod_eq_of_lt hsi3]
    have hdn : dn w i = dn σ i := by
      unfold dn
      rw [z3 28 0 i (by decide), show w 29 0 = σ 29 0 from funext fun j => z3 29 0 j (by decide)]
    have hst : fX2_takeOutDone_4 K (t + 1) (nI kp) (nI i) w = if dn σ i = true then fX2_takeOutDone_4 K t (nI kp) (nI (i + 1)) w else fX2_takeOutDone_4 K t (nI (kp + 1)) (nI (i + 1)) (zU (zU w 11 0 i (nI (s' kp))) 11 0 kp (nI (s i))) := by
      show (if w 10 0 4 ≤ nI i then _ else _) = _
      have hk3 := s1 kp (by omega)
      rw [z3 10 0 4 (by decide), a6, if_neg (nI_ge hi (by omega)), zIx_nI (by omega) (by decide), nI_clamp (show i < 2 ^ 31 by omega), hmi, zB_s, zGd_t hsi3, e_isDoneC hsi3 hGw, zCi_s, hdn, zIx_nI (by omega) (by decide), zB_s, hmi, zGd_t hsi3, zIx_nI (by omega) (by decide), nI_clamp (show kp < 2 ^ 31 by omega), hk3.2, nI_clamp (by omega), Nat.mod_eq_of_lt hk3.1, zB_s, zGd_t hk3.1, zIx_nI (by omega) (by decide), zB_s, zIx_nI (by omega) (by decide), zB_s, zB_s, zB_s, zB_s, nI_1, nI_1]
      cases dn σ i <;> rfl
    dsimp only
    rw [hst]
    cases hd : dn σ i with
    | true =>
      refine ⟨(kp, w), ⟨?_, ⟨s', s1, s2, ?_, fun x h1 h2 => s4 x (by omega) h2⟩, z3⟩, by rw [if_pos rfl]⟩
      · rw [Sl_s, if_neg (by rw [hd]; decide)]; exact z1
      · rw [Sl_s, if_neg (by rw [hd]; decide)]; exact s3
    | false =>
      refine ⟨(kp + 1, zU (zU w 11 0 i (nI (s' kp))) 11 0 kp (nI (s i))), ⟨?_, ⟨fun x => if x = kp then s i else if x = i then s' kp else s' x, ?_, ?_, ?_, ?_⟩, ?_⟩, by rw [if_neg (by decide)]⟩
      · rw [Sl_s, if_pos (by rw [hd]; rfl), List.length_append, ← z1]; rfl
      · intro x hx
        dsimp only
        by_cases h1 : x = kp
        · subst h1; rw [if_pos rfl, zU_s]; exact ⟨hsi3, rfl⟩
        · rw [if_neg h1, zU_j h1]
          by_cases h2 : x = i
          · subst h2; rw [if_pos rfl, zU_s]; exact ⟨(s1 kp (by omega)).1, rfl⟩
          · rw [if_neg h2, zU_j h2]; exact s1 x hx
      · intro x y hx hy
        dsimp only
        have i3 : i < 3 := by omega
        have k3 : kp < 3 := by omega
        rw [← hsi]
        by_cases x1 : x = kp
        · rw [if_pos x1]
          by_cases y1 : y = kp
          · intro _; omega
          · rw [if_neg y1]
            by_cases y2 : y = i
            · rw [if_pos y2]; intro z; have := s2 i kp i3 k3 z; omega
            · rw [if_neg y2]; intro z; have := s2 i y i3 hy z; omega
        · rw [if_neg x1]
          by_cases x2 : x = i
          · rw [if_pos x2]
            by_cases y1 : y = kp
            · rw [if_pos y1]; intro z; have := s2 kp i k3 i3 z; omega
            · rw [if_neg y1]
              by_cases y2 : y = i
              · intro _; omega
              · rw [if_neg y2]; intro z; have := s2 kp y k3 hy z; omega
          · rw [if_neg x2]
            by_cases y1 : y = kp
            · rw [if_pos y1]; intro z; have := s2 x i hx i3 z; omega
            · rw [if_neg y1]
              by_cases y2 : y = i
              · rw [if_pos y2]; intro z; have := s2 x kp hx k3 z; omega
              · rw [if_neg y2]; intro z; exact s2 x y hx hy z
      · intro r q hr
        rw [Sl_s, if_pos (by rw [hd]; rfl)] at hr
        dsimp only
        rcases Nat.lt_or_ge r kp with h1 | h1
        · rw [List.getElem?_append_left (by omega)] at hr
          rw [if_neg (by omega), if_neg (by omega)]
          exact s3 r q hr
        · rw [List.getElem?_append_right (by omega)] at hr
          have hr2 := (get_in hr).1
          have : r = kp := by rw [List.length_singleton] at hr2; omega
          subst this
          rw [← z1, Nat.sub_self] at hr
          have hq : i = q := by simpa using hr
          rw [if_pos rfl, hq]
      · intro x h1 h2
        dsimp only
        rw [if_neg (by omega), if_neg (by omega)]
        exact s4 x (by omega) h2
      · intro k i' j hk
        dsimp only
        rw [zU_k hk, zU_k hk]; exact z3 k i' j hk) (by
    rintro t ⟨kp, w⟩ ⟨z1, _, z3⟩
    dsimp only at z3
    show (if w 10 0 4 ≤ nI op then _ else _) = _
    rw [z3 10 0 4 (by decide), a6, if_pos (nI_le (Nat.le_refl _) (by omega))]) op 0 (0, σ) zN (by omega) ⟨rfl, ⟨s, a9, a10, fun r q hr => absurd hr (by show ¬ ([] : List Nat)[r]? = some q; simp), fun _ _ _ => rfl⟩, fun _ _ _ _ => rfl⟩ (Nat.lt_of_le_of_lt a5 (by decide))
  dsimp only at z1 s1 z3 e1
  subst z1
  refine ⟨zU w 10 0 4 (nI (Sl (fun x => !dn σ x) op).length), ?_, zU_s, ⟨s', fun x hx => ⟨(s1 x hx).1, by rw [zU_k (by decide)]; exact (s1 x hx).2⟩, s2, s3⟩, fun k i j h1 h2 => by
    rw [zU_ap, if_neg (fun z => h2 ⟨z.1, z.2.2⟩)]; exact z3 k i j h1⟩
  unfold fX8_sweep fX2_takeOutDone
  rw [hK]
  have e2 : fX2_takeOutDone_4 K zN (0 : Int32) (0 : Int32) σ = some (nI op - nI (Sl (fun x => !dn σ x) op).length, zU w 10 0 4 (nI (Sl (fun x => !dn σ x) op).length)) := by
    refine Eq.trans e1 ?_
    rw [← hK]
    dsimp only
    rw [z3 10 0 4 (by decide), a6, zB_s, zB_s]
  rw [e2, zCi_s]
theorem e_sweepM {op : Nat} {σ : zS} (hop : op ≤ 3) (h14 : σ 21 0 14 = nI op) : ∃ σ', fX9_sweep σ = some (nI op - nI (Sl (fun x => !dn σ x) op).length, σ') ∧ σ' 21 0 14 = nI (Sl (fun x => !dn σ x) op).length ∧ (∀ r q, (Sl (fun x => !dn σ x) op)[r]? = some q → Mv σ' σ r q) ∧ ∀ k i j, ¬ (27 ≤ k ∧ k ≤ 30) → ¬ (k = 21 ∧ j = 14) → σ' k i j = σ k i j := by
  generalize hK : (fun (u1_4_1 : Int32) (y4_1 : zS) => (zB ((y4_1 21 0 14) - u1_4_1) (fun x2 => zB (zU y4_1 21 0 14 u1_4_1) (fun s3 => some (x2, s3))) : Option (Int32 × zS))) = K
  obtain ⟨⟨kp, w⟩, ⟨z1, z2, z3, z4⟩, e1⟩ := zloop (β := Nat × zS) (L := fun t i b => fX9_sweep_4 K t (nI b.1) (nI i) b.2)
    (fun i b => b.1 = (Sl (fun x => !dn σ x) i).length ∧ (∀ r q, (Sl (fun x => !dn σ x) i)[r]? = some q → Mv b.2 σ r q) ∧ (∀ x, i ≤ x → x < 3 → Mv b.2 σ x x) ∧ ∀ k i j, ¬ (27 ≤ k ∧ k ≤ 30) → b.2 k i j = σ k i j) op (fun b => K (nI b.1) b.2) (by
    rintro t i ⟨kp, w⟩ hi ⟨z1, z2, z3, z4⟩
    dsimp only at z1 z2 z3 z4
    have hkp : kp ≤ i := by rw [z1]; exact Sl_len _ i
    have hdn : dn w i = dn σ i := Mv_dn (z3 i (Nat.le_refl _) (by omega))
    have hst : fX9_sweep_4 K (t + 1) (nI kp) (nI i) w = if dn σ i = true then fX9_sweep_4 K t (nI kp) (nI (i + 1)) w else zCv (fX9_moves (nI kp) (nI i) w) (fun s7 => fX9_sweep_4 K t (nI (kp + 1)) (nI (i + 1)) s7) := by
      show (if w 21 0 14 ≤ nI i then _ else _) = _
      rw [z4 21 0 14 (by omega), h14, if_neg (nI_ge hi (by omega)), e_isDoneM (by omega), zCi_s, hdn]
      simp only [zB_s, nI_1]
      cases dn σ i <;> rfl
    dsimp only
    rw [hst]
    cases hd : dn σ i with
    | true =>
      refine ⟨(kp, w), ⟨?_, ?_, fun x h1 h2 => z3 x (by omega) h2, z4⟩, by rw [if_pos rfl]⟩
      · rw [Sl_s, if_neg (by rw [hd]; decide)]; exact z1
      · rw [Sl_s, if_neg (by rw [hd]; decide)]; exact z2
    | false =>
      obtain ⟨w', ew, m1, m2, f1⟩ := e_moves (w := w) (r := kp) (q := i) (by omega) (by omega)
      refine ⟨(kp + 1, w'), ⟨?_, ?_, ?_, ?_⟩, by rw [if_neg (by decide), ew, zCv_s]⟩
      · rw [Sl_s, if_pos (by rw [hd]; rfl), List.length_append, ← z1]; rfl
      · intro r q hr
        rw [Sl_s, if_pos (by rw [hd]; rfl)] at hr
        dsimp only
        rcases Nat.lt_or_ge r kp with h1 | h1
        · rw [List.getElem?_append_left (by omega)] at hr
          exact (m2 r (by omega) (by omega)).t (z2 r q hr)
        · rw [List.getElem?_append_right (by omega)] at hr
          have hr2 := (get_in hr).1
          have : r = kp := by rw [List.length_singleton] at hr2; omega
          subst this
          rw [← z1, Nat.sub_self] at hr
          have hq : i = q := by simpa using hr
          subst hq
          exact m1.t (z3 i (Nat.le_refl _) (by omega))
      · intro x h1 h2
        exact (m2 x h2 (by omega)).t (z3 x (by omega) h2)
      · intro k i' j hk
        dsimp only
        rw [f1 k i' j hk]; exact z4 k i' j hk) (by
    rintro t ⟨kp, w⟩ ⟨z1, _, _, z4⟩
    dsimp only at z4
    show (if w 21 0 14 ≤ nI op then _ else _) = _
    rw [z4 21 0 14 (by omega), h14, if_pos (nI_le (Nat.le_refl _) (by omega))]) op 0 (0, σ) zN (by omega) ⟨rfl, fun r q hr => absurd hr (by show ¬ ([] : List Nat)[r]? = some q; simp), fun _ _ _ => ⟨rfl, rfl, fun _ _ => rfl, fun _ _ => rfl⟩, fun _ _ _ _ => rfl⟩ (Nat.lt_of_le_of_lt hop (by decide))
  dsimp only at z1 z2 z3 z4 e1
  subst z1
  refine ⟨zU w 21 0 14 (nI (Sl (fun x => !dn σ x) op).length), ?_, zU_s, fun r q hr => ?_, fun k i j h1 h2 => by
    rw [zU_ap, if_neg (fun z => h2 ⟨z.1, z.2.2⟩)]; exact z4 k i j h1⟩
  · unfold fX9_sweep
    rw [hK]
    refine Eq.trans e1 ?_
    rw [← hK]
    dsimp only
    rw [z4 21 0 14 (by omega), h14, zB_s, zB_s]
  · obtain ⟨m1, m2, m3, m4⟩ := z2 r q hr
    exact ⟨by rw [zU_k (by decide)]; exact m1, by rw [zU_k (by decide)]; exact m2, fun j hj => by rw [zU_k (by decide)]; exact m3 j hj, fun i hi => by rw [zU_k (by decide)]; exact m4 i hi⟩
theorem c_sweep (σ : zS) (h : J3 σ) : Cs3 σ fX8_sweep fX9_sweep := by
  obtain ⟨p, op, s, hI⟩ := id h
  obtain ⟨a1, a2, a3, a4, a5, a6, a7, a8, a9, a10, a11⟩ := id hI
  obtain ⟨σ1, e1, f10, ⟨s', s1, s2, s3⟩, f1⟩ := e_sweepC hI
  have hdn : ∀ x, dn σ1 x = dn σ x := fun x => by
    unfold dn
    rw [f1 28 0 x (by decide) (by omega), show σ1 29 0 = σ 29 0 from funext fun j => f1 29 0 j (by decide) (by omega)]
  have hdf : (fun x => !dn σ1 x) = (fun x => !dn σ x) := funext fun x => by rw [hdn x]
  obtain ⟨σ2, e2, f14, m2, f2⟩ := e_sweepM (σ := σ1) a5 (by rw [f1 _ _ _ (by decide) (by omega)]; exact a7)
  rw [hdf] at e2 f14 m2
  have hln := Sl_len (fun x => !dn σ x) op
  refine ⟨_, σ1, σ2, e1, e2, ⟨p, (Sl (fun x => !dn σ x) op).length, s', a1, ?_, ?_, ?_, by omega, ?_, f14, ?_, ?_, s2, ?_⟩, ?_⟩
  · rw [f2 _ _ _ (by omega) (by omega), f1 _ _ _ (by decide) (by omega)]; exact a2
  · rw [f2 _ _ _ (by omega) (by omega), f1 _ _ _ (by decide) (by omega)]; exact a3
  · rw [f2 _ _ _ (by omega) (by omega), f1 _ _ _ (by decide) (by omega), f2 _ _ _ (by omega) (by omega), f1 _ _ _ (by decide) (by omega)]; exact a4
  · rw [f2 _ _ _ (by omega) (by omega)]; exact f10
  · rw [f2 _ _ _ (by omega) (by omega), f1 _ _ _ (by decide) (by omega), f2 _ _ _ (by omega) (by omega), f1 _ _ _ (by decide) (by omega)]; exact a8
  · intro x hx; rw [f2 _ _ _ (by omega) (by omega)]; exact s1 x hx
  · intro r hr
    obtain ⟨q, hq⟩ : ∃ q, (Sl (fun x => !dn σ x) op)[r]? = some q := ⟨_, List.getElem?_eq_getElem hr⟩
    have hqo := (Sl_mem.1 (get_in hq).2).1
    rw [s3 r q hq]
    have mm : Mv σ1 σ q q := ⟨f1 _ _ _ (by decide) (by omega), f1 _ _ _ (by decide) (by omega), fun _ _ => f1 _ _ _ (by decide) (by omega), fun _ _ => f1 _ _ _ (by decide) (by omega)⟩
    have hb : ∀ k i j, k < 19 → 13 ≤ k → σ2 k i j = σ k i j := fun k i j h1 h2 => by rw [f2 k i j (by omega) (by omega), f1 k i j (by omega) (by omega)]
    exact (a11 q hqo).mv ((m2 r q hq).t mm) (hb _ _ _ (by decide) (by decide)) (hb _ _ _ (by decide) (by decide)) (fun _ _ _ => hb _ _ _ (by decide) (by decide)) (fun _ _ _ _ => hb _ _ _ (by decide) (by decide))
  · intro k i j hk
    rw [f2 k i j (by omega) (by omega), f1 k i j (by omega) (by omega)]
