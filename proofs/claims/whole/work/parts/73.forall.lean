/-! forAll -/
theorem zfindS (L : Nat → Nat → zS → Option (Int32 × zS)) (I : zS → Prop) (f : Nat → Int) (N : Nat) (hs : ∀ n i b, i < N → I b → ∃ b', I b' ∧ L (n + 1) i b = if f i = 0 then L n (i + 1) b' else some (nI i, b')) (he : ∀ n b, I b → L (n + 1) N b = some (-9, b)) : ∀ (d i n : Nat) (b : zS), i + d = N → (∀ j, j < i → f j = 0) → I b → d < n → ∃ b', I b' ∧ L n i b = some (if fl f N < N then nI (fl f N) else -9, b') := by
  intro d
  induction d with
  | zero =>
    intro i n b hi h0 hb hn
    obtain ⟨n, rfl⟩ : ∃ m, n = m + 1 := ⟨n - 1, by omega⟩
    have : i = N := by omega
    subst this
    exact ⟨b, hb, by rw [fl_u (Nat.le_refl _) h0 (fun z => absurd z (by omega)), if_neg (by omega), he n b hb]⟩
  | succ d ih =>
    intro i n b hi h0 hb hn
    obtain ⟨n, rfl⟩ : ∃ m, n = m + 1 := ⟨n - 1, by omega⟩
    obtain ⟨b', hb', e⟩ := hs n i b (by omega) hb
    by_cases hf : f i = 0
    · obtain ⟨b2, h2, e2⟩ := ih (i + 1) n b' (by omega) (fun j hj => by
        by_cases h : j < i
        · exact h0 j h
        · have : j = i := by omega
          rw [this]; exact hf) hb' (by omega)
      exact ⟨b2, h2, by rw [e, if_pos hf, e2]⟩
    · exact ⟨b', hb', by rw [e, if_neg hf, fl_u (show i ≤ N by omega) h0 (fun _ => hf), if_pos (by omega)]⟩
theorem nodes_ex {P : Nat → (Nat → Bool) → (Nat → Nat → Int) → Prop} (h : ∀ j, j < 4 → ∃ led M, P j led M) : ∃ (LD : Nat → Nat → Bool) (MM : Nat → Nat → Nat → Int), ∀ j, j < 4 → P j (LD j) (MM j) := by
  have h1 : ∀ j, ∃ q : (Nat → Bool) × (Nat → Nat → Int), j < 4 → P j q.1 q.2 := by
    intro j
    by_cases hj : j < 4
    · obtain ⟨led, M, hp⟩ := h j hj; exact ⟨(led, M), fun _ => hp⟩
    · exact ⟨(fun _ => false, fun _ _ => 0), fun z => absurd z hj⟩
  obtain ⟨f, hf⟩ := Classical.axiomOfChoice h1
  exact ⟨fun j => (f j).1, fun j => (f j).2, fun j hj => hf j hj⟩
theorem e_countMixes {p h : Nat} {σ : zS} (hp : pp p) (h9 : σ 9 0 0 = nI p) (hh : h ≤ 5) : fX2_countMixes (nI h) σ = some (nI (p ^ h), σ) := by
  obtain ⟨b, hb, e⟩ := zloop (β := Nat) (L := fun t r b => fX2_countMixes_4 (nI h) (fun u y => some (u, y)) t (nI b) (nI r) σ) (fun r b => b = p ^ r) h (fun b => some (nI b, σ)) (by
    rintro t r b hr rfl
    refine ⟨p ^ r * p, rfl, ?_⟩
    show (if nI h ≤ nI r then _ else _) = _
    rw [if_neg (nI_ge hr (by omega)), if_neg (lg5 (by omega)), h9, nI_mu, zB_s, zB_s, nI_1]) (by
    rintro t b _
    show (if nI h ≤ nI h then _ else _) = _
    rw [if_pos (nI_le (Nat.le_refl _) (by omega))]) h 0 1 zN (by omega) rfl (Nat.lt_of_le_of_lt hh (by decide))
  rw [hb] at e
  exact e
section FA
variable {p n a : Nat} {LD : Nat → Nat → Bool} {MM : Nat → Nat → Nat → Int}
/-- the least mix of a that is new to b, as a power's exponent -/
def lsF (p a : Nat) (LD : Nat → Nat → Bool) (MM : Nat → Nat → Nat → Int) (b : Nat) : Nat := lsN p (LD a) (MM a) (LD b) (MM b)
/-- whether b can be raised by a -/
def rsF (p a : Nat) (LD : Nat → Nat → Bool) (MM : Nat → Nat → Nat → Int) (b : Nat) : Bool := decide (b ≠ a) && decide (lsF p a LD MM b < (Sl (LD a) 5).length)
def alq (p a : Nat) (LD : Nat → Nat → Bool) (MM : Nat → Nat → Nat → Int) (m b : Nat) : Bool := !rsF p a LD MM b || isN p (LD b) (MM b) (mv p (MM a) (Sl (LD a) 5) m)
def alF (p a : Nat) (LD : Nat → Nat → Bool) (MM : Nat → Nat → Nat → Int) (m : Nat) : Int := if fl (fun b => if alq p a LD MM m b = true then 0 else 1) 4 < 4 then 0 else 1
theorem alF_0 {m b : Nat} (hb : b < 4) (h : rsF p a LD MM b = true) (h2 : isN p (LD b) (MM b) (mv p (MM a) (Sl (LD a) 5) m) = false) : alF p a LD MM m = 0 := by
  unfold alF
  rcases Nat.lt_or_ge (fl (fun b => if alq p a LD MM m b = true then 0 else 1) 4) 4 with z | z
  · rw [if_pos z]
  · have := fl_0 (fun b => if alq p a LD MM m b = true then 0 else 1) 4 b (by omega)
    have hq : alq p a LD MM m b = false := by unfold alq; rw [h, h2]; rfl
    rw [hq, if_neg (by decide)] at this
    exact absurd this (by decide)
/-- the greatest of the least, so far -/
def acP (p a : Nat) (LD : Nat → Nat → Bool) (MM : Nat → Nat → Nat → Int) (i : Nat) (z : Int32) : Prop := (z = -9 ∧ ∀ b, b < i → rsF p a LD MM b = false) ∨ ∃ m, m ≤ 16807 ∧ z = nI m ∧ ∃ b, b < i ∧ rsF p a LD MM b = true ∧ m = p ^ lsF p a LD MM b
theorem n9 {m : Nat} (h : m ≤ 16807) : ¬ nI m = (-9 : Int32) := by
  rw [show (-9 : Int32) = iI (-9) from rfl, iI_n, iI_inj (by omega) (by omega) (by decide) (by decide)]; omega
theorem n9l {m : Nat} (h : m ≤ 16807) : ¬ nI m < (-9 : Int32) := by
  rw [show (-9 : Int32) = iI (-9) from rfl, iI_n, Int32.lt_iff_toInt_lt, iI_toInt (by omega) (by omega), iI_toInt (by omega) (by omega)]; omega
theorem n9g {m : Nat} (h : m ≤ 16807) : (-9 : Int32) < nI m := by
  rw [show (-9 : Int32) = iI (-9) from rfl, iI_n, Int32.lt_iff_toInt_lt, iI_toInt (by omega) (by omega), iI_toInt (by omega) (by omega)]; omega
theorem ac_0 {i : Nat} {z : Int32} {σ : zS} (h : acP p a LD MM i z) (hr : rsF p a LD MM i = false) : ∃ z', fJ9_max_7cf53 z (-9) σ = some (z', σ) ∧ acP p a LD MM (i + 1) z' := by
  unfold fJ9_max_7cf53
  rcases h with ⟨rfl, h⟩ | ⟨m, m1, rfl, b, b1, b2, b3⟩
  · refine ⟨-9, by rw [if_neg (by decide)], Or.inl ⟨rfl, fun b hb => ?_⟩⟩
    rcases (show b < i ∨ b = i by omega) with q | rfl
    · exact h b q
    · exact hr
  · exact ⟨nI m, by rw [if_neg (n9l m1)], Or.inr ⟨m, m1, rfl, b, by omega, b2, b3⟩⟩
theorem ac_1 {i : Nat} {z : Int32} {σ : zS} (hp : pp p) (h : acP p a LD MM i z) (hr : rsF p a LD MM i = true) : ∃ z', fJ9_max_7cf53 z (nI (p ^ lsF p a LD MM i)) σ = some (z', σ) ∧ acP p a LD MM (i + 1) z' := by
  have hl : lsF p a LD MM i ≤ 5 := by
    unfold rsF at hr
    rw [Bool.and_eq_true, decide_eq_true_eq, decide_eq_true_eq] at hr
    have := Sl_len (LD a) 5
    omega
  have hb := p_lt hp hl
  unfold fJ9_max_7cf53
  rcases h with ⟨rfl, h⟩ | ⟨m, m1, rfl, b, b1, b2, b3⟩
  · exact ⟨nI (p ^ lsF p a LD MM i), by rw [if_pos (n9g hb)], Or.inr ⟨_, hb, rfl, i, by omega, hr, rfl⟩⟩
  · by_cases hlt : m < p ^ lsF p a LD MM i
    · exact ⟨nI (p ^ lsF p a LD MM i), by rw [if_pos (by rw [zn_lt (by omega) (by omega)]; exact hlt)], Or.inr ⟨_, hb, rfl, i, by omega, hr, rfl⟩⟩
    · exact ⟨nI m, by rw [if_neg (by rw [zn_lt (by omega) (by omega)]; exact hlt)], Or.inr ⟨m, m1, rfl, b, by omega, b2, b3⟩⟩
theorem e_raisesAll {g m : Nat} {σ : zS} (hp : pp p) (h9 : σ 9 0 0 = nI p) (hg : g < 3) (ha : a < 4) (hR : ∀ j, j < 4 → Rf p n (LD j) (MM j) ∧ cN σ (4 * g + j) (LD j) (MM j)) (h12 : ∀ b, b < 4 → σ 12 0 b = if rsF p a LD MM b = true then 1 else 0) (h60 : rV σ 60 (mv p (MM a) (Sl (LD a) 5) m)) : fX2_raisesAll g σ = some (if alF p a LD MM m = 0 then 0 else 1, σ) := by
  have hpb := hp.b
  have := zfind (L := fun t i => fX2_raisesAll_2 g (fun y => some ((1 : Int32), y)) t (nI i) σ) (fun b => if alq p a LD MM m b = true then 0 else 1) 4 (fun i => some (0, σ)) (some (1, σ)) (by
    intro t i hi
    obtain ⟨r1, r2⟩ := hR i hi
    show (if (4 : Int32) ≤ nI i then _ else _) = _
    rw [if_neg (lg4 hi), zIx_nI hi (by decide), nI_clamp (by omega), h12 i hi]
    unfold alq
    cases hrs : rsF p a LD MM i with
    | false => rw [if_pos (by decide), zB_s, nI_1]; rfl
    | true =>
      rw [if_pos rfl, if_neg (by decide), zIx_nI hi (by decide), zB_s, zGd_t (by omega), e_newLead hp h9 (by omega) r1 r2 (mv_V (by omega) (hR a ha).1 m) h60, zCi_s, zB_s, nI_1]
      unfold isN
      by_cases hN : fl (lo p (Sl (LD i) 5) (MM i) (mv p (MM a) (Sl (LD a) 5) m)) 5 < 5
      · rw [if_pos hN, if_pos (by rw [zle_lt]; exact n0 (by omega)), decide_eq_true hN]; rfl
      · rw [if_neg hN, if_neg (by decide), decide_eq_false hN]; rfl) (by
    intro t
    show (if (4 : Int32) ≤ nI 4 then _ else _) = _
    rw [if_pos (by decide)]) 4 0 zN (by omega) (fun j hj => absurd hj (by omega)) (by decide)
  refine Eq.trans this ?_
  unfold alF
  split
  · rfl
  · rfl
theorem e_forAllC {g : Nat} {σ : zS} (hp : pp p) (h9 : σ 9 0 0 = nI p) (hg : g < 3) (ha : a < 4) (hR : ∀ j, j < 4 → Rf p n (LD j) (MM j) ∧ cN σ (4 * g + j) (LD j) (MM j)) : ∃ σ', fX2_leastNewForAll g (nI a) σ = some (if (∃ b, b < 4 ∧ rsF p a LD MM b = true) ∧ fl (alF p a LD MM) (p ^ (Sl (LD a) 5).length) < p ^ (Sl (LD a) 5).length then nI (fl (alF p a LD MM) (p ^ (Sl (LD a) 5).length)) else -9, σ') ∧ ∀ k i j, k ≠ 12 → ¬ (k = 18 ∧ i = 60) → σ' k i j = σ k i j := by
  have hpb := hp.b
  have hlen := Sl_len (LD a) 5
  have hpl := p_lt hp hlen
  obtain ⟨ra, ca⟩ := hR a ha
  generalize hK : (fun (u4_14_4 : Int32) (y14_4 : zS) => (if u4_14_4 = (-9 : Int32) then some ((-9 : Int32), y14_4) else zCi (fX3_height (4 * g + a) y14_4) (fun x6 s5 => zCi (fX2_countMixes x6 s5) (fun x8 s7 => fX2_leastNewForAll_103 g (4 * g + a) x8 (fun (y103_9 : zS) => (some ((-9 : Int32), y103_9) : Option (Int32 × zS))) zN u4_14_4 s7)) : Option (Int32 × zS))) = K
  have hcN : ∀ w : zS, (∀ k i j, k ≠ 12 → ¬ (k = 18 ∧ i = 60) → w k i j = σ k i j) → ∀ j, j < 4 → Rf p n (LD j) (MM j) ∧ cN w (4 * g + j) (LD j) (MM j) := fun w hf j hj => ⟨(hR j hj).1, (hR j hj).2.c (fun q _ => hf _ _ _ (by decide) (by omega)) (fun q _ _ c _ => hf _ _ _ (by decide) (by omega))⟩
  obtain ⟨⟨z, w⟩, ⟨z1, z2, z3⟩, e1⟩ := zloop (β := Int32 × zS) (L := fun t i b => fX2_leastNewForAll_14 g (nI a) (4 * g + a) K t b.1 (nI i) b.2) (fun i b => acP p a LD MM i b.1 ∧ (∀ q, q < i → b.2 12 0 q = if rsF p a LD MM q = true then 1 else 0) ∧ ∀ k i j, k ≠ 12 → ¬ (k = 18 ∧ i = 60) → b.2 k i j = σ k i j) 4 (fun b => K b.1 b.2) (by
    rintro t i ⟨z, w⟩ hi ⟨z1, z2, z3⟩
    dsimp only at z1 z2 z3
    have hup : ∀ v : Int32, (v = if rsF p a LD MM i = true then 1 else 0) → (∀ q, q < i + 1 → (zU w 12 0 i v) 12 0 q = if rsF p a LD MM q = true then 1 else 0) ∧ ∀ k i' j, k ≠ 12 → ¬ (k = 18 ∧ i' = 60) → (zU w 12 0 i v) k i' j = σ k i' j := by
      intro v hv
      refine ⟨fun q hq => ?_, fun k i' j h1 h2 => by rw [zU_k h1]; exact z3 k i' j h1 h2⟩
      by_cases hqi : q = i
      · subst hqi; rw [zU_s, hv]
      · rw [zU_j hqi]; exact z2 q (by omega)
    by_cases hia : i = a
    · have hrs : rsF p a LD MM i = false := by unfold rsF; rw [decide_eq_false (fun z => z hia)]; rfl
      obtain ⟨z', ez, hz'⟩ := ac_0 (σ := zU w 12 0 i 0) z1 hrs
      obtain ⟨u1, u2⟩ := hup 0 (by rw [hrs]; rfl)
      refine ⟨(z', zU w 12 0 i 0), ⟨hz', u1, u2⟩, ?_⟩
      show (if (4 : Int32) ≤ nI i then _ else _) = _
      rw [if_neg (lg4 hi), hia, if_pos rfl, if_pos rfl, ← hia, zIx_nI hi (by decide), nI_clamp (by omega), nar0, zB_s, ez, zCi_s, zB_s, nI_1]
    · obtain ⟨ri, ci⟩ := hcN w z3 i hi
      have hln := e_leastNew (σ := w) (nd := 4 * g + a) (n2 := 4 * g + i) hp (by rw [z3 9 0 0 (by decide) (by omega)]; exact h9) (by omega) (by omega) ra (hcN w z3 a ha).2 ri ci
      have hst : ∀ y : Int32, fX2_leastNew (4 * g + a) (4 * g + i) w = some (y, w) → fX2_leastNewForAll_14 g (nI a) (4 * g + a) K (t + 1) z (nI i) w = if y = -9 then zCi (fJ9_max_7cf53 z y (zU w 12 0 i 0)) (fun x25 s24 => fX2_leastNewForAll_14 g (nI a) (4 * g + a) K t x25 (nI (i + 1)) s24) else zCi (fJ9_max_7cf53 z y (zU w 12 0 i 1)) (fun x25 s24 => fX2_leastNewForAll_14 g (nI a) (4 * g + a) K t x25 (nI (i + 1)) s24) := by
        intro y hy
        show (if (4 : Int32) ≤ nI i then _ else _) = _
        rw [if_neg (lg4 hi), if_neg (by rw [zn_eq (by omega) (by omega)]; exact hia), zIx_nI hi (by decide), zB_s, nI_clamp (by omega), zGd_t (by omega), hy, zCi_s, zIx_nI hi (by decide), zIx_nI hi (by decide), nar0, nar1, zB_s, zB_s]
        simp only [zB_s, nI_1]
      have hls : lsN p (LD a) (MM a) (LD i) (MM i) = lsF p a LD MM i := rfl
      by_cases hlt : lsF p a LD MM i < (Sl (LD a) 5).length
      · have hrs : rsF p a LD MM i = true := by unfold rsF; rw [decide_eq_true hia, decide_eq_true hlt]; rfl
        rw [hls, if_pos hlt] at hln
        obtain ⟨z', ez, hz'⟩ := ac_1 (σ := zU w 12 0 i 1) hp z1 hrs
        obtain ⟨u1, u2⟩ := hup 1 (by rw [hrs]; rfl)
        refine ⟨(z', zU w 12 0 i 1), ⟨hz', u1, u2⟩, ?_⟩
        dsimp only
        rw [hst _ hln, if_neg (n9 (p_lt hp (by omega))), ez, zCi_s]
      · have hrs : rsF p a LD MM i = false := by unfold rsF; rw [decide_eq_false hlt, Bool.and_false]
        rw [hls, if_neg hlt] at hln
        obtain ⟨z', ez, hz'⟩ := ac_0 (σ := zU w 12 0 i 0) z1 hrs
        obtain ⟨u1, u2⟩ := hup 0 (by rw [hrs]; rfl)
        refine ⟨(z', zU w 12 0 i 0), ⟨hz', u1, u2⟩, ?_⟩
        dsimp only
        rw [hst _ hln, if_pos rfl, ez, zCi_s]) (by
    rintro t ⟨z, w⟩ _
    show (if (4 : Int32) ≤ nI 4 then _ else _) = _
    rw [if_pos (by decide)]) 4 0 (-9, σ) zN (by decide) ⟨Or.inl ⟨rfl, fun b hb => absurd hb (by omega)⟩, fun q hq => absurd hq (by omega), fun _ _ _ _ _ => rfl⟩ (by decide)
  have u : fX2_leastNewForAll g (nI a) σ = K z w := by
    unfold fX2_leastNewForAll
    rw [zIx_nI ha (by decide), nI_clamp (by omega), zB_s, zGd_t (by omega), hK]
    exact e1
  dsimp only at z1 z2 z3
  rcases z1 with ⟨rfl, hno⟩ | ⟨m, m1, rfl, b, b1, b2, b3⟩
  · refine ⟨w, ?_, z3⟩
    rw [u, ← hK, if_neg (fun q => by
      obtain ⟨⟨b, hb, hr⟩, _⟩ := q
      rw [hno b hb] at hr; exact absurd hr (by decide))]
    rfl
  · obtain ⟨b', hb', e2⟩ := zfindS (L := fun t i y => fX2_leastNewForAll_103 g (4 * g + a) (nI (p ^ (Sl (LD a) 5).length)) (fun (y103_9 : zS) => (some ((-9 : Int32), y103_9) : Option (Int32 × zS))) t (nI i) y) (fun y => (∀ q, q < 4 → y 12 0 q = if rsF p a LD MM q = true then 1 else 0) ∧ ∀ k i j, k ≠ 12 → ¬ (k = 18 ∧ i = 60) → y k i j = σ k i j) (alF p a LD MM) (p ^ (Sl (LD a) 5).length) (by
      rintro t i y hi ⟨y1, y2⟩
      have h9y : y 9 0 0 = nI p := by rw [y2 9 0 0 (by decide) (by omega)]; exact h9
      obtain ⟨y', ey, my, fy⟩ := e_mixInto (σ := y) (r := 60) (nd := 4 * g + a) (m := i) hp h9y (by omega) ra (hcN y y2 a ha).2 (by omega) (by omega)
      have y2' : ∀ k i j, k ≠ 12 → ¬ (k = 18 ∧ i = 60) → y' k i j = σ k i j := fun k i j h1 h2 => by rw [fy k i j h2]; exact y2 k i j h1 h2
      have y1' : ∀ q, q < 4 → y' 12 0 q = if rsF p a LD MM q = true then 1 else 0 := fun q hq => by rw [fy 12 0 q (by omega)]; exact y1 q hq
      refine ⟨y', ⟨y1', y2'⟩, ?_⟩
      show (if nI (p ^ (Sl (LD a) 5).length) ≤ nI i then _ else _) = _
      rw [if_neg (nI_ge hi (by omega)), ey, zCv_s, e_raisesAll (a := a) (m := i) hp (by rw [fy 9 0 0 (by omega)]; exact h9y) hg ha (hcN y' y2') y1' my, zCi_s, zB_s, nI_1]
      by_cases h0 : alF p a LD MM i = 0
      · rw [if_pos h0, if_pos h0, if_pos rfl]
      · rw [if_neg h0, if_neg h0, if_neg (by decide)]) (by
      rintro t y _
      show (if nI (p ^ (Sl (LD a) 5).length) ≤ nI (p ^ (Sl (LD a) 5).length) then _ else _) = _
      rw [if_pos (nI_le (Nat.le_refl _) (by omega))]) (p ^ (Sl (LD a) 5).length - m) m zN w (by
        have hr := b2
        unfold rsF at hr
        rw [Bool.and_eq_true, decide_eq_true_eq, decide_eq_true_eq] at hr
        have := Nat.pow_le_pow_right (show 0 < p by omega) (Nat.le_of_lt hr.2)
        omega) (fun i hi => by
        subst b3
        exact alF_0 b1 b2 (lsN_lo hp hi)) ⟨z2, z3⟩ (Nat.lt_of_le_of_lt (show p ^ (Sl (LD a) 5).length - m ≤ 16807 by omega) (by decide))
    refine ⟨b', ?_, hb'.2⟩
    rw [u, ← hK]
    dsimp only
    rw [if_neg (n9 m1), e_height (hcN w z3 a ha).2, zCi_s, e_countMixes hp (by rw [z3 9 0 0 (by decide) (by omega)]; exact h9) hlen, zCi_s, e2]
    by_cases hq : fl (alF p a LD MM) (p ^ (Sl (LD a) 5).length) < p ^ (Sl (LD a) 5).length
    · rw [if_pos hq, if_pos ⟨⟨b, b1, b2⟩, hq⟩]
    · rw [if_neg hq, if_neg (fun z => hq z.2)]
end FA
