/-! the class's nodes -/
theorem lg5 {i : Nat} (h : i < 5) : ¬ (5 : Int32) ≤ nI i := nI_ge h (by decide)
theorem lg8 {i : Nat} (h : i < 8) : ¬ (8 : Int32) ≤ nI i := nI_ge h (by decide)
theorem lg4 {i : Nat} (h : i < 4) : ¬ (4 : Int32) ≤ nI i := nI_ge h (by decide)
theorem lg3 {i : Nat} (h : i < 3) : ¬ (3 : Int32) ≤ nI i := nI_ge h (by decide)
theorem zfind {R : Type} (L : Nat → Nat → Option R) (f : Nat → Int) (N : Nat) (hit : Nat → Option R) (out : Option R) (hs : ∀ n i, i < N → L (n + 1) i = if f i = 0 then L n (i + 1) else hit i) (he : ∀ n, L (n + 1) N = out) : ∀ (d i n : Nat), i + d = N → (∀ j, j < i → f j = 0) → d < n → L n i = if fl f N < N then hit (fl f N) else out := by
  intro d
  induction d with
  | zero =>
    intro i n hi h0 hn
    obtain ⟨n, rfl⟩ : ∃ m, n = m + 1 := ⟨n - 1, by omega⟩
    have : i = N := by omega
    subst this
    rw [fl_u (Nat.le_refl _) h0 (fun z => absurd z (by omega)), if_neg (by omega), he]
  | succ d ih =>
    intro i n hi h0 hn
    obtain ⟨n, rfl⟩ : ∃ m, n = m + 1 := ⟨n - 1, by omega⟩
    rw [hs n i (by omega)]
    by_cases hf : f i = 0
    · rw [if_pos hf, ih (i + 1) n (by omega) (fun j hj => by
        by_cases h : j < i
        · exact h0 j h
        · have : j = i := by omega
          rw [this]; exact hf) (by omega)]
    · rw [if_neg hf, fl_u (show i ≤ N by omega) h0 (fun _ => hf), if_pos (by omega)]
def cN (σ : zS) (nd : Nat) (led : Nat → Bool) (M : Nat → Nat → Int) : Prop := (∀ q, q < 5 → σ 17 nd q = if led q = true then 1 else 0) ∧ ∀ q, q < 5 → led q = true → ∀ c, c < 8 → σ 18 (5 * nd + q) c = iI (M q c)
def rV (σ : zS) (r : Nat) (v : Nat → Int) : Prop := ∀ c, c < 8 → σ 18 r c = iI (v c)
theorem led_z (b : Bool) : ((if b = true then (1 : Int32) else 0) = 0) = (b = false) := by cases b <;> simp
theorem cN.c {σ σ' : zS} {nd : Nat} {led : Nat → Bool} {M : Nat → Nat → Int} (h : cN σ nd led M) (h1 : ∀ j, j < 5 → σ' 17 nd j = σ 17 nd j) (h2 : ∀ q, q < 5 → led q = true → ∀ c, c < 8 → σ' 18 (5 * nd + q) c = σ 18 (5 * nd + q) c) : cN σ' nd led M := ⟨fun q hq => by rw [h1 q hq]; exact h.1 q hq, fun q hq hl c hc => by rw [h2 q hq hl c hc]; exact h.2 q hq hl c hc⟩
section CN
variable {p n nd : Nat} {led : Nat → Bool} {M : Nat → Nat → Int} {v : Nat → Int} {σ : zS} {r : Nat}
theorem e_height (h : cN σ nd led M) : fX3_height nd σ = some (nI (Sl led 5).length, σ) := by
  obtain ⟨b, hb, e⟩ := zloop (β := Nat) (L := fun n i b => fX3_height_4 nd (fun u y => some (u, y)) n (nI b) (nI i) σ) (fun i b => b = (Sl led i).length) 5 (fun b => some (nI b, σ)) (by
    rintro n i b hi rfl
    by_cases hl : led i = true
    · refine ⟨(Sl led i).length + 1, by rw [Sl_s, if_pos hl, List.length_append]; rfl, ?_⟩
      show (if (5 : Int32) ≤ nI i then _ else _) = _
      rw [if_neg (lg5 hi), zIx_nI hi (by decide), nI_clamp (by omega), h.1 i hi, if_pos hl, if_neg (by decide), zB_s, zB_s, nI_1, nI_1]
    · refine ⟨(Sl led i).length, by rw [Sl_s, if_neg hl], ?_⟩
      show (if (5 : Int32) ≤ nI i then _ else _) = _
      rw [if_neg (lg5 hi), zIx_nI hi (by decide), nI_clamp (by omega), h.1 i hi, if_neg hl, if_pos rfl, zB_s, nI_1]) (by
    rintro n b hb
    show (if (5 : Int32) ≤ nI 5 then _ else _) = _
    rw [if_pos (by decide)]) 5 0 0 zN (by decide) rfl (by decide)
  rw [hb] at e
  exact e
theorem lo_bd (hp : pp p) (hR : Rf p n led M) (hv : Vc p n v) (c : Nat) : -1000000 ≤ v c - sm (Sl led 5) (fun q => v q * M q c) ∧ v c - sm (Sl led 5) (fun q => v q * M q c) < 1000000 := by
  obtain ⟨p1, p2⟩ := hp.b
  have hb := sm_b (l := Sl led 5) (f := fun q => v q * M q c) (B := 49) (fun q hq => by
    obtain ⟨q1, q2⟩ := Sl_mem.1 hq
    have h1 := hv.1 q
    have h2 := (hR q q1 q2).2.1 c
    refine ⟨Int.mul_nonneg h1.1 h2.1, ?_⟩
    calc v q * M q c ≤ 7 * M q c := Int.mul_le_mul_of_nonneg_right (by omega) h2.1
      _ ≤ 49 := by omega)
  have h1 := Sl_len led 5
  have h2 : ((Sl led 5).length : Int) * 49 ≤ 5 * 49 := Int.mul_le_mul_of_nonneg_right (by omega) (by decide)
  have h3 := hv.1 c
  omega
theorem e_leftover (hp : pp p) (h9 : σ 9 0 0 = nI p) (hnd : nd < 12) (hR : Rf p n led M) (h : cN σ nd led M) (hv : Vc p n v) (hr : rV σ r v) {c : Nat} (hc : c < 8) : fX3_leftover nd r (nI c) σ = some (iI (lo p (Sl led 5) M v c), σ) := by
  unfold fX3_leftover
  rw [zIx_nI hc (by decide), zB_s, nI_clamp (by omega), hr c hc]
  obtain ⟨b, hb, e⟩ := zloop (β := Int) (L := fun m i z => fX3_leftover_8 nd r (nI c) (fun u y => zCi (fX0_left u y) (fun x5 s4 => some (x5, s4))) m (iI z) (nI i) σ) (fun i z => z = v c - sm (Sl led i) (fun q => v q * M q c)) 5 (fun z => zCi (fX0_left (iI z) σ) (fun x5 s4 => some (x5, s4))) (by
    rintro m i z hi rfl
    by_cases hl : led i = true
    · refine ⟨v c - sm (Sl led i) (fun q => v q * M q c) - v i * M i c, by rw [Sl_s, if_pos hl, sm_app, sm_1]; omega, ?_⟩
      show (if (5 : Int32) ≤ nI i then _ else _) = _
      rw [if_neg (lg5 hi), zIx_nI hi (by decide), nI_clamp (by omega), h.1 i hi, if_pos hl, if_neg (by decide), zIx_nI (show i < 8 by omega) (by decide), zIx_nI hi (by decide), zB_s, zGd_t (by omega), zIx_nI hc (by decide), nI_clamp (show c < 2 ^ 31 by omega), hr i (by omega), h.2 i hi hl c hc, zB_s, zB_s, nI_1, iI_mul, iI_sub]
    · refine ⟨v c - sm (Sl led i) (fun q => v q * M q c), by rw [Sl_s, if_neg hl], ?_⟩
      show (if (5 : Int32) ≤ nI i then _ else _) = _
      rw [if_neg (lg5 hi), zIx_nI hi (by decide), nI_clamp (by omega), h.1 i hi, if_neg hl, if_pos rfl, zB_s, nI_1]) (by
    rintro m z hz
    show (if (5 : Int32) ≤ nI 5 then _ else _) = _
    rw [if_pos (by decide)]) 5 0 (v c) zN (by decide) (by show v c = v c - 0; omega) (by decide)
  obtain ⟨b1, b2⟩ := lo_bd hp hR hv c
  rw [hb, e_left hp h9 b1 b2, zCi_s] at e
  exact e
theorem e_newLead (hp : pp p) (h9 : σ 9 0 0 = nI p) (hnd : nd < 12) (hR : Rf p n led M) (h : cN σ nd led M) (hv : Vc p n v) (hr : rV σ r v) : fX3_newLead nd r σ = some (if fl (lo p (Sl led 5) M v) 5 < 5 then nI (fl (lo p (Sl led 5) M v) 5) else -1, σ) := by
  have := zfind (L := fun m i => fX3_newLead_2 nd r (fun y => some ((-1 : Int32), y)) m (nI i) σ) (lo p (Sl led 5) M v) 5 (fun i => some (nI i, σ)) (some (-1, σ)) (by
    intro m i hi
    show (if (5 : Int32) ≤ nI i then _ else _) = _
    have hb := lo_b (p := p) (M := M) (v := v) (by have := hp.b; omega) (Sl led 5) i
    have := hp.b
    rw [if_neg (lg5 hi), e_leftover hp h9 hnd hR h hv hr (show i < 8 by omega), zCi_s, zB_s, nI_1]
    simp only [iI_z (show -2147483648 ≤ lo p (Sl led 5) M v i by omega) (by omega)]) (by
    intro m
    show (if (5 : Int32) ≤ nI 5 then _ else _) = _
    rw [if_pos (by decide)]) 5 0 zN (by decide) (fun j hj => absurd hj (by omega)) (by decide)
  refine Eq.trans this ?_
  split <;> rfl
theorem e_inverse (hp : pp p) (h9 : σ 9 0 0 = nI p) {w k : Nat} (hw : w < p) (hk : ivP p w k) : fX0_inverse (iI w) σ = some (nI k, σ) := by
  obtain ⟨p1, p2⟩ := hp.b
  obtain ⟨k1, k2, k3, k4⟩ := hk
  have := zfind (L := fun m i => fX0_inverse_2 (iI w) (fun y => some ((0 : Int32), y)) m (nI (i + 1)) σ) (fun i => if ((i + 1) * w) % p = 1 then 1 else 0) (p - 1) (fun i => some (nI (i + 1), σ)) (some (0, σ)) (by
    intro m i hi
    show (if σ 9 0 0 ≤ nI (i + 1) then _ else _) = _
    have hb : (i + 1) * w < 64 := Nat.lt_of_le_of_lt (Nat.mul_le_mul (show i + 1 ≤ 7 by omega) (show w ≤ 7 by omega)) (by decide)
    rw [h9, if_neg (nI_ge (by omega) (by omega)), iI_n (i + 1), iI_mul, e_left hp h9 (by have := Int.natCast_nonneg ((i + 1) * w); rw [← Int.natCast_mul]; omega) (by rw [← Int.natCast_mul]; omega), zCi_s, zB_s]
    rw [← Int.natCast_mul, ← Int.natCast_emod, iI_1, iI_add]
    have hq : (i + 1) * w % p < p := Nat.mod_lt _ (by omega)
    simp only [iI_inj (show -2147483648 ≤ (((i + 1) * w % p : Nat) : Int) by omega) (by omega) (show (-2147483648 : Int) ≤ 1 by decide) (by decide)]
    by_cases h1 : (i + 1) * w % p = 1
    · rw [if_pos h1, h1, if_pos (by decide), if_neg (by decide)]
    · rw [if_neg h1, if_neg (by omega), if_pos rfl, iI_n]; rfl) (by
    intro m
    show (if σ 9 0 0 ≤ nI (p - 1 + 1) then _ else _) = _
    rw [h9, show p - 1 + 1 = p by omega, if_pos (nI_le (Nat.le_refl _) (by omega))]) (p - 1) 0 zN (by omega) (fun j hj => absurd hj (by omega)) (Nat.lt_of_le_of_lt (show p - 1 ≤ 7 by omega) (by decide))
  refine Eq.trans this ?_
  rw [fl_u (i := k - 1) (by omega) (fun j hj => if_neg (k4 (j + 1) (by omega) (by omega))) (fun _ => by rw [show k - 1 + 1 = k by omega, if_pos k3]; decide), if_pos (by omega), show k - 1 + 1 = k by omega]
theorem e_addTimes (hp : pp p) (h9 : σ 9 0 0 = nI p) {r1 r4 : Nat} {t : Int} {u : Nat → Int} (hne : r1 ≠ r4) (hu : rV σ r1 u) (hv : rV σ r4 v) (bu : ∀ c, 0 ≤ u c ∧ u c < p) (bv : ∀ c, 0 ≤ v c ∧ v c < p) (t1 : -7 ≤ t) (t2 : t ≤ 7) : ∃ σ', fX3_addTimes r1 (iI t) r4 σ = some (0, σ') ∧ rV σ' r1 (fun c => (u c + t * v c) % p) ∧ ∀ k i j, ¬ (k = 18 ∧ i = r1) → σ' k i j = σ k i j := by
  obtain ⟨p1, p2⟩ := hp.b
  obtain ⟨w, ⟨h1, h2⟩, e⟩ := zloop (β := zS) (L := fun m i w => fX3_addTimes_3 r1 (iI t) r4 (fun y => some ((0 : Int32), y)) m (nI i) w) (fun i w => rV w r1 (fun c => if c < i then (u c + t * v c) % p else u c) ∧ ∀ k i j, ¬ (k = 18 ∧ i = r1) → w k i j = σ k i j) 8 (fun w => some (0, w)) (by
    rintro m i w hi ⟨h1, h2⟩
    refine ⟨zU w 18 r1 i (iI ((u i + t * v i) % p)), ⟨?_, ?_⟩, ?_⟩
    · intro c hc
      by_cases hci : c = i
      · subst hci; rw [zU_s]; dsimp only; rw [if_pos (by omega)]
      · rw [zU_j hci, h1 c hc]
        dsimp only
        by_cases hlt : c < i
        · rw [if_pos hlt, if_pos (by omega)]
        · rw [if_neg hlt, if_neg (by omega)]
    · intro k i' j hk
      rw [zU_ap, if_neg (fun z => hk ⟨z.1, z.2.1⟩)]; exact h2 k i' j hk
    · show (if (8 : Int32) ≤ nI i then _ else _) = _
      have q1 := bu i
      have q2 := bv i
      have q3 : -49 ≤ t * v i ∧ t * v i ≤ 49 := by
        constructor
        · calc (-49 : Int) ≤ (-7) * v i := by omega
            _ ≤ t * v i := Int.mul_le_mul_of_nonneg_right t1 q2.1
        · calc t * v i ≤ 7 * v i := Int.mul_le_mul_of_nonneg_right t2 q2.1
            _ ≤ 49 := by omega
      rw [if_neg (lg8 hi), zIx_nI hi (by decide), zIx_nI hi (by decide), nI_clamp (by omega), h1 i hi, h2 18 r4 i (fun z => hne z.2.symm), hv i hi]
      dsimp only
      rw [if_neg (Nat.lt_irrefl i), iI_mul, iI_add, e_left hp (by rw [h2 9 0 0 (by omega)]; exact h9) (by omega) (by omega), zCi_s, zIx_nI hi (by decide), zB_s, zB_s, nI_1]) (by
    rintro m w _
    show (if (8 : Int32) ≤ nI 8 then _ else _) = _
    rw [if_pos (by decide)]) 8 0 σ zN (by decide) ⟨fun c hc => hu c hc, fun _ _ _ _ => rfl⟩ (by decide)
  exact ⟨w, e, fun c hc => by rw [h1 c hc]; dsimp only; rw [if_pos hc], h2⟩
end CN
