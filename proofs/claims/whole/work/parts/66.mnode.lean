/-! the reference's nodes -/
def mN (σ : zS) (y n : Nat) (led : Nat → Bool) (M : Nat → Nat → Int) : Prop := σ 29 0 y = nI (Sl led 5).length ∧ ∀ r q, (Sl led 5)[r]? = some q → ∀ i, i < n + 3 → σ 30 0 (8 * (5 * y + r) + i) = iI (M q (cm n i))
def mV (f : Nat → Int32) (n : Nat) (v : Nat → Int) : Prop := ∀ i, i < n + 3 → f i = iI (v (cm n i))
theorem mN.c {σ σ' : zS} {y n : Nat} {led : Nat → Bool} {M : Nat → Nat → Int} (hn : n ≤ 5) (h : mN σ y n led M) (h1 : σ' 29 0 y = σ 29 0 y) (h2 : ∀ j, 40 * y ≤ j → j < 40 * y + 40 → σ' 30 0 j = σ 30 0 j) : mN σ' y n led M := by
  refine ⟨h1.trans h.1, fun r q hr i hi => ?_⟩
  have hl := Sl_len led 5
  have hr5 : r < (Sl led 5).length := by
    rcases Nat.lt_or_ge r (Sl led 5).length with a | a
    · exact a
    · rw [List.getElem?_eq_none a] at hr; exact absurd hr (by simp)
  rw [h2 _ (by omega) (by omega)]
  exact h.2 r q hr i hi
theorem e_at {x j r : Nat} {σ : zS} : fX9_at (nI x) (nI j) (nI r) σ = some (nI (8 * (5 * (4 * x + j) + r)), σ) := by
  unfold fX9_at
  show some (nI 8 * (nI 5 * (nI 4 * nI x + nI j) + nI r), σ) = _
  rw [nI_mu, nI_add, nI_mu, nI_add, nI_mu]
theorem e_41 {x j : Nat} : (4 : Int32) * nI x + nI j = nI (4 * x + j) := by
  show nI 4 * nI x + nI j = _
  rw [nI_mu, nI_add]
theorem e_rk {x j : Nat} {σ : zS} (hx : x < 3) (hj : j < 4) : fX9_rankOf (nI x) (nI j) σ = some (σ 29 0 (4 * x + j), σ) := by
  unfold fX9_rankOf
  rw [e_41, zIx_nI (by omega) (by decide), nI_clamp (by omega)]
theorem e_lead30 {σ : zS} {a n : Nat} {f : Nat → Int} (ha : a + n ≤ 480) (h : ∀ i, i < n → σ 30 0 (a + i) = iI (f i)) (hb : ∀ i, i < n → 0 ≤ f i ∧ f i < 1000) : fX9_leadOf_30 (nI a) (nI n) σ = some (nI (fl f n), σ) := by
  have := zfind (L := fun t i => fX9_leadOf_30_3 (nI a) (nI n) (fun u y => some (u, y)) t (nI i) σ) f n (fun i => some (nI i, σ)) (some (nI n, σ)) (by
    intro t i hi
    show (if nI n ≤ nI i then _ else _) = _
    have := hb i hi
    rw [if_neg (nI_ge hi (by omega)), nI_add, zIx_nI (by omega) (by decide), nI_clamp (by omega), h i hi, zB_s, nI_1]
    simp only [iI_z (show -2147483648 ≤ f i by omega) (by omega)]) (by
    intro t
    show (if nI n ≤ nI n then _ else _) = _
    rw [if_pos (nI_le (Nat.le_refl _) (by omega))]) n 0 zN (by omega) (fun j hj => absurd hj (by omega)) (Nat.lt_of_le_of_lt (show n ≤ 480 by omega) (by decide))
  refine Eq.trans this ?_
  have := fl_le f n
  split
  · rfl
  · rw [show fl f n = n by omega]
theorem e_lead35 {σ : zS} {n : Nat} {f : Nat → Int} (ha : n ≤ 8) (h : ∀ i, i < n → σ 35 0 i = iI (f i)) (hb : ∀ i, i < n → 0 ≤ f i ∧ f i < 1000) : fX9_leadOf_35 0 (nI n) σ = some (nI (fl f n), σ) := by
  have := zfind (L := fun t i => fX9_leadOf_35_3 0 (nI n) (fun u y => some (u, y)) t (nI i) σ) f n (fun i => some (nI i, σ)) (some (nI n, σ)) (by
    intro t i hi
    show (if nI n ≤ nI i then _ else _) = _
    have := hb i hi
    rw [if_neg (nI_ge hi (by omega)), show (0 : Int32) + nI i = nI i from Int32.zero_add _, zIx_nI (by omega) (by decide), nI_clamp (by omega), h i hi, zB_s, nI_1]
    simp only [iI_z (show -2147483648 ≤ f i by omega) (by omega)]) (by
    intro t
    show (if nI n ≤ nI n then _ else _) = _
    rw [if_pos (nI_le (Nat.le_refl _) (by omega))]) n 0 zN (by omega) (fun j hj => absurd hj (by omega)) (Nat.lt_of_le_of_lt (show n ≤ 8 by omega) (by decide))
  refine Eq.trans this ?_
  have := fl_le f n
  split
  · rfl
  · rw [show fl f n = n by omega]
theorem fl5 {f : Nat → Int} {n : Nat} (hn : n ≤ 5) (h : ∀ c, n ≤ c → c < 5 → f c = 0) : (fl f n < n → fl f 5 = fl f n) ∧ (fl f 5 < 5 ↔ fl f n < n) := by
  have h1 : fl f n < n → fl f 5 = fl f n := fun hl => fl_u (by omega) (fl_0 f n) (fun _ => fl_n f n hl)
  refine ⟨h1, fun hl => ?_, fun hl => by rw [h1 hl]; omega⟩
  rcases Nat.lt_or_ge (fl f n) n with q | q
  · exact q
  · exfalso
    have h0 : ∀ j, j < 5 → f j = 0 := fun j hj => by
      rcases Nat.lt_or_ge j n with a | a
      · exact fl_0 f n j (by omega)
      · exact h j a hj
    exact fl_n f 5 hl (h0 _ hl)
section MN
variable {p n x j : Nat} {led : Nat → Bool} {M : Nat → Nat → Int} {v : Nat → Int} {σ : zS}
theorem get_in {S : List Nat} {r q : Nat} (h : S[r]? = some q) : r < S.length ∧ q ∈ S := ⟨by
    rcases Nat.lt_or_ge r S.length with a | a
    · exact a
    · rw [List.getElem?_eq_none a] at h; exact absurd h (by simp), List.mem_of_getElem? h⟩
/-- the lead of a row of the reference -/
theorem e_leadR (hp : pp p) (hn : n ≤ 5) (hx : x < 3) (hj : j < 4) (hR : Rf p n led M) (h : mN σ (4 * x + j) n led M) {r q : Nat} (hr : (Sl led 5)[r]? = some q) : fX9_leadOf_30 (nI (8 * (5 * (4 * x + j) + r))) (nI n) σ = some (nI q, σ) := by
  obtain ⟨r1, r2⟩ := get_in hr
  obtain ⟨q1, q2⟩ := Sl_mem.1 r2
  obtain ⟨a1, a2, a3, a4, a5, a6⟩ := hR q q1 q2
  have hl := Sl_len led 5
  have := hp.b
  rw [e_lead30 (f := M q) (by omega) (fun i hi => by rw [h.2 r q hr i (by omega), cm_l hi]) (fun i hi => by have := a2 i; omega), fl_u (show q ≤ n by omega) a4 (fun _ => by rw [a3]; decide)]
theorem take_s {S : List Nat} {r q : Nat} (h : S[r]? = some q) : S.take (r + 1) = S.take r ++ [q] := by
  rw [List.take_add_one, h]; rfl
theorem nodup_take {S : List Nat} {r q : Nat} (hd : S.Nodup) (h : S[r]? = some q) : q ∉ S.take r := by
  intro hm
  obtain ⟨i, hi⟩ := List.mem_iff_getElem?.1 hm
  rw [List.getElem?_take] at hi
  have hir : i < r := by
    rcases Nat.lt_or_ge i r with a | a
    · exact a
    · rw [if_neg (by omega)] at hi; exact absurd hi (by simp)
  rw [if_pos hir] at hi
  have := (get_in h).1
  have h2 := (List.getElem?_inj (show i < S.length by omega) hd).1 (hi.trans h.symm)
  omega
theorem n3 (n : Nat) : nI n + 3 = nI (n + 3) := by show nI n + nI 3 = _; rw [nI_add]
/-- one row is taken out of what is left -/
theorem e_sub {a : Nat} {t : Int} {u w : Nat → Int} (hp : pp p) (hn : n ≤ 5) (h12 : σ 21 0 12 = nI p) (ha : a + 8 ≤ 480) (hu : mV (σ 35 0) n u) (hw : ∀ i, i < n + 3 → σ 30 0 (a + i) = iI (w (cm n i))) (bu : ∀ c, 0 ≤ u c ∧ u c < p) (bw : ∀ c, 0 ≤ w c ∧ w c < p) (t1 : 0 ≤ t) (t2 : t < p) (K : zS → Option (Int32 × zS)) : ∃ z, fX9_isNewTo_81 (nI n) (nI a) (iI t) K zN 0 σ = K z ∧ mV (z 35 0) n (fun c => (u c + (p - t) * w c) % p) ∧ ∀ k i j, k ≠ 35 → z k i j = σ k i j := by
  obtain ⟨p1, p2⟩ := hp.b
  obtain ⟨z, ⟨k1, k2⟩, e⟩ := zloop (β := zS) (L := fun s i z => fX9_isNewTo_81 (nI n) (nI a) (iI t) K s (nI i) z)
    (fun i z => (∀ c, c < n + 3 → z 35 0 c = iI (if c < i then (u (cm n c) + (p - t) * w (cm n c)) % p else u (cm n c))) ∧ ∀ k i j, k ≠ 35 → z k i j = σ k i j) (n + 3) K (by
    rintro s i z hi ⟨k1, k2⟩
    refine ⟨zU z 35 0 i (iI ((u (cm n i) + (p - t) * w (cm n i)) % p)), ⟨?_, ?_⟩, ?_⟩
    · intro c hc
      by_cases hci : c = i
      · subst hci; rw [zU_s, if_pos (by omega)]
      · rw [zU_j hci, k1 c hc]
        by_cases hlt : c < i
        · rw [if_pos hlt, if_pos (by omega)]
        · rw [if_neg hlt, if_neg (by omega)]
    · intro k' i' j' hk'
      rw [zU_k hk']; exact k2 k' i' j' hk'
    · show (if nI n + 3 ≤ nI i then _ else _) = _
      have b1 := bu (cm n i)
      have b2 := bw (cm n i)
      have b3 : 0 ≤ ((p : Int) - t) * w (cm n i) ∧ ((p : Int) - t) * w (cm n i) ≤ 49 := by
        refine ⟨Int.mul_nonneg (by omega) b2.1, ?_⟩
        calc ((p : Int) - t) * w (cm n i) ≤ 7 * w (cm n i) := Int.mul_le_mul_of_nonneg_right (by omega) b2.1
          _ ≤ 49 := by omega
      have hz := k1 i hi
      rw [if_neg (Nat.lt_irrefl i)] at hz
      rw [n3, if_neg (nI_ge hi (by omega)), zIx_nI (show i < 8 by omega) (by decide), nI_add, zIx_nI (show a + i < 480 by omega) (by decide), k2 21 0 12 (by decide), h12, zGd_t (by show ¬ nI p = nI 0; rw [zn_eq (by omega) (by decide)]; omega), zIx_nI (show i < 8 by omega) (by decide), nI_clamp (by omega), nI_clamp (by omega), hz, k2 30 0 (a + i) (by decide), hw i hi, iI_n p, iI_sub, iI_mul, iI_add, ← iI_n p, iI_mod (by omega) (by omega) (by omega), zB_s, zB_s, nI_1]) (by
    rintro s z _
    show (if nI n + 3 ≤ nI (n + 3) then _ else _) = _
    rw [n3, if_pos (nI_le (Nat.le_refl _) (by omega))]) (n + 3) 0 σ zN (by omega) ⟨fun c hc => by rw [if_neg (by omega)]; exact hu c hc, fun _ _ _ _ => rfl⟩ (Nat.lt_of_le_of_lt (show n + 3 ≤ 8 by omega) (by decide))
  exact ⟨z, e, fun i hi => by rw [k1 i hi, if_pos hi], k2⟩
theorem e_isNewTo (hp : pp p) (h12 : σ 21 0 12 = nI p) (hx : x < 3) (hj : j < 4) (hn : n ≤ 5) (h28 : σ 28 0 x = nI n) (hR : Rf p n led M) (h : mN σ (4 * x + j) n led M) (hv : Vc p n v) (hm : mV (σ 34 0) n v) : ∃ σ', fX9_isNewTo (nI x) (nI j) σ = some (if isN p led M v = true then 1 else 0, σ') ∧ mV (σ' 35 0) n (lo p (Sl led 5) M v) ∧ ∀ k i j, k ≠ 35 → σ' k i j = σ k i j := by
  obtain ⟨p1, p2⟩ := hp.b
  have hlen := Sl_len led 5
  generalize hK : (fun (y40_4 : zS) => (zCi (fX9_leadOf_35 (0 : Int32) (nI n) y40_4) (fun x6 s5 => if nI n ≤ x6 then some ((0 : Int32), s5) else some ((1 : Int32), s5)) : Option (Int32 × zS))) = K40
  obtain ⟨w1, ⟨f1, f2⟩, e1⟩ := zloop (β := zS) (L := fun t i y => fX9_isNewTo_10 (fun (y10_3 : zS) => (fX9_isNewTo_40 (nI x) (nI j) (nI n) K40 zN (0 : Int32) y10_3 : Option (Int32 × zS))) t (nI i) y)
    (fun i y => (∀ c, c < i → y 35 0 c = σ 34 0 c) ∧ ∀ k i j, k ≠ 35 → y k i j = σ k i j) 8 (fun y => fX9_isNewTo_40 (nI x) (nI j) (nI n) K40 zN (0 : Int32) y) (by
    rintro t i y hi ⟨f1, f2⟩
    refine ⟨zU y 35 0 i (σ 34 0 i), ⟨?_, ?_⟩, ?_⟩
    · intro c hc
      by_cases hci : c = i
      · subst hci; rw [zU_s]
      · rw [zU_j hci]; exact f1 c (by omega)
    · intro k' i' j' hk'
      rw [zU_k hk']; exact f2 k' i' j' hk'
    · show (if (8 : Int32) ≤ nI i then _ else _) = _
      rw [if_neg (lg8 hi), zIx_nI hi (by decide), zIx_nI hi (by decide), nI_clamp (by omega), zB_s, zB_s, nI_1, f2 34 0 i (by decide)]) (by
    rintro t y _
    show (if (8 : Int32) ≤ nI 8 then _ else _) = _
    rw [if_pos (by decide)]) 8 0 σ zN (by decide) ⟨fun c hc => absurd hc (by omega), fun _ _ _ _ => rfl⟩ (by decide)
  obtain ⟨w2, ⟨g1, g2⟩, e2⟩ := zloop (β := zS) (L := fun t r y => fX9_isNewTo_40 (nI x) (nI j) (nI n) K40 t (nI r) y)
    (fun r y => mV (y 35 0) n (lo p ((Sl led 5).take r) M v) ∧ ∀ k i j, k ≠ 35 → y k i j = σ k i j) (Sl led 5).length K40 (by
    rintro t r y hr ⟨g1, g2⟩
    obtain ⟨q, hq⟩ : ∃ q, (Sl led 5)[r]? = some q := ⟨_, List.getElem?_eq_getElem hr⟩
    obtain ⟨r1, r2⟩ := get_in hq
    obtain ⟨q1, q2⟩ := Sl_mem.1 r2
    obtain ⟨a1, a2, a3, a4, a5, a6⟩ := hR q q1 q2
    have hmN : mN y (4 * x + j) n led M := h.c hn (g2 29 0 _ (by decide)) (fun j' _ _ => g2 30 0 j' (by decide))
    have hq35 : y 35 0 q = iI (v q) := by
      rw [g1 q (by omega), cm_l a1, lo_part hR hv (fun a ha => Sl_mem.1 (List.mem_of_mem_take ha)) q1 q2 (nodup_take (Sl_nd led 5) hq)]
    obtain ⟨z, ez, m1, m2⟩ := e_sub (σ := y) (a := 8 * (5 * (4 * x + j) + r)) (t := v q) (w := M q) hp hn (by rw [g2 21 0 12 (by decide)]; exact h12) (by omega) g1 (hmN.2 r q hq) (fun c => lo_b (by omega) _ c) a2 (hv.1 q).1 (hv.1 q).2 (fun (y81_16 : zS) => (zB (nI r + 1) (fun x17 => fX9_isNewTo_40 (nI x) (nI j) (nI n) K40 t x17 y81_16) : Option (Int32 × zS)))
    refine ⟨z, ⟨?_, fun k' i' j' hk' => by rw [m2 k' i' j' hk']; exact g2 k' i' j' hk'⟩, ?_⟩
    · intro i hi
      rw [m1 i hi, take_s hq]
      dsimp only
      rw [lo_step _ q _ rfl]
    · show zCi (fX9_rankOf (nI x) (nI j) y) _ = _
      rw [e_rk hx hj, zCi_s, hmN.1, if_neg (nI_ge r1 (by omega)), e_at, zCi_s, e_leadR hp hn hx hj hR hmN hq, zCi_s, zIx_nI (show q < 8 by omega) (by decide), nI_clamp (by omega), hq35, zB_s]
      refine Eq.trans ez ?_
      rw [zB_s, nI_1]) (by
    rintro t y ⟨g1, g2⟩
    show zCi (fX9_rankOf (nI x) (nI j) y) _ = _
    rw [e_rk hx hj, zCi_s, g2 29 0 _ (by decide), h.1, if_pos (nI_le (Nat.le_refl _) (by omega))]) (Sl led 5).length 0 w1 zN (by omega) ⟨fun i hi => by
      rw [f1 i (by omega), hm i hi, List.take_zero, lo_nil hv], f2⟩ (Nat.lt_of_le_of_lt hlen (by decide))
  rw [List.take_length] at g1
  refine ⟨w2, ?_, g1, g2⟩
  unfold fX9_isNewTo
  rw [zIx_nI hx (by decide), nI_clamp (by omega), h28, zB_s, hK]
  refine (e1.trans e2).trans ?_
  subst hK
  have hf5 := fl5 (f := lo p (Sl led 5) M v) hn (fun c c1 c2 => lo_n hR hv c1 c2)
  have hle := fl_le (lo p (Sl led 5) M v) n
  dsimp only
  rw [e_lead35 (f := lo p (Sl led 5) M v) (by omega) (fun i hi => by rw [g1 i (by omega), cm_l hi]) (fun i hi => by have := lo_b (p := p) (M := M) (v := v) (by omega) (Sl led 5) i; omega), zCi_s]
  unfold isN
  by_cases hN : fl (lo p (Sl led 5) M v) n < n
  · rw [if_neg (nI_ge hN (by omega)), decide_eq_true (hf5.2.2 hN), if_pos rfl]
  · rw [if_pos (nI_le (by omega) (by omega)), decide_eq_false (fun z => hN (hf5.2.1 z)), if_neg (by decide)]
theorem e_inverseM (hp : pp p) (h12 : σ 21 0 12 = nI p) {w k : Nat} (hw : w < p) (hk : ivP p w k) : fX9_inverse (iI w) σ = some (nI k, σ) := by
  obtain ⟨p1, p2⟩ := hp.b
  obtain ⟨k1, k2, k3, k4⟩ := hk
  have hst : ∀ t i, i < p → fX9_inverse_2 (iI w) (fun u y => some (u, y)) (t + 1) (nI i) σ = if i * w % p = 1 then some (nI i, σ) else fX9_inverse_2 (iI w) (fun u y => some (u, y)) t (nI (i + 1)) σ := by
    intro t i hi
    show zGd (¬ σ 21 0 12 = 0) _ = _
    have hb : i * w < 64 := Nat.lt_of_le_of_lt (Nat.mul_le_mul (show i ≤ 7 by omega) (show w ≤ 7 by omega)) (by decide)
    rw [h12, zGd_t (by show ¬ nI p = nI 0; rw [zn_eq (by omega) (by decide)]; omega), iI_n i, iI_mul, ← Int.natCast_mul, iI_mod (by omega) (by omega) (by omega), ← Int.natCast_emod, zB_s, ← iI_n i, nI_1, ← iI_n]
    have hq : i * w % p < p := Nat.mod_lt _ (by omega)
    have : (nI (i * w % p) = 1) = (i * w % p = 1) := zn_eq (by omega) (by decide)
    simp only [this]
  have := zfind (L := fun t i => fX9_inverse_2 (iI w) (fun u y => some (u, y)) t (nI (i + 1)) σ) (fun _ => 0) (k - 1) (fun i => none) (some (nI k, σ)) (by
    intro t i hi
    rw [hst t (i + 1) (by omega), if_neg (k4 (i + 1) (by omega) (by omega)), if_pos rfl]) (by
    intro t
    rw [show k - 1 + 1 = k by omega, hst t k k2, if_pos k3]) (k - 1) 0 zN (by omega) (fun j hj => rfl) (Nat.lt_of_le_of_lt (show k - 1 ≤ 7 by omega) (by decide))
  refine Eq.trans this ?_
  rw [fl_u (Nat.le_refl (k - 1)) (fun _ _ => rfl) (fun z => absurd z (by omega)), if_neg (by omega)]
end MN
