/-! rows that are asked for -/
theorem wi0 {a : Int32} {n : Nat} {σ : zS} (hn : n < 2 ^ 31) (h : a < 0 ∨ nI n ≤ a) : fX9_within a 0 (nI n - 1) σ = some (0, σ) := by
  rw [e_within]
  rcases h with h | h
  · rw [if_pos h]
  · rw [if_neg (zbig h hn), if_pos (by
      rw [iI_n, iI_1, iI_sub, Int32.lt_iff_toInt_lt, iI_toInt (by omega) (by omega)]
      rw [Int32.le_iff_toInt_le, nI_toInt hn] at h
      omega)]
theorem wi1 {k n : Nat} {σ : zS} (hn : n < 2 ^ 31) (h : k < n) : fX9_within (nI k) 0 (nI n - 1) σ = some (1, σ) := by
  rw [e_within, if_neg (by show ¬ nI k < nI 0; rw [zn_lt (by omega) (by decide)]; omega), if_neg (by
    rw [iI_n, iI_1, iI_sub, iI_n, Int32.lt_iff_toInt_lt, iI_toInt (by omega) (by omega), iI_toInt (by omega) (by omega)]
    omega)]
theorem n0 {k : Nat} (h : k < 2 ^ 31) : ¬ nI k < 0 := by show ¬ nI k < nI 0; rw [zn_lt h (by decide)]; omega
section RW
variable {p n nd x j : Nat} {led : Nat → Bool} {M : Nat → Nat → Int} {σ : zS}
theorem Sl_lt {i : Nat} (hi : i < 5) (hl : led i = true) : (Sl led i).length < (Sl led 5).length := by
  obtain ⟨B, hB⟩ := Sl_pre hi hl
  rw [hB, List.length_append, List.length_cons]; omega
theorem e_plc0 (h : cN σ nd led M) {a : Int32} (ha : a < 0 ∨ nI (Sl led 5).length ≤ a) : fX3_placeOf nd a σ = some (-1, σ) := by
  have hlen := Sl_len led 5
  obtain ⟨b, hb, e⟩ := zloop (β := Nat) (L := fun t i b => fX3_placeOf_4 nd a (fun y => some ((-1 : Int32), y)) t (nI b) (nI i) σ) (fun i b => b = (Sl led i).length) 5 (fun b => some (-1, σ)) (by
    rintro t i b hi rfl
    by_cases hl : led i = true
    · have hlt := Sl_lt hi hl
      refine ⟨(Sl led i).length + 1, by rw [Sl_s, if_pos hl, List.length_append]; rfl, ?_⟩
      show (if (5 : Int32) ≤ nI i then _ else _) = _
      rw [if_neg (lg5 hi), zIx_nI hi (by decide), nI_clamp (by omega), h.1 i hi, if_pos hl, if_neg (by decide), if_neg (by
        rintro rfl
        rcases ha with ha | ha
        · exact n0 (by omega) ha
        · exact nI_ge hlt (by omega) ha), zB_s, zB_s, nI_1, nI_1]
    · refine ⟨(Sl led i).length, by rw [Sl_s, if_neg hl], ?_⟩
      show (if (5 : Int32) ≤ nI i then _ else _) = _
      rw [if_neg (lg5 hi), zIx_nI hi (by decide), nI_clamp (by omega), h.1 i hi, if_neg hl, if_pos rfl, zB_s, nI_1]) (by
    rintro t b hb
    show (if (5 : Int32) ≤ nI 5 then _ else _) = _
    rw [if_pos (by decide)]) 5 0 0 zN (by decide) rfl (by decide)
  exact e
theorem e_plc1 (h : cN σ nd led M) {k q : Nat} (hk : (Sl led 5)[k]? = some q) : fX3_placeOf nd (nI k) σ = some (nI q, σ) := by
  have hlen := Sl_len led 5
  have hkl := (get_in hk).1
  have := zloopE (β := Nat) (L := fun t i b => fX3_placeOf_4 nd (nI k) (fun y => some ((-1 : Int32), y)) t (nI b) (nI i) σ) (fun i b => b = (Sl led i).length ∧ b ≤ k) 5 (fun b => some (-1, σ)) (fun o => o = some (nI q, σ)) (by
    rintro t i b hi ⟨rfl, hb⟩
    by_cases hl : led i = true
    · have hlt := Sl_lt hi hl
      obtain ⟨B, hB⟩ := Sl_pre hi hl
      by_cases hkk : (Sl led i).length = k
      · refine Or.inr ?_
        have hq : q = i := by
          rw [hB, ← hkk, List.getElem?_append_right (Nat.le_refl _), Nat.sub_self] at hk
          simpa using hk.symm
        subst hq
        show (if (5 : Int32) ≤ nI q then _ else _) = _
        rw [if_neg (lg5 hi), zIx_nI hi (by decide), nI_clamp (by omega), h.1 q hi, if_pos hl, if_neg (by decide), hkk, if_pos rfl]
      · refine Or.inl ⟨(Sl led i).length + 1, ⟨by rw [Sl_s, if_pos hl, List.length_append]; rfl, by omega⟩, ?_⟩
        show (if (5 : Int32) ≤ nI i then _ else _) = _
        rw [if_neg (lg5 hi), zIx_nI hi (by decide), nI_clamp (by omega), h.1 i hi, if_pos hl, if_neg (by decide), if_neg (by rw [zn_eq (by omega) (by omega)]; exact hkk), zB_s, zB_s, nI_1, nI_1]
    · refine Or.inl ⟨(Sl led i).length, ⟨by rw [Sl_s, if_neg hl], hb⟩, ?_⟩
      show (if (5 : Int32) ≤ nI i then _ else _) = _
      rw [if_neg (lg5 hi), zIx_nI hi (by decide), nI_clamp (by omega), h.1 i hi, if_neg hl, if_pos rfl, zB_s, nI_1]) (by
    rintro t b hb
    show (if (5 : Int32) ≤ nI 5 then _ else _) = _
    rw [if_pos (by decide)]) 5 0 0 zN (by decide) ⟨rfl, by omega⟩ (by decide)
  rcases this with ⟨b, ⟨h1, h2⟩, _⟩ | e
  · omega
  · exact e
theorem e_cell (hnd : nd < 12) {q c : Nat} (hq : q < 5) (hc : c < 8) : fX3_cell nd (nI q) (nI c) σ = some (σ 18 (5 * nd + q) c, σ) := by
  unfold fX3_cell
  rw [if_neg (n0 (by omega)), if_neg (lg5 hq), if_neg (n0 (by omega)), if_neg (lg8 hc), if_neg (by decide), zIx_nI hq (by decide), zB_s, nI_clamp (by omega), zGd_t (by omega), zIx_nI hc (by decide), nI_clamp (by omega)]
theorem e_isPlain {a k : Nat} {f : Nat → Int} (hx : x < 3) (hn : n ≤ 5) (hk : k < 2 ^ 31) (h28 : σ 28 0 x = nI n) (ha : a + n ≤ 480) (h : ∀ i, i < n → σ 30 0 (a + i) = iI (f i)) (hb : ∀ i, i < n → 0 ≤ f i ∧ f i < 1000) : fX9_isPlain (nI x) (nI a) (nI k) σ = some (if fl (fun i => f i - if i = k then 1 else 0) n < n then 0 else 1, σ) := by
  have := zfind (L := fun t i => fX9_isPlain_3 (nI x) (nI a) (nI k) (fun y => some ((1 : Int32), y)) t (nI i) σ) (fun i => f i - if i = k then 1 else 0) n (fun i => some (0, σ)) (some (1, σ)) (by
    intro t i hi
    show zIx (nI x) 3 _ = _
    have b1 := hb i hi
    rw [zIx_nI hx (by decide), nI_clamp (by omega), h28, if_neg (nI_ge hi (by omega)), nI_add, zIx_nI (by omega) (by decide), nI_clamp (by omega), h i hi, zB_s, nI_1]
    simp only [zn_eq (show i < 2 ^ 31 by omega) hk]
    by_cases hik : i = k
    · by_cases hf : f i = 1
      · rw [if_pos hik, if_pos (by rw [hf]; rfl), if_pos (by rw [if_pos hik, hf]; rfl)]
      · rw [if_pos hik, if_neg (by rw [iI_1, iI_inj (by omega) (by omega) (by decide) (by decide)]; exact hf), if_neg (by rw [if_pos hik]; omega)]
    · by_cases hf : f i = 0
      · rw [if_neg hik, if_pos (by rw [hf]; rfl), if_pos (by rw [if_neg hik, hf]; rfl)]
      · rw [if_neg hik, if_neg (by rw [iI_z (by omega) (by omega)]; exact hf), if_neg (by rw [if_neg hik]; omega)]) (by
    intro t
    show zIx (nI x) 3 _ = _
    rw [zIx_nI hx (by decide), nI_clamp (by omega), h28, if_pos (nI_le (Nat.le_refl _) (by omega))]) n 0 zN (by omega) (fun j hj => absurd hj (by omega)) (Nat.lt_of_le_of_lt hn (by decide))
  refine Eq.trans this ?_
  split <;> rfl
/-- whether a letter is read -/
def knw (led : Nat → Bool) (M : Nat → Nat → Int) (k : Nat) : Bool := led k && decide (¬ fl (fun i => M k (k + 1 + i)) (4 - k) < 4 - k)
theorem knw_i {k : Nat} : knw led M k = true ↔ led k = true ∧ ∀ c, k < c → c < 5 → M k c = 0 := by
  unfold knw
  rw [Bool.and_eq_true, decide_eq_true_eq]
  refine and_congr_right (fun _ => ⟨fun h c c1 c2 => ?_, fun h z => ?_⟩)
  · have := fl_0 (fun i => M k (k + 1 + i)) (4 - k) (c - (k + 1)) (by omega)
    rwa [show k + 1 + (c - (k + 1)) = c by omega] at this
  · exact fl_n _ _ z (h _ (by omega) (by omega))
theorem e_knows (hp : pp p) (hnd : nd < 12) (hR : Rf p n led M) (h : cN σ nd led M) {k : Nat} (hk : k < 5) : fX3_knows nd (nI k) σ = some (if knw led M k = true then 1 else 0, σ) := by
  unfold fX3_knows knw
  rw [if_neg (n0 (by omega)), if_neg (lg5 hk), zIx_nI hk (by decide), nI_clamp (by omega), h.1 k hk]
  by_cases hl : led k = true
  · have hMb := (hR k hk hl).2.1
    have hpb := hp.b
    rw [if_pos hl, if_neg (by decide), zB_s, nI_1, hl, Bool.true_and]
    have := zfind (L := fun t i => fX3_knows_24 nd (nI k) (fun y => some ((1 : Int32), y)) t (nI (k + 1 + i)) σ) (fun i => M k (k + 1 + i)) (4 - k) (fun i => some (0, σ)) (some (1, σ)) (by
      intro t i hi
      show (if (5 : Int32) ≤ nI (k + 1 + i) then _ else _) = _
      have b := hMb (k + 1 + i)
      rw [if_neg (lg5 (by omega)), zIx_nI hk (by decide), zB_s, nI_clamp (by omega), zGd_t (by omega), zIx_nI (show k + 1 + i < 8 by omega) (by decide), nI_clamp (by omega), h.2 k hk hl _ (by omega), zB_s, nI_1]
      simp only [iI_z (show -2147483648 ≤ M k (k + 1 + i) by omega) (by omega)]
      rfl) (by
      intro t
      show (if (5 : Int32) ≤ nI (k + 1 + (4 - k)) then _ else _) = _
      rw [show k + 1 + (4 - k) = 5 by omega, if_pos (by decide)]) (4 - k) 0 zN (by omega) (fun j hj => absurd hj (by omega)) (Nat.lt_of_le_of_lt (show 4 - k ≤ 4 by omega) (by decide))
    refine Eq.trans this ?_
    by_cases hf : fl (fun i => M k (k + 1 + i)) (4 - k) < 4 - k
    · rw [if_pos hf, decide_eq_false (fun z => z hf)]; rfl
    · rw [if_neg hf, decide_eq_true hf]; rfl
  · rw [if_neg hl, if_pos rfl, show led k = false by simpa using hl]; rfl
end RW
theorem c_row (a b c d : Int32) (σ : zS) (h : J3 σ) : Cs3 σ (fX8_row a b c d) (fX9_row a b c d) := by
  obtain ⟨p, op, s, hI⟩ := id h
  by_cases hX : lkX op (σ 27 0) a < op
  · have hX3 : lkX op (σ 27 0) a < 3 := by have := hI.2.2.2.2.1; omega
    have hs := s_lt hI hX3
    rcases zcase2 b 4 (by decide) with q | ⟨j, hj, rfl⟩
    · refine Cs3.same h (r := -1) (by unfold fX8_row; rw [e_find hI, if_pos hX, zCq_s, zGd_t hs, node_b hI q, zCq_n]) ?_
      unfold fX9_row
      rw [place_1 hI hX, zCi_s, if_neg (nI_n9 hX3), isNode0 q, zCi_s, if_pos rfl]
    · obtain ⟨n, n1, n2, b1, b2, b3, hN⟩ := hI.2.2.2.2.2.2.2.2.2.2 _ hX
      obtain ⟨led, M, c1, c2, c3⟩ := hN j hj
      have hlen := Sl_len led 5
      have u8 : fX8_row a (nI j) c d σ = zCi (fX3_placeOf (4 * s (lkX op (σ 27 0) a) + j) c σ) (fun x11 s10 => if 0 ≤ x11 then if d < 0 then some ((-2 : Int32), s10) else if d < ((s10 13 (s (lkX op (σ 27 0) a)) 2) + (3 : Int32)) then if (s10 13 (s (lkX op (σ 27 0) a)) 2) ≤ d then zCi (fX3_cell (4 * s (lkX op (σ 27 0) a) + j) x11 (((5 : Int32) + d) - (s10 13 (s (lkX op (σ 27 0) a)) 2)) s10) (fun x13 s12 => some (x13, s12)) else zCi (fX3_cell (4 * s (lkX op (σ 27 0) a) + j) x11 d s10) (fun x15 s14 => some (x15, s14)) else some ((-2 : Int32), s10) else some ((-1 : Int32), s10)) := by
        unfold fX8_row
        rw [e_find hI, if_pos hX, zCq_s, zGd_t hs, node_1 hI hX hj, zCq_s, zGd_t (by omega)]
      have u9 : fX9_row a (nI j) c d σ = zCi (fX9_within c (0 : Int32) (nI (Sl led 5).length - (1 : Int32)) σ) (fun x8 s7 => if x8 = 0 then some ((-1 : Int32), s7) else zIx (nI (lkX op (σ 27 0) a)) 3 (zCi (fX9_within d (0 : Int32) (((s7 28 0 (nI (lkX op (σ 27 0) a)).toNatClampNeg) + (3 : Int32)) - (1 : Int32)) s7) (fun x11 s10 => if x11 = 0 then some ((-2 : Int32), s10) else zCi (fX9_at (nI (lkX op (σ 27 0) a)) (nI j) c s10) (fun x13 s12 => zIx (x13 + d) 480 (some (s12 30 0 (x13 + d).toNatClampNeg, s12)))))) := by
        unfold fX9_row
        rw [place_1 hI hX, zCi_s, if_neg (nI_n9 hX3), isNode1 hj, zCi_s, if_neg (by decide), e_rk hX3 hj, zCi_s, c3.1]
      rcases zcase2 c (Sl led 5).length (by omega) with q | ⟨k, hk, rfl⟩
      · exact Cs3.same h (r := -1) (by rw [u8, e_plc0 c2 q, zCi_s, if_neg (by decide)]) (by rw [u9, wi0 (by omega) q, zCi_s, if_pos rfl])
      · obtain ⟨q, hq⟩ : ∃ q, (Sl led 5)[k]? = some q := ⟨_, List.getElem?_eq_getElem hk⟩
        obtain ⟨q1, q2⟩ := Sl_mem.1 (get_in hq).2
        rw [e_plc1 c2 hq, zCi_s, if_pos (by rw [zle_lt]; exact n0 (by omega)), b2, n3] at u8
        rw [wi1 (by omega) hk, zCi_s, if_neg (by decide), zIx_nI hX3 (by decide), nI_clamp (by omega), b3, n3] at u9
        rcases zcase2 d (n + 3) (by omega) with w | ⟨i, hi, rfl⟩
        · refine Cs3.same h (r := -2) ?_ (by rw [u9, wi0 (by omega) w, zCi_s, if_pos rfl])
          rw [u8]
          rcases w with w | w
          · rw [if_pos w]
          · rw [if_neg (zbig w (by omega)), if_neg (by rw [zlt_le]; exact fun z => z w)]
        · refine Cs3.same h (r := iI (M q (cm n i))) ?_ ?_
          · rw [u8, if_neg (n0 (by omega)), if_pos (by rw [zn_lt (by omega) (by omega)]; exact hi)]
            unfold cm
            by_cases hin : i < n
            · rw [if_neg (nI_ge hin (by omega)), if_pos hin, e_cell (by omega) q1 (by omega), zCi_s, c2.2 q q1 q2 i (by omega)]
            · rw [if_pos (nI_le (by omega) (by omega)), if_neg hin, show (5 : Int32) + nI i - nI n = nI (i - n + 5) by
                show nI 5 + nI i - nI n = _
                rw [nI_add, pk_sub (by omega)]; congr 1; omega, e_cell (by omega) q1 (by omega), zCi_s, c2.2 q q1 q2 _ (by omega)]
          · rw [u9, wi1 (by omega) hi, zCi_s, if_neg (by decide), e_at, zCi_s, nI_add, zIx_nI (by omega) (by decide), nI_clamp (by omega), c3.2 k q hq i hi]
  · refine Cs3.same h (r := -1) (by unfold fX8_row; rw [e_find hI, if_neg hX, zCq_n, node_0 hI hX, zCq_n]) ?_
    unfold fX9_row
    rw [place_0 hI hX, zCi_s, if_pos rfl]
theorem c_read (a b c d : Int32) (σ : zS) (h : J3 σ) : Cs3 σ (fX8_read a b c d) (fX9_read a b c d) := by
  obtain ⟨p, op, s, hI⟩ := id h
  have hpb := hI.1.b
  by_cases hX : lkX op (σ 27 0) a < op
  · have hX3 : lkX op (σ 27 0) a < 3 := by have := hI.2.2.2.2.1; omega
    have hs := s_lt hI hX3
    rcases zcase2 b 4 (by decide) with q | ⟨j, hj, rfl⟩
    · refine Cs3.same h (r := -1) (by unfold fX8_read; rw [e_find hI, if_pos hX, zCq_s, zGd_t hs, node_b hI q, zCq_n]) ?_
      unfold fX9_read
      rw [place_1 hI hX, zCi_s, if_neg (nI_n9 hX3), isNode0 q, zCi_s, if_pos rfl]
    · obtain ⟨n, n1, n2, b1, b2, b3, hN⟩ := hI.2.2.2.2.2.2.2.2.2.2 _ hX
      obtain ⟨led, M, c1, c2, c3⟩ := hN j hj
      have hlen := Sl_len led 5
      have u8 : fX8_read a (nI j) c d σ = if c < 0 then some ((-2 : Int32), σ) else if nI n ≤ c then some ((-2 : Int32), σ) else if d < 0 then some ((-2 : Int32), σ) else if d < (3 : Int32) then zCi (fX3_knows (4 * s (lkX op (σ 27 0) a) + j) c σ) (fun x11 s10 => if x11 = 0 then some ((-9 : Int32), s10) else zCi (fX3_cell (4 * s (lkX op (σ 27 0) a) + j) c ((5 : Int32) + d) s10) (fun x13 s12 => some (x13, s12))) else some ((-2 : Int32), σ) := by
        unfold fX8_read
        rw [e_find hI, if_pos hX, zCq_s, zGd_t hs, node_1 hI hX hj, zCq_s, zGd_t (by omega), b2]
      have u9 : fX9_read a (nI j) c d σ = zCi (fX9_within c (0 : Int32) (nI n - (1 : Int32)) σ) (fun x7 s6 => if x7 = 0 then some ((-2 : Int32), s6) else zCi (fX9_within d (0 : Int32) (2 : Int32) s6) (fun x9 s8 => if x9 = 0 then some ((-2 : Int32), s8) else fX9_read_56 (nI j) c d (nI (lkX op (σ 27 0) a)) (fun (y56_10 : zS) => (some ((-9 : Int32), y56_10) : Option (Int32 × zS))) zN (0 : Int32) s8)) := by
        unfold fX9_read
        rw [place_1 hI hX, zCi_s, if_neg (nI_n9 hX3), isNode1 hj, zCi_s, if_neg (by decide), zIx_nI hX3 (by decide), nI_clamp (by omega), b3]
      generalize hx : lkX op (σ 27 0) a = x at *
      rcases zcase2 c n (by omega) with q | ⟨k, hk, rfl⟩
      · refine Cs3.same h (r := -2) ?_ (by rw [u9, wi0 (by omega) q, zCi_s, if_pos rfl])
        rw [u8]
        rcases q with q | q
        · rw [if_pos q]
        · rw [if_neg (zbig q (by omega)), if_pos q]
      rw [wi1 (by omega) hk, zCi_s, if_neg (by decide)] at u9
      rw [if_neg (n0 (by omega)), if_neg (nI_ge hk (by omega))] at u8
      rcases zcase2 d 3 (by omega) with q | ⟨i, hi, rfl⟩
      · refine Cs3.same h (r := -2) ?_ (by rw [u9, show (2 : Int32) = nI 3 - 1 by decide, wi0 (by omega) q, zCi_s, if_pos rfl])
        rw [u8]
        rcases q with q | q
        · rw [if_pos q]
        · rw [if_neg (zbig q (by omega)), if_neg (by rw [zlt_le]; exact fun z => z q)]
      rw [show (2 : Int32) = nI 3 - 1 by decide, wi1 (by omega) hi, zCi_s, if_neg (by decide)] at u9
      rw [if_neg (n0 (by omega)), if_pos (by show nI i < nI 3; rw [zn_lt (by omega) (by omega)]; exact hi), e_knows hI.1 (by omega) c1 c2 (show k < 5 by omega), zCi_s] at u8
      -- a row that does not have its lead there is not plain
      have hrow : ∀ t r q, (Sl led 5)[r]? = some q → fX9_read_56 (nI j) (nI k) (nI i) (nI x) (fun (y56_10 : zS) => (some ((-9 : Int32), y56_10) : Option (Int32 × zS))) (t + 1) (nI r) σ = if fl (fun i => M q i - if i = k then 1 else 0) n < n then fX9_read_56 (nI j) (nI k) (nI i) (nI x) (fun (y56_10 : zS) => (some ((-9 : Int32), y56_10) : Option (Int32 × zS))) t (nI (r + 1)) σ else some (iI (M q (5 + i)), σ) := by
        intro t r q hr
        obtain ⟨q1, q2⟩ := Sl_mem.1 (get_in hr).2
        have hrl := (get_in hr).1
        have hMb := (c1 q q1 q2).2.1
        show zCi (fX9_rankOf (nI x) (nI j) σ) _ = _
        rw [e_rk hX3 hj, zCi_s, c3.1, if_neg (nI_ge hrl (by omega)), e_at, zCi_s, e_isPlain (f := M q) hX3 n2 (by omega) b3 (by omega) (fun i' hi' => by rw [c3.2 r q hr i' (by omega), cm_l hi']) (fun i' _ => by have := hMb i'; omega), zCi_s, zB_s, nI_1, e_at, zCi_s, zIx_nI hX3 (by decide), nI_clamp (show x < 2 ^ 31 by omega), b3, nI_add, nI_add, zIx_nI (by omega) (by decide), nI_clamp (by omega), Nat.add_assoc, c3.2 r q hr (n + i) (by omega)]
        rw [show cm n (n + i) = 5 + i by unfold cm; rw [if_neg (by omega)]; omega]
        split <;> rfl
      have hnp : ∀ q, q < 5 → led q = true → q ≠ k → fl (fun i => M q i - if i = k then 1 else 0) n < n := by
        intro q q1 q2 hne
        rcases Nat.lt_or_ge (fl (fun i => M q i - if i = k then 1 else 0) n) n with z | z
        · exact z
        · have := fl_0 (fun i => M q i - if i = k then 1 else 0) n q (by have := (c1 q q1 q2).1; omega)
          rw [if_neg hne, (c1 q q1 q2).2.2.1] at this
          exact absurd this (by decide)
      by_cases hK : knw led M k = true
      · obtain ⟨k1, k2⟩ := knw_i.1 hK
        have k5 : k < 5 := by omega
        obtain ⟨B, hB⟩ := Sl_pre k5 k1
        have hr0 : (Sl led 5)[(Sl led k).length]? = some k := by
          rw [hB, List.getElem?_append_right (Nat.le_refl _), Nat.sub_self]; rfl
        refine Cs3.same h (r := iI (M k (5 + i))) ?_ ?_
        · rw [u8, hK, if_pos rfl, if_neg (by decide), show (5 : Int32) + nI i = nI (5 + i) by show nI 5 + nI i = _; rw [nI_add], e_cell (by omega) k5 (by omega), zCi_s, c2.2 k k5 k1 _ (by omega)]
        · rw [u9]
          obtain ⟨b', _, e⟩ := zloop (β := Unit) (L := fun t r _ => fX9_read_56 (nI j) (nI k) (nI i) (nI x) (fun (y56_10 : zS) => (some ((-9 : Int32), y56_10) : Option (Int32 × zS))) t (nI r) σ) (fun _ _ => True) (Sl led k).length (fun _ => some (iI (M k (5 + i)), σ)) (by
            rintro t r _ hr _
            refine ⟨(), trivial, ?_⟩
            have hr5 : r < (Sl led 5).length := by rw [hB, List.length_append]; omega
            obtain ⟨q, hq⟩ : ∃ q, (Sl led 5)[r]? = some q := ⟨_, List.getElem?_eq_getElem hr5⟩
            have hqk : q ∈ Sl led k := by
              rw [hB, List.getElem?_append_left hr] at hq
              exact (get_in hq).2
            obtain ⟨q1, q2⟩ := Sl_mem.1 hqk
            rw [hrow t r q hq, if_pos (hnp q (by omega) q2 (by omega))]) (by
            rintro t _ _
            rw [hrow t _ k hr0, if_neg (fun z => by
              have hz := fl_n _ _ z
              generalize hc : fl (fun i => M k i - if i = k then 1 else 0) n = c at hz z
              obtain ⟨m1, m2, m3, m4, m5, m6⟩ := c1 k k5 k1
              rcases Nat.lt_trichotomy c k with w | w | w
              · rw [if_neg (by omega), m4 c w] at hz; exact hz rfl
              · subst w; rw [if_pos rfl, m3] at hz; exact hz rfl
              · rw [if_neg (by omega), k2 c w (by omega)] at hz; exact hz rfl)]) (Sl led k).length 0 () zN (by omega) trivial (Nat.lt_of_le_of_lt (show (Sl led k).length ≤ 5 by have := Sl_len led k; omega) (by decide))
          exact e
      · refine Cs3.same h (r := -9) ?_ ?_
        · rw [u8, if_neg hK, if_pos rfl]
        · rw [u9]
          obtain ⟨b', _, e⟩ := zloop (β := Unit) (L := fun t r _ => fX9_read_56 (nI j) (nI k) (nI i) (nI x) (fun (y56_10 : zS) => (some ((-9 : Int32), y56_10) : Option (Int32 × zS))) t (nI r) σ) (fun _ _ => True) (Sl led 5).length (fun _ => some (-9, σ)) (by
            rintro t r _ hr _
            refine ⟨(), trivial, ?_⟩
            obtain ⟨q, hq⟩ : ∃ q, (Sl led 5)[r]? = some q := ⟨_, List.getElem?_eq_getElem hr⟩
            obtain ⟨q1, q2⟩ := Sl_mem.1 (get_in hq).2
            rw [hrow t r q hq]
            by_cases hqk : q = k
            · subst hqk
              refine if_pos ?_
              rcases Nat.lt_or_ge (fl (fun i => M q i - if i = q then 1 else 0) n) n with z | z
              · exact z
              · refine absurd (knw_i.2 ⟨q2, fun c w1 w2 => ?_⟩) hK
                rcases Nat.lt_or_ge c n with y | y
                · have := fl_0 (fun i => M q i - if i = q then 1 else 0) n c (by omega)
                  rw [if_neg (by omega)] at this
                  omega
                · exact (c1 q q1 q2).2.2.2.2.2 c y w2
            · rw [if_pos (hnp q q1 q2 hqk)]) (by
            rintro t _ _
            show zCi (fX9_rankOf (nI x) (nI j) σ) _ = _
            rw [e_rk hX3 hj, zCi_s, c3.1, if_pos (nI_le (Nat.le_refl _) (by omega))]) (Sl led 5).length 0 () zN (by omega) trivial (Nat.lt_of_le_of_lt hlen (by decide))
          exact e
  · refine Cs3.same h (r := -1) (by unfold fX8_read; rw [e_find hI, if_neg hX, zCq_n, node_0 hI hX, zCq_n]) ?_
    unfold fX9_read
    rw [place_0 hI hX, zCi_s, if_pos rfl]
