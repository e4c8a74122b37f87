/-! mixes, of the class -/
def ms (p : Nat) (M : Nat → Nat → Int) : List Nat → Nat → Nat → Int
  | [], _, _ => 0
  | q :: qs, m, c => ((m % p : Nat) : Int) * M q c + ms p M qs (m / p) c
def mv (p : Nat) (M : Nat → Nat → Int) (S : List Nat) (m : Nat) : Nat → Int := fun c => ms p M S m c % p
theorem ms_app (p : Nat) (M : Nat → Nat → Int) (S : List Nat) (q : Nat) : ∀ (m c : Nat), ms p M (S ++ [q]) m c = ms p M S m c + ((m / p ^ S.length % p : Nat) : Int) * M q c := by
  induction S with
  | nil =>
    intro m c
    show ((m % p : Nat) : Int) * M q c + 0 = 0 + ((m / p ^ 0 % p : Nat) : Int) * M q c
    rw [Nat.pow_zero, Nat.div_one]; omega
  | cons a as ih =>
    intro m c
    show ((m % p : Nat) : Int) * M a c + ms p M (as ++ [q]) (m / p) c = ((m % p : Nat) : Int) * M a c + ms p M as (m / p) c + ((m / p ^ (as.length + 1) % p : Nat) : Int) * M q c
    rw [ih, Nat.div_div_eq_div_mul, Nat.pow_succ', Int.add_assoc]
theorem mv_app (p : Nat) (M : Nat → Nat → Int) (S : List Nat) (q m c : Nat) : mv p M (S ++ [q]) m c = (mv p M S m c + ((m / p ^ S.length % p : Nat) : Int) * M q c) % p := by
  unfold mv
  rw [ms_app]
  exact (((cg.m _).add (cg.r _)).e).symm
theorem mv_nil (p : Nat) (M : Nat → Nat → Int) (m c : Nat) : mv p M [] m c = 0 := rfl
theorem mv_b {p : Nat} (hp : 0 < p) (M : Nat → Nat → Int) (S : List Nat) (m c : Nat) : 0 ≤ mv p M S m c ∧ mv p M S m c < p := ⟨md_0 hp, md_l hp⟩
theorem ms_0 {p : Nat} {M : Nat → Nat → Int} {c : Nat} : ∀ {S : List Nat} (m : Nat), (∀ q ∈ S, M q c = 0) → ms p M S m c = 0
  | [], _, _ => rfl
  | q :: qs, m, h => by
    show ((m % p : Nat) : Int) * M q c + ms p M qs (m / p) c = 0
    rw [h q (by simp), ms_0 (m / p) (fun a ha => h a (by simp [ha])), Int.mul_zero]; rfl
theorem mv_V {p n : Nat} {led : Nat → Bool} {M : Nat → Nat → Int} (hp : 0 < p) (hR : Rf p n led M) (m : Nat) : Vc p n (mv p M (Sl led 5) m) := by
  refine ⟨fun c => mv_b hp M _ m c, fun c h1 h2 => ?_⟩
  unfold mv
  rw [ms_0 m (fun q hq => by obtain ⟨q1, q2⟩ := Sl_mem.1 hq; exact (hR q q1 q2).2.2.2.2.2 c h1 h2)]
  rfl
theorem nI_mu (a b : Nat) : nI a * nI b = nI (a * b) := by rw [iI_n, iI_n, iI_mul, ← Int.natCast_mul, iI_n]
section MX
variable {p n nd : Nat} {led : Nat → Bool} {M : Nat → Nat → Int} {v : Nat → Int} {σ : zS} {r : Nat}
theorem e_cut (hp : pp p) (h9 : σ 9 0 0 = nI p) {m : Nat} (hm : m < 2 ^ 31) : fX0_cut (nI m) σ = some (nI (m / p), σ) := by
  obtain ⟨p1, p2⟩ := hp.b
  unfold fX0_cut
  rw [h9, if_pos (by show nI 2 ≤ nI p; exact nI_le p1 (by omega)), zGd_t (by show ¬ nI p = nI 0; rw [zn_eq (by omega) (by decide)]; omega)]
  rw [iI_n m, iI_div (by omega) (by omega) (by omega), iI_n (m / p), Int.natCast_ediv]
theorem e_mixInto (hp : pp p) (h9 : σ 9 0 0 = nI p) (hnd : nd < 12) (hR : Rf p n led M) (h : cN σ nd led M) (hrr : r < 5 * nd ∨ 5 * nd + 5 ≤ r) {m : Nat} (hm : m < 1000000) : ∃ σ', fX3_mixInto nd r (nI m) σ = some (0, σ') ∧ rV σ' r (mv p M (Sl led 5) m) ∧ ∀ k i j, ¬ (k = 18 ∧ i = r) → σ' k i j = σ k i j := by
  obtain ⟨p1, p2⟩ := hp.b
  obtain ⟨w1, ⟨f1, f2⟩, e1⟩ := zloop (β := zS) (L := fun t i y => fX3_mixInto_3 r (fun (y3_1 : zS) => (fX3_mixInto_27 nd r (fun (y27_2 : zS) => (some ((0 : Int32), y27_2) : Option (Int32 × zS))) zN (nI m) (0 : Int32) y3_1 : Option (Int32 × zS))) t (nI i) y)
    (fun i y => (∀ c, c < i → y 18 r c = 0) ∧ ∀ k i j, ¬ (k = 18 ∧ i = r) → y k i j = σ k i j) 8 (fun y => fX3_mixInto_27 nd r (fun (y27_2 : zS) => (some ((0 : Int32), y27_2) : Option (Int32 × zS))) zN (nI m) (0 : Int32) y) (by
    rintro t i y hi ⟨f1, f2⟩
    refine ⟨zU y 18 r i 0, ⟨?_, ?_⟩, ?_⟩
    · intro c hc
      by_cases hci : c = i
      · subst hci; rw [zU_s]
      · rw [zU_j hci]; exact f1 c (by omega)
    · intro k' i' j hk'
      rw [zU_ap, if_neg (fun z => hk' ⟨z.1, z.2.1⟩)]; exact f2 k' i' j hk'
    · show (if (8 : Int32) ≤ nI i then _ else _) = _
      rw [if_neg (lg8 hi), zIx_nI hi (by decide), nI_clamp (by omega), zB_s, zB_s, nI_1]) (by
    rintro t y _
    show (if (8 : Int32) ≤ nI 8 then _ else _) = _
    rw [if_pos (by decide)]) 8 0 σ zN (by decide) ⟨fun c hc => absurd hc (by omega), fun _ _ _ _ => rfl⟩ (by decide)
  obtain ⟨⟨z, w2⟩, ⟨g0, g1, g2⟩, e2⟩ := zloop (β := Nat × zS) (L := fun t i b => fX3_mixInto_27 nd r (fun (y27_2 : zS) => (some ((0 : Int32), y27_2) : Option (Int32 × zS))) t (nI b.1) (nI i) b.2)
    (fun i b => b.1 = m / p ^ (Sl led i).length ∧ rV b.2 r (mv p M (Sl led i) m) ∧ ∀ k i j, ¬ (k = 18 ∧ i = r) → b.2 k i j = σ k i j) 5 (fun b => some (0, b.2)) (by
    rintro t i ⟨z, y⟩ hi ⟨g0, g1, g2⟩
    dsimp only at g0 g1 g2 ⊢
    have hzm : z < 1000000 := by rw [g0]; exact Nat.lt_of_le_of_lt (Nat.div_le_self _ _) hm
    have h17 : y 17 nd i = if led i = true then 1 else 0 := by rw [g2 17 nd i (by omega)]; exact h.1 i hi
    by_cases hli : led i = true
    · obtain ⟨y', ey, ry, fy⟩ := e_addTimes (σ := y) (r1 := r) (r4 := 5 * nd + i) (t := ((z % p : Nat) : Int)) hp (by rw [g2 9 0 0 (by omega)]; exact h9) (by omega) g1 (fun c hc => by rw [g2 18 (5 * nd + i) c (by omega)]; exact h.2 i hi hli c hc) (fun c => mv_b (by omega) M _ m c) (hR i hi hli).2.1 (by omega) (by have := Nat.mod_lt z (show 0 < p by omega); omega)
      refine ⟨(z / p, y'), ⟨?_, ?_, ?_⟩, ?_⟩
      · dsimp only
        rw [Sl_s, if_pos hli, List.length_append, g0, Nat.div_div_eq_div_mul]; rfl
      · dsimp only
        rw [Sl_s, if_pos hli]
        intro c hc
        rw [ry c hc, mv_app, g0]
      · intro k' i' j hk'
        dsimp only
        rw [fy k' i' j hk']; exact g2 k' i' j hk'
      · show (if (5 : Int32) ≤ nI i then _ else _) = _
        rw [if_neg (lg5 hi), zIx_nI hi (by decide), nI_clamp (by omega), h17, if_pos hli, if_neg (by decide), iI_n z, e_left hp (by rw [g2 9 0 0 (by omega)]; exact h9) (by omega) (by omega), zCi_s, zIx_nI hi (by decide), zB_s, zGd_t (by omega), ← Int.natCast_emod, ey, zCv_s, ← iI_n z, e_cut hp (by rw [fy 9 0 0 (by omega), g2 9 0 0 (by omega)]; exact h9) (by omega), zCi_s, zB_s, nI_1]
    · refine ⟨(z, y), ⟨?_, ?_, g2⟩, ?_⟩
      · dsimp only; rw [Sl_s, if_neg hli]; exact g0
      · dsimp only; rw [Sl_s, if_neg hli]; exact g1
      · show (if (5 : Int32) ≤ nI i then _ else _) = _
        rw [if_neg (lg5 hi), zIx_nI hi (by decide), nI_clamp (by omega), h17, if_neg hli, if_pos rfl, zB_s, nI_1]) (by
    rintro t b _
    show (if (5 : Int32) ≤ nI 5 then _ else _) = _
    rw [if_pos (by decide)]) 5 0 (m, w1) zN (by decide) ⟨by show m = m / p ^ 0; rw [Nat.pow_zero, Nat.div_one], fun c hc => by
      show w1 18 r c = iI 0
      exact f1 c hc, f2⟩ (by decide)
  exact ⟨w2, e1.trans e2, g1, g2⟩
/-- the index of the first that passes; the length: none does -/
def fx (g : Nat → Bool) : List Nat → Nat
  | [] => 0
  | q :: qs => if g q = true then 0 else fx g qs + 1
theorem fx_hit {g : Nat → Bool} {q : Nat} {B : List Nat} (hq : g q = true) : ∀ {A : List Nat}, (∀ a ∈ A, g a = false) → fx g (A ++ q :: B) = A.length
  | [], _ => if_pos hq
  | a :: as, h => by
    show (if g a = true then 0 else fx g (as ++ q :: B) + 1) = as.length + 1
    rw [if_neg (by rw [h a (by simp)]; decide), fx_hit hq (fun b hb => h b (by simp [hb]))]
theorem fx_none {g : Nat → Bool} : ∀ {A : List Nat}, (∀ a ∈ A, g a = false) → fx g A = A.length
  | [], _ => rfl
  | a :: as, h => by
    show (if g a = true then 0 else fx g as + 1) = as.length + 1
    rw [if_neg (by rw [h a (by simp)]; decide), fx_none (fun b hb => h b (by simp [hb]))]
theorem Sl_pre {led : Nat → Bool} {l : Nat} (hl : l < 5) (h : led l = true) : ∃ B, Sl led 5 = Sl led l ++ l :: B := by
  refine ⟨(List.range' (l + 1) (4 - l)).filter led, ?_⟩
  unfold Sl
  rw [rng_split l hl, List.filter_append, List.filter_cons, if_pos h]
/-- whether a row is new to a node -/
def isN (p : Nat) (led : Nat → Bool) (M : Nat → Nat → Int) (v : Nat → Int) : Bool := decide (fl (lo p (Sl led 5) M v) 5 < 5)
theorem Rf_V (hR : Rf p n led M) {q : Nat} (hq : q < 5) (hl : led q = true) : Vc p n (M q) := ⟨(hR q hq hl).2.1, (hR q hq hl).2.2.2.2.2⟩
/-- the least mix that is new, by the rows alone -/
def lsN (p : Nat) (led : Nat → Bool) (M : Nat → Nat → Int) (led2 : Nat → Bool) (M2 : Nat → Nat → Int) : Nat := fx (fun q => isN p led2 M2 (M q)) (Sl led 5)
theorem p_lt {p i : Nat} (hp : pp p) (hi : i ≤ 5) : p ^ i ≤ 16807 := by
  obtain ⟨p1, p2⟩ := hp.b
  calc p ^ i ≤ 7 ^ i := Nat.pow_le_pow_left p2 i
    _ ≤ 7 ^ 5 := Nat.pow_le_pow_right (by decide) hi
    _ = 16807 := by decide
theorem e_leastNew {n2 : Nat} {led2 : Nat → Bool} {M2 : Nat → Nat → Int} (hp : pp p) (h9 : σ 9 0 0 = nI p) (hnd : nd < 12) (hn2 : n2 < 12) (hR : Rf p n led M) (h : cN σ nd led M) (hR2 : Rf p n led2 M2) (h2 : cN σ n2 led2 M2) : fX2_leastNew nd n2 σ = some (if lsN p led M led2 M2 < (Sl led 5).length then nI (p ^ lsN p led M led2 M2) else -9, σ) := by
  obtain ⟨p1, p2⟩ := hp.b
  have := zloopE (β := Nat) (L := fun t i z => fX2_leastNew_5 nd n2 (fun y => some ((-9 : Int32), y)) t (nI z) (nI i) σ) (fun i z => z = p ^ (Sl led i).length ∧ ∀ q ∈ Sl led i, isN p led2 M2 (M q) = false) 5 (fun z => some (-9, σ)) (fun o => lsN p led M led2 M2 < (Sl led 5).length ∧ o = some (nI (p ^ lsN p led M led2 M2), σ)) (by
    rintro t i z hi ⟨rfl, hz⟩
    by_cases hli : led i = true
    · have hnl := e_newLead (r := 5 * nd + i) hp h9 hn2 hR2 h2 (Rf_V hR hi hli) (h.2 i hi hli)
      have hst : fX2_leastNew_5 nd n2 (fun y => some ((-9 : Int32), y)) (t + 1) (nI (p ^ (Sl led i).length)) (nI i) σ = if (if fl (lo p (Sl led2 5) M2 (M i)) 5 < 5 then nI (fl (lo p (Sl led2 5) M2 (M i)) 5) else -1) < 0 then fX2_leastNew_5 nd n2 (fun y => some ((-9 : Int32), y)) t (nI (p ^ (Sl led i).length * p)) (nI (i + 1)) σ else some (nI (p ^ (Sl led i).length), σ) := by
        show (if (5 : Int32) ≤ nI i then _ else _) = _
        rw [if_neg (lg5 hi), zIx_nI hi (by decide), nI_clamp (by omega), h.1 i hi, if_pos hli, if_neg (by decide), zIx_nI hi (by decide), zB_s, zGd_t (by omega), hnl, zCi_s, zB_s, zB_s, nI_1, h9, nI_mu]
      by_cases hN : fl (lo p (Sl led2 5) M2 (M i)) 5 < 5
      · refine Or.inr ?_
        obtain ⟨B, hB⟩ := Sl_pre hi hli
        have hx : lsN p led M led2 M2 = (Sl led i).length := by
          unfold lsN
          rw [hB]
          exact fx_hit (by unfold isN; exact decide_eq_true hN) hz
        refine ⟨by rw [hx, hB, List.length_append, List.length_cons]; omega, ?_⟩
        rw [hst, if_pos hN, if_neg (by show ¬ nI _ < nI 0; rw [zn_lt (by omega) (by decide)]; omega), hx]
      · refine Or.inl ⟨p ^ (Sl led i).length * p, ⟨?_, ?_⟩, ?_⟩
        · rw [Sl_s, if_pos hli, List.length_append]; rfl
        · intro q hq
          rw [Sl_s, if_pos hli, List.mem_append] at hq
          rcases hq with hq | hq
          · exact hz q hq
          · rw [List.mem_singleton] at hq
            subst hq
            unfold isN; exact decide_eq_false hN
        · rw [hst, if_neg hN, if_pos (by decide)]
    · refine Or.inl ⟨p ^ (Sl led i).length, ⟨by rw [Sl_s, if_neg hli], by rw [Sl_s, if_neg hli]; exact hz⟩, ?_⟩
      show (if (5 : Int32) ≤ nI i then _ else _) = _
      rw [if_neg (lg5 hi), zIx_nI hi (by decide), nI_clamp (by omega), h.1 i hi, if_neg hli, if_pos rfl, zB_s, nI_1]) (by
    rintro t z _
    show (if (5 : Int32) ≤ nI 5 then _ else _) = _
    rw [if_pos (by decide)]) 5 0 1 zN (by decide) ⟨rfl, fun q hq => absurd hq (by show q ∉ []; simp)⟩ (by decide)
  rcases this with ⟨z, ⟨_, hz⟩, e⟩ | ⟨hlt, e⟩
  · rw [if_neg (by unfold lsN; rw [fx_none hz]; omega)]
    exact e
  · rw [if_pos hlt]; exact e
end MX
