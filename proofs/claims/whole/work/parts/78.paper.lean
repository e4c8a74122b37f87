/-! the paper -/
def pC (W : List Int32) (σ : zS) : Prop := σ 19 0 1 = nI W.length ∧ ∀ i v, W[i]? = some v → σ 20 0 i = v
def pM (W : List Int32) (σ : zS) : Prop := σ 21 0 26 = nI W.length ∧ ∀ i v, W[i]? = some v → σ 36 0 i = v
def fC (σ σ' : zS) : Prop := ∀ k i j, k ≠ 19 → k ≠ 20 → σ' k i j = σ k i j
def fM (σ σ' : zS) : Prop := ∀ k i j, k ≠ 36 → ¬ (k = 21 ∧ j = 26) → σ' k i j = σ k i j
theorem fC.t {a b c : zS} (h1 : fC a b) (h2 : fC b c) : fC a c := fun k i j x y => (h2 k i j x y).trans (h1 k i j x y)
theorem fM.t {a b c : zS} (h1 : fM a b) (h2 : fM b c) : fM a c := fun k i j x y => (h2 k i j x y).trans (h1 k i j x y)
theorem fC.r (a : zS) : fC a a := fun _ _ _ _ _ => rfl
theorem fM.r (a : zS) : fM a a := fun _ _ _ _ _ => rfl
theorem app_get {W : List Int32} {v u : Int32} {i : Nat} (h : (W ++ [v])[i]? = some u) : (i < W.length ∧ W[i]? = some u) ∨ (i = W.length ∧ u = v) := by
  rcases Nat.lt_or_ge i W.length with q | q
  · rw [List.getElem?_append_left q] at h; exact Or.inl ⟨q, h⟩
  · rw [List.getElem?_append_right q] at h
    rcases Nat.eq_or_lt_of_le q with z | z
    · rw [z, Nat.sub_self] at h
      exact Or.inr ⟨z.symm, by simpa using h.symm⟩
    · rw [List.getElem?_eq_none (by rw [List.length_singleton]; omega)] at h
      exact absurd h (by simp)
theorem e_put {W : List Int32} {v : Int32} {σ : zS} (h : pC W σ) (hl : W.length < 60) : ∃ σ', fX4_put v σ = some (0, σ') ∧ pC (W ++ [v]) σ' ∧ fC σ σ' := by
  refine ⟨zU (zU σ 20 0 W.length v) 19 0 1 (nI (W.length + 1)), ?_, ⟨?_, ?_⟩, ?_⟩
  · unfold fX4_put
    rw [h.1, if_neg (by show ¬ nI 60 ≤ nI W.length; exact nI_ge hl (by decide)), zIx_nI hl (by decide), nI_clamp (by omega), zB_s, zB_s, zU_k (by decide), h.1, nI_1]
  · rw [zU_s, List.length_append]; rfl
  · intro i u hi
    rw [zU_k (by decide)]
    rcases app_get hi with ⟨a, b⟩ | ⟨a, b⟩
    · rw [zU_j (by omega)]; exact h.2 i u b
    · subst a; rw [zU_s, b]
  · intro k i j a b; rw [zU_k a, zU_k b]
theorem e_writes {W : List Int32} {v : Int32} {σ : zS} (h : pM W σ) (hl : W.length < 60) : ∃ σ', fX9_writes v σ = some (0, σ') ∧ pM (W ++ [v]) σ' ∧ fM σ σ' := by
  refine ⟨zU (zU σ 36 0 W.length v) 21 0 26 (nI (W.length + 1)), ?_, ⟨?_, ?_⟩, ?_⟩
  · unfold fX9_writes
    rw [h.1, zIx_nI hl (by decide), nI_clamp (by omega), zB_s, zB_s, zU_k (by decide), h.1, nI_1]
  · rw [zU_s, List.length_append]; rfl
  · intro i u hi
    rw [zU_k (by decide)]
    rcases app_get hi with ⟨a, b⟩ | ⟨a, b⟩
    · rw [zU_j (by omega)]; exact h.2 i u b
    · subst a; rw [zU_s, b]
  · intro k i j a b; rw [zU_ap, if_neg (fun z => b ⟨z.1, z.2.2⟩), zU_k a]
theorem e_fig {W : List Int32} {v : Int32} {σ : zS} (h : pC W σ) (hl : W.length < 60) : ∃ σ', fX4_putFigure v σ = some (0, σ') ∧ pC (W ++ [48 + v]) σ' ∧ fC σ σ' := by
  obtain ⟨σ', e, a, b⟩ := e_put (v := 48 + v) h hl
  exact ⟨σ', by unfold fX4_putFigure; rw [e, zCv_s], a, b⟩
def ansW (W : List Int32) (a : Int32) : Int32 := if 0 ≤ a then (if nI W.length ≤ a then -9 else (W[a.toNatClampNeg]?).getD 0) else nI W.length
theorem ans_in {W : List Int32} {a : Int32} (hl : W.length ≤ 60) (h0 : 0 ≤ a) (h1 : ¬ nI W.length ≤ a) : ∃ i, i < W.length ∧ a = nI i := by
  rcases zcase a W.length (by omega) with q | q | q
  · rw [zlt_le] at q; exact absurd h0 q
  · exact absurd q h1
  · exact q
theorem e_answer {W : List Int32} {a : Int32} {σ : zS} (h : pC W σ) (hl : W.length ≤ 60) : fX4_answer a σ = some (ansW W a, σ) := by
  unfold fX4_answer ansW
  rw [h.1]
  by_cases h0 : 0 ≤ a
  · rw [if_pos h0, if_pos h0]
    by_cases h1 : nI W.length ≤ a
    · rw [if_pos h1, if_pos h1]
    · obtain ⟨i, hi, rfl⟩ := ans_in hl h0 h1
      rw [if_neg h1, if_neg h1, zIx_nI (by omega) (by decide), nI_clamp (by omega), h.2 i _ (List.getElem?_eq_getElem hi), List.getElem?_eq_getElem hi]; rfl
  · rw [if_neg h0, if_neg h0]
theorem e_signAt {W : List Int32} {a : Int32} {σ : zS} (h : pM W σ) (hl : W.length ≤ 60) : fX9_signAt a σ = some (ansW W a, σ) := by
  unfold fX9_signAt ansW
  rw [h.1]
  by_cases h0 : 0 ≤ a
  · rw [if_pos h0, if_pos h0]
    by_cases h1 : nI W.length ≤ a
    · rw [if_pos h1, if_pos h1]
    · obtain ⟨i, hi, rfl⟩ := ans_in hl h0 h1
      rw [if_neg h1, if_neg h1, zIx_nI (by omega) (by decide), nI_clamp (by omega), h.2 i _ (List.getElem?_eq_getElem hi), List.getElem?_eq_getElem hi]; rfl
  · rw [if_neg h0, if_neg h0]
theorem len_0 {W : List Int32} (hl : W.length ≤ 60) : (nI W.length ≤ 0) = (W = []) := by
  apply propext
  show nI W.length ≤ nI 0 ↔ _
  rw [zn_le (by omega) (by decide)]
  constructor
  · intro h; exact List.length_eq_zero_iff.1 (by omega)
  · rintro rfl; exact Nat.le_refl _
/-! bodies -/
def bd (f : Nat → Nat) (x : Nat) : Nat → Nat
  | 0 => 0
  | i + 1 => if x.testBit i = true then bd f x i ^^^ f i else bd f x i
theorem bd_s (f : Nat → Nat) (x i : Nat) : bd f x (i + 1) = if x.testBit i = true then bd f x i ^^^ f i else bd f x i := rfl
theorem bd_b {f : Nat → Nat} {x : Nat} : ∀ {i : Nat}, i ≤ 10 → (∀ l, l < 10 → f l < 256) → bd f x i < 256
  | 0, _, _ => by show (0 : Nat) < 256; decide
  | i + 1, hi, h => by
    have ih := bd_b (f := f) (x := x) (i := i) (by omega) h
    rw [bd_s]
    split
    · exact Nat.xor_lt_two_pow (n := 8) ih (h i (by omega))
    · exact ih
theorem e_bodyC {σ : zS} {f : Nat → Nat} {x : Nat} (hx : x < 1024) (h : ∀ l, l < 10 → σ 2 0 l = nI (f l)) : fX6_bodyOf (nI x) σ = some (nI (bd f x 10), σ) := by
  obtain ⟨b, hb, e⟩ := zloop (β := Nat) (L := fun t i b => fX6_bodyOf_4 (nI x) (fun u y => some (u, y)) t (nI b) (nI i) σ) (fun i b => b = bd f x i) 10 (fun b => some (nI b, σ)) (by
    rintro t i b hi rfl
    refine ⟨_, rfl, ?_⟩
    show (if (10 : Int32) ≤ nI i then _ else _) = _
    rw [show (10 : Int32) = nI 10 from rfl, if_neg (nI_ge hi (by decide))]
    simp only [zn_bit1 (show x < 2 ^ 31 by omega) (show i < 32 by omega)]
    rw [bd_s]
    cases x.testBit i with
    | true => rw [if_pos rfl, if_pos rfl, zIx_nI hi (by decide), zB_s, zB_s, nI_1, nI_clamp (by omega), h i hi, zn_xor]
    | false => rw [if_neg (by decide), if_neg (by decide), zB_s, nI_1]) (by
    rintro t b _
    show (if (10 : Int32) ≤ nI 10 then _ else _) = _
    rw [if_pos (by decide)]) 10 0 0 zN (by decide) rfl (by decide)
  rw [hb] at e; exact e
theorem e_bodyM {σ : zS} {f : Nat → Nat} {x : Nat} (hx : x < 1024) (h : ∀ l, l < 10 → σ 22 0 l = nI (f l)) : fX9_bodyBy (nI x) σ = some (nI (bd f x 10), σ) := by
  obtain ⟨b, hb, e⟩ := zloop (β := Nat) (L := fun t i b => fX9_bodyBy_4 (nI x) (fun u y => some (u, y)) t (nI b) (nI i) σ) (fun i b => b = bd f x i) 10 (fun b => some (nI b, σ)) (by
    rintro t i b hi rfl
    refine ⟨_, rfl, ?_⟩
    show (if (10 : Int32) ≤ nI i then _ else _) = _
    rw [show (10 : Int32) = nI 10 from rfl, if_neg (nI_ge hi (by decide)), e_isIn (by omega) (by omega), zCi_s]
    rw [bd_s]
    cases x.testBit i with
    | true => rw [if_pos rfl, if_pos rfl, if_neg (by decide), zIx_nI hi (by decide), zB_s, zB_s, nI_1, nI_clamp (by omega), h i hi, zn_xor]
    | false => rw [if_pos (by decide), if_neg (by decide), zB_s, zB_s, nI_1, show nI (bd f x i) ^^^ 0 = nI (bd f x i) by simp]) (by
    rintro t b _
    show (if (10 : Int32) ≤ nI 10 then _ else _) = _
    rw [if_pos (by decide)]) 10 0 0 zN (by decide) rfl (by decide)
  rw [hb] at e; exact e
/-! the text of a sum -/
def tx (x : Nat) : Nat → List Int32
  | 0 => []
  | i + 1 => if x.testBit i = true then (if tx x i = [] then [48 + nI i] else tx x i ++ [43] ++ [48 + nI i]) else tx x i
theorem tx_l (x : Nat) : ∀ i, (tx x i).length ≤ 2 * i
  | 0 => Nat.le_refl _
  | i + 1 => by
    have := tx_l x i
    unfold tx
    split
    · split
      · simp; omega
      · simp; omega
    · omega
def dg (v : Nat) : List Int32 := if v < 10 then [48 + nI (v % 10)] else if v < 100 then [48 + nI (v / 10 % 10), 48 + nI (v % 10)] else [48 + nI (v / 100), 48 + nI (v / 10 % 10), 48 + nI (v % 10)]
theorem d10 {v : Nat} (h : v < 1000) : nI v - nI v / (10 : Int32) * (10 : Int32) = nI (v % 10) := by
  show nI v - nI v / nI 10 * nI 10 = _
  rw [iI_n v, iI_mod (by omega) (by omega) (by decide), iI_n, Int.natCast_emod]
theorem q10 {v : Nat} (h : v < 1000) : nI v / (10 : Int32) = nI (v / 10) := by
  show nI v / nI 10 = _
  rw [iI_n v, iI_div (by omega) (by omega) (by decide), iI_n, Int.natCast_ediv]
theorem q100 {v : Nat} (h : v < 1000) : nI v / (100 : Int32) = nI (v / 100) := by
  show nI v / nI 100 = _
  rw [iI_n v, iI_div (by omega) (by omega) (by decide), iI_n, Int.natCast_ediv]
theorem lt10 {v : Nat} (h : v < 1000) : (nI v < (10 : Int32)) = (v < 10) := zn_lt (by omega) (by decide)
theorem lt100 {v : Nat} (h : v < 1000) : (nI v < (100 : Int32)) = (v < 100) := zn_lt (by omega) (by decide)
theorem e_putBody {W : List Int32} {v : Nat} {σ : zS} (hv : v < 256) (h : pC W σ) (hl : W.length < 50) : ∃ σ', fX4_putBody (nI v) σ = some (0, σ') ∧ pC (W ++ dg v) σ' ∧ fC σ σ' := by
  have t2 : ∀ (W : List Int32) (σ : zS), pC W σ → W.length < 52 → ∃ σ', zGd (¬ (10 : Int32) = 0) (zGd (¬ (10 : Int32) = 0) (zCv (fX4_putFigure (nI (v / 10 % 10)) σ) (fun s5 => zGd (¬ (10 : Int32) = 0) (zCv (fX4_putFigure (nI (v % 10)) s5) (fun s7 => some ((0 : Int32), s7)))))) = some (0, σ') ∧ pC (W ++ [48 + nI (v / 10 % 10), 48 + nI (v % 10)]) σ' ∧ fC σ σ' := by
    intro W σ h hl
    obtain ⟨a, e1, p1, f1⟩ := e_fig (v := nI (v / 10 % 10)) h (by omega)
    obtain ⟨b, e2, p2, f2⟩ := e_fig (v := nI (v % 10)) p1 (by rw [List.length_append, List.length_singleton]; omega)
    refine ⟨b, by rw [zGd_t (by decide), zGd_t (by decide), e1, zCv_s, zGd_t (by decide), e2, zCv_s], ?_, f1.t f2⟩
    rw [List.append_assoc] at p2
    exact p2
  unfold fX4_putBody dg
  simp only [lt10 (show v < 1000 by omega), lt100 (show v < 1000 by omega)]
  rw [d10 (by omega), q10 (by omega), q100 (by omega), d10 (show v / 10 < 1000 by omega)]
  by_cases h1 : v < 10
  · obtain ⟨a, e1, p1, f1⟩ := e_fig (v := nI (v % 10)) h (by omega)
    refine ⟨a, ?_, ?_, f1⟩
    · rw [if_pos (by omega), if_pos h1, zGd_t (by decide), e1, zCv_s]
    · rw [if_pos h1]; exact p1
  · by_cases h2 : v < 100
    · obtain ⟨b, e, p, f⟩ := t2 W σ h (by omega)
      refine ⟨b, ?_, ?_, f⟩
      · rw [if_pos h2, if_neg h1]; exact e
      · rw [if_neg h1, if_pos h2]; exact p
    · obtain ⟨a, e1, p1, f1⟩ := e_fig (v := nI (v / 100)) h (by omega)
      obtain ⟨b, e, p, f⟩ := t2 _ a p1 (by rw [List.length_append, List.length_singleton]; omega)
      refine ⟨b, ?_, ?_, f1.t f⟩
      · rw [if_neg h2, zGd_t (by decide), e1, zCv_s, if_neg h1]; exact e
      · rw [if_neg h1, if_neg h2]
        rw [List.append_assoc] at p
        exact p
theorem e_wNum {W : List Int32} {v : Nat} {σ : zS} (hv : v < 256) (h : pM W σ) (hl : W.length < 50) : ∃ σ', fX9_writesNumber (nI v) σ = some (0, σ') ∧ pM (W ++ dg v) σ' ∧ fM σ σ' := by
  have l9 : (nI v ≤ (9 : Int32)) = (v < 10) := by
    have : (nI v ≤ nI 9) = (v ≤ 9) := zn_le (by omega) (by decide)
    refine Eq.trans this (propext ⟨by omega, by omega⟩)
  have l99 : (nI v ≤ (99 : Int32)) = (v < 100) := by
    have : (nI v ≤ nI 99) = (v ≤ 99) := zn_le (by omega) (by decide)
    refine Eq.trans this (propext ⟨by omega, by omega⟩)
  have q1 : nI v / (1 : Int32) = nI v := by
    show nI v / nI 1 = _
    rw [iI_n v, iI_div (by omega) (by omega) (by decide)]
    congr 1; omega
  have h10 : v / 100 % 10 = v / 100 := by omega
  unfold fX9_writesNumber dg
  simp only [l9, l99]
  by_cases h1 : v < 10
  · obtain ⟨a, e1, p1, f1⟩ := e_writes (v := 48 + nI (v % 10)) h (by omega)
    refine ⟨a, ?_, ?_, f1⟩
    · rw [if_pos (by omega), if_pos h1]
      show (if (1 : Int32) ≤ 0 then _ else _) = _
      rw [if_neg (by decide), zGd_t (by decide), zGd_t (by decide), q1, d10 (by omega), e1, zCv_s, zGd_t (by decide), zB_s]
      rfl
    · rw [if_pos h1]; exact p1
  · by_cases h2 : v < 100
    · obtain ⟨a, e1, p1, f1⟩ := e_writes (v := 48 + nI (v / 10 % 10)) h (by omega)
      obtain ⟨b, e2, p2, f2⟩ := e_writes (v := 48 + nI (v % 10)) p1 (by rw [List.length_append, List.length_singleton]; omega)
      refine ⟨b, ?_, ?_, f1.t f2⟩
      · rw [if_pos h2, if_neg h1]
        show (if (10 : Int32) ≤ 0 then _ else _) = _
        rw [if_neg (by decide), zGd_t (by decide), zGd_t (by decide), q10 (by omega), d10 (by omega), e1, zCv_s, zGd_t (by decide), zB_s]
        show (if (1 : Int32) ≤ 0 then _ else _) = _
        rw [if_neg (by decide), show (10 : Int32) / 10 = 1 by decide, zGd_t (by decide), zGd_t (by decide), q1, d10 (by omega), e2, zCv_s, zGd_t (by decide), zB_s]
        rfl
      · rw [if_neg h1, if_pos h2]
        rw [List.append_assoc] at p2
        exact p2
    · obtain ⟨a, e1, p1, f1⟩ := e_writes (v := 48 + nI (v / 100)) h (by omega)
      obtain ⟨b, e2, p2, f2⟩ := e_writes (v := 48 + nI (v / 10 % 10)) p1 (by rw [List.length_append, List.length_singleton]; omega)
      obtain ⟨c, e3, p3, f3⟩ := e_writes (v := 48 + nI (v % 10)) p2 (by rw [List.length_append, List.length_append, List.length_singleton, List.length_singleton]; omega)
      refine ⟨c, ?_, ?_, (f1.t f2).t f3⟩
      · rw [if_neg h2]
        show (if (100 : Int32) ≤ 0 then _ else _) = _
        rw [if_neg (by decide), zGd_t (by decide), zGd_t (by decide), q100 (by omega), d10 (by omega), h10, e1, zCv_s, zGd_t (by decide), zB_s]
        show (if (10 : Int32) ≤ 0 then _ else _) = _
        rw [if_neg (by decide), show (100 : Int32) / 10 = 10 by decide, zGd_t (by decide), zGd_t (by decide), q10 (by omega), d10 (by omega), e2, zCv_s, zGd_t (by decide), zB_s]
        show (if (1 : Int32) ≤ 0 then _ else _) = _
        rw [if_neg (by decide), show (10 : Int32) / 10 = 1 by decide, zGd_t (by decide), zGd_t (by decide), q1, d10 (by omega), e3, zCv_s, zGd_t (by decide), zB_s]
        rfl
      · rw [if_neg h1, if_neg h2]
        rw [List.append_assoc, List.append_assoc] at p3
        exact p3
