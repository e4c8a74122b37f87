/-! sums -/
/-- which letter is read where y is wanting -/
def rdN (y : Nat) : Option Nat := (List.range 10).find? (fun l => y == 2 ^ l)
def rvI (o : Option Nat) : Int32 := match o with
  | none => -9
  | some l => nI l
theorem rd_dec : ∀ y, y < 1024 → rbI (nI y) = rvI (rdN y) := by decide +kernel
theorem rd_y {y l : Nat} (h : rdN y = some l) : l < 10 ∧ y = 2 ^ l := by
  have h1 := List.mem_of_find?_eq_some h
  have h2 := List.find?_some h
  exact ⟨List.mem_range.mp h1, by simpa using h2⟩
theorem rd_pow : ∀ l, l < 10 → rdN (2 ^ l) = some l := by decide +kernel
theorem rv_9 (o : Option Nat) (h : ∀ l, o = some l → l < 10) : (rvI o = -9) = (o = none) := by
  cases o with
  | none => simp [rvI]
  | some l =>
    have hl := h l rfl
    have : ¬ nI l = -9 := fun z => by have := nI_pos (n := l) (by omega); rw [z] at this; exact this (by decide)
    simp [rvI, this]
theorem rv_n (o : Option Nat) (h : ∀ l, o = some l → l < 10) {l : Nat} (hl : l < 10) : (rvI o = nI l) = (o = some l) := by
  cases o with
  | none =>
    have : ¬ (-9 : Int32) = nI l := fun z => by have := nI_pos (n := l) (by omega); rw [← z] at this; exact this (by decide)
    simp [rvI, this]
  | some k =>
    have hk := h k rfl
    show (nI k = nI l) = _
    rw [zn_eq (by omega) (by omega)]
    simp
def C1 (T a : Nat) (m : Int32) (Hd : Nat → Nat) (Q : List (Nat × Nat)) (σ : zS) : Prop := T < 1024 ∧ σ 1 0 3 = nI T ∧ a < 256 ∧ σ 1 0 4 = nI a ∧ σ 1 0 5 = m ∧ (∀ s, s < 8 → σ 3 0 s = nI (Hd s) ∧ Hd s < 1024 ∧ lk (Hd s) T = 0) ∧ qV T Q ∧ qR (σ 4 0 2) (σ 5 0) (σ 6 0) Q
def M1 (T a : Nat) (m : Int32) (Hd : Nat → Nat) (Q : List (Nat × Nat)) (σ : zS) : Prop := T < 1024 ∧ σ 21 0 0 = nI T ∧ a < 256 ∧ σ 21 0 6 = nI a ∧ σ 21 0 7 = m ∧ (∀ s, s < 8 → σ 23 0 s = nI (Hd s) ∧ Hd s < 1024 ∧ lk (Hd s) T = 0) ∧ qV T Q ∧ qR (σ 21 0 3) (σ 24 0) (σ 25 0) Q
theorem I1.C {T : Nat} {Hd : Nat → Nat} {Q : List (Nat × Nat)} {σ : zS} (h : I1 T Hd Q σ) : ∃ a, C1 T a (σ 1 0 5) Hd Q σ ∧ M1 T a (σ 1 0 5) Hd Q σ := by
  obtain ⟨⟨hT, hA1, hA2⟩, ⟨b1, ⟨a, ha, b2⟩, b3, b4, b5⟩, hC, hD, hV, r1, r2⟩ := h
  exact ⟨a, ⟨hT, hA1, ha, b2, rfl, fun s hs => ⟨(hD s hs).1, (hD s hs).2.2⟩, hV, r1⟩, ⟨hT, hA2, ha, b1.trans b2, b3, fun s hs => ⟨(hD s hs).2.1, (hD s hs).2.2⟩, hV, r2⟩⟩
theorem M1.c {T a : Nat} {m : Int32} {Hd : Nat → Nat} {Q : List (Nat × Nat)} {σ σ' : zS} (h : M1 T a m Hd Q σ) (h1 : ∀ k i j, 21 ≤ k → σ' k i j = σ k i j) : M1 T a m Hd Q σ' := by
  unfold M1
  rw [h1 21 0 0 (by decide), h1 21 0 6 (by decide), h1 21 0 7 (by decide), h1 21 0 3 (by decide), show σ' 24 0 = σ 24 0 from funext fun j => h1 24 0 j (by decide), show σ' 25 0 = σ 25 0 from funext fun j => h1 25 0 j (by decide), show σ' 23 0 = σ 23 0 from funext fun j => h1 23 0 j (by decide)]
  exact h
def srv (a x : Nat) (Hd : Nat → Nat) (q : Nat × Nat) : Bool := a.testBit q.2 && (rdN (lk x (Hd q.2)) == some q.1)
def cnt (a : Nat) (Hd : Nat → Nat) (Q : List (Nat × Nat)) (x : Nat) : Nat := Q.countP (srv a x Hd)
theorem e_isOnAir {a s : Nat} {σ : zS} (ha : a < 256) (hs : s < 8) (h : σ 1 0 4 = nI a) : fX6_isOnAir (nI s) σ = some (if a.testBit s then 1 else 0, σ) := by
  unfold fX6_isOnAir
  rw [h]
  simp only [zn_bit1 (show a < 2 ^ 31 by omega) (show s < 32 by omega)]
  split <;> rfl
theorem cnt_s {Q : List (Nat × Nat)} {p : Nat × Nat → Bool} {i : Nat} (hi : i < Q.length) : (Q.take (i + 1)).countP p = (Q.take i).countP p + if p (Q[i]'hi) then 1 else 0 := by
  rw [ztake_s hi, List.countP_append, List.countP_cons, List.countP_nil, Nat.zero_add]
theorem e_countServed {T a : Nat} {m : Int32} {Hd : Nat → Nat} {Q : List (Nat × Nat)} {σ : zS} (h : C1 T a m Hd Q σ) {x : Nat} (hx : x < 1024) : fX6_countServed (nI x) σ = some (nI (cnt a Hd Q x), σ) := by
  obtain ⟨hT, h1, ha, h2, h3, h4, hV, hR⟩ := h
  have hn : Q.length ≤ 16 := hV.1
  obtain ⟨c, hc, e⟩ := zloop (β := Nat) (L := fun n i c => fX6_countServed_4 (nI x) (fun u y => some (u, y)) n (nI c) (nI i) σ) (fun i c => c = (Q.take i).countP (srv a x Hd)) Q.length (fun c => some (nI c, σ)) (by
    intro n i c hi hc
    refine ⟨(Q.take (i + 1)).countP (srv a x Hd), rfl, ?_⟩
    obtain ⟨e1, e2⟩ := qR_at hR hi
    obtain ⟨v1, v2, -⟩ := hV.2.2 _ (List.getElem_mem hi)
    obtain ⟨d1, d2, d3⟩ := h4 _ v2
    have hlk : lk x (Hd (Q[i]'hi).2) < 1024 := Nat.lt_of_le_of_lt (lk_le _ _) hx
    show (if σ 4 0 2 ≤ nI i then _ else _) = _
    rw [hR.1, if_neg (nI_ge hi (by omega)), zIx_nI (show i < 16 by omega) (by decide), zB_s, nI_clamp (by omega), e2, e_isOnAir ha v2 h2, zCi_s, cnt_s hi, ← hc]
    unfold srv
    cases hb : a.testBit (Q[i]'hi).2 with
    | false =>
      rw [if_pos (by decide), zB_s, nI_1]
      rfl
    | true =>
      rw [if_neg (by decide), e_readBy v2 d1, zCi_s, zIx_nI (show i < 16 by omega) (by decide), e1, rd_dec _ hlk]
      simp only [rv_n _ (fun l hl => (rd_y hl).1) v1]
      by_cases hq : rdN (lk x (Hd (Q[i]'hi).2)) = some (Q[i]'hi).1
      · rw [if_pos hq, zB_s, zB_s, nI_1, nI_1, hq]
        simp
      · rw [if_neg hq, zB_s, nI_1]
        have : (rdN (lk x (Hd (Q[i]'hi).2)) == some (Q[i]'hi).1) = false := by simpa using hq
        rw [this]
        rfl) (by
    intro n c _
    show (if σ 4 0 2 ≤ nI Q.length then _ else _) = _
    rw [hR.1, if_pos (nI_le (Nat.le_refl _) (by omega))]) Q.length 0 0 zN (by omega) rfl (Nat.lt_of_le_of_lt hn (by decide))
  rw [List.take_length] at hc
  refine Eq.trans (show fX6_countServed (nI x) σ = _ from e) ?_
  rw [hc]; rfl
theorem e_serves {T a : Nat} {m : Int32} {Hd : Nat → Nat} {Q : List (Nat × Nat)} {σ : zS} (h : M1 T a m Hd Q σ) {x : Nat} (hx : x < 1024) {i : Nat} (hi : i < Q.length) : fX9_serves (nI x) (nI i) σ = some (if srv a x Hd (Q[i]'hi) then 1 else 0, σ) := by
  obtain ⟨hT, h1, ha, h2, h3, h4, hV, hR⟩ := h
  have hn : Q.length ≤ 16 := hV.1
  obtain ⟨e1, e2⟩ := qR_at hR hi
  obtain ⟨v1, v2, -⟩ := hV.2.2 _ (List.getElem_mem hi)
  obtain ⟨d1, d2, d3⟩ := h4 _ v2
  have hlk : lk x (Hd (Q[i]'hi).2) < 1024 := Nat.lt_of_le_of_lt (lk_le _ _) hx
  unfold fX9_serves srv
  rw [zIx_nI (show i < 16 by omega) (by decide), zB_s, nI_clamp (by omega), e2, h2, e_isIn (by omega) (by omega), zCi_s]
  cases hb : a.testBit (Q[i]'hi).2 with
  | false => rw [if_pos (by decide)]; rfl
  | true =>
    rw [if_neg (by decide), e_readByM v2 hx d1, zCi_s, zIx_nI (show i < 16 by omega) (by decide), e1, rd_dec _ hlk]
    simp only [rv_n _ (fun l hl => (rd_y hl).1) v1]
    by_cases hq : rdN (lk x (Hd (Q[i]'hi).2)) = some (Q[i]'hi).1
    · rw [if_pos hq, hq]; simp
    · rw [if_neg hq]
      have : (rdN (lk x (Hd (Q[i]'hi).2)) == some (Q[i]'hi).1) = false := by simpa using hq
      rw [this]
      rfl
theorem e_manyServed {T a : Nat} {m : Int32} {Hd : Nat → Nat} {Q : List (Nat × Nat)} {σ : zS} (h : M1 T a m Hd Q σ) {x : Nat} (hx : x < 1024) : fX9_manyServed (nI x) σ = some (nI (cnt a Hd Q x), σ) := by
  have hh := h
  obtain ⟨hT, h1, ha, h2, h3, h4, hV, hR⟩ := h
  have hn : Q.length ≤ 16 := hV.1
  obtain ⟨c, hc, e⟩ := zloop (β := Nat) (L := fun n i c => fX9_manyServed_4 (nI x) (fun u y => some (u, y)) n (nI c) (nI i) σ) (fun i c => c = (Q.take i).countP (srv a x Hd)) Q.length (fun c => some (nI c, σ)) (by
    intro n i c hi hc
    refine ⟨(Q.take (i + 1)).countP (srv a x Hd), rfl, ?_⟩
    show (if σ 21 0 3 ≤ nI i then _ else _) = _
    rw [hR.1, if_neg (nI_ge hi (by omega)), e_serves hh hx hi, zCi_s, cnt_s hi, ← hc]
    cases srv a x Hd (Q[i]'hi) with
    | false =>
      rw [if_pos (by decide), zB_s, zB_s, nI_1, show nI c + 0 = nI c by simp]
      rfl
    | true =>
      rw [if_neg (by decide), zB_s, zB_s, nI_1, nI_1]
      rfl) (by
    intro n c _
    show (if σ 21 0 3 ≤ nI Q.length then _ else _) = _
    rw [hR.1, if_pos (nI_le (Nat.le_refl _) (by omega))]) Q.length 0 0 zN (by omega) rfl (Nat.lt_of_le_of_lt hn (by decide))
  rw [List.take_length] at hc
  refine Eq.trans (show fX9_manyServed (nI x) σ = _ from e) ?_
  rw [hc]; rfl
theorem cnt_le {a : Nat} {Hd : Nat → Nat} {Q : List (Nat × Nat)} {x : Nat} : cnt a Hd Q x ≤ Q.length := List.countP_le_length
theorem c_reads (a b : Int32) (σ : zS) (h : J1 σ) : Cs1 σ (fX8_reads a b) (fX9_reads a b) := by
  obtain ⟨T, Hd, Q, hI⟩ := id h
  obtain ⟨⟨hT, hA1, hA2⟩, hB, hC, hD, hE⟩ := id hI
  cases hs1 : statB a with
  | false => exact Cs1.same h (r := -1) (by unfold fX8_reads; rw [e_isStation, hs1]; rfl) (by unfold fX9_reads; rw [e_isStationM, hs1]; rfl)
  | true =>
    obtain ⟨s, hs, rfl⟩ := statB_y hs1
    obtain ⟨d1, d2, d3, d4⟩ := hD s hs
    cases hb : sumB T b with
    | false => exact Cs1.same h (r := -2) (by unfold fX8_reads; rw [e_isStation, hs1, zCi_s, if_neg (by decide), e_isSum _ _ hA1, hb]; rfl) (by unfold fX9_reads; rw [e_isStationM, hs1, zCi_s, if_neg (by decide), e_isSumM hT _ _ hA2, hb]; rfl)
    | true =>
      obtain ⟨x, x0, x1, rfl, x2⟩ := sumB_y hT hb
      exact Cs1.same h (r := rbI (nI (lk x (Hd s)))) (by unfold fX8_reads; rw [e_isStation, hs1, zCi_s, if_neg (by decide), e_isSum _ _ hA1, hb, zCi_s, if_neg (by decide), e_readBy hs d1]; rfl) (by unfold fX9_reads; rw [e_isStationM, hs1, zCi_s, if_neg (by decide), e_isSumM hT _ _ hA2, hb, zCi_s, if_neg (by decide), e_readByM hs x1 d2]; rfl)
/-! bodies and openers: both loops go alike -/
theorem e_body {σ : zS} (hC : iC σ) {x : Nat} (hx : x < 1024) : ∃ v, v < 256 ∧ fX6_bodyOf (nI x) σ = some (nI v, σ) ∧ fX9_bodyBy (nI x) σ = some (nI v, σ) := by
  obtain ⟨⟨v, w⟩, ⟨hv, hw⟩, e⟩ := zloop (β := Nat × Option (Int32 × zS)) (L := fun n i c => (fX6_bodyOf_4 (nI x) (fun u y => some (u, y)) n (nI c.1) (nI i) σ).bind fun r => (fX9_bodyBy_4 (nI x) (fun u y => some (u, y)) n (nI c.1) (nI i) σ).map fun t => (r, t)) (fun i c => c.1 < 256 ∧ True) 10 (fun c => some ((nI c.1, σ), (nI c.1, σ))) (by
    intro n i c hi hc
    obtain ⟨v, w⟩ := c
    obtain ⟨q1, y, hy, q2⟩ := hC i hi
    have p1 : ∀ n, fX6_bodyOf_4 (nI x) (fun u y => some (u, y)) (n + 1) (nI v) (nI i) σ = fX6_bodyOf_4 (nI x) (fun u y => some (u, y)) n (nI (if x.testBit i then v ^^^ y else v)) (nI (i + 1)) σ := by
      intro n
      show (if (10 : Int32) ≤ nI i then _ else _) = _
      rw [show (10 : Int32) = nI 10 from rfl, if_neg (nI_ge hi (by decide))]
      simp only [zn_bit1 (show x < 2 ^ 31 by omega) (show i < 32 by omega)]
      cases x.testBit i with
      | true => rw [if_pos rfl, zIx_nI hi (by decide), zB_s, zB_s, nI_1, nI_clamp (by omega), q2, zn_xor]; rfl
      | false => rw [if_neg (by decide), zB_s, nI_1]; rfl
    have p2 : ∀ n, fX9_bodyBy_4 (nI x) (fun u y => some (u, y)) (n + 1) (nI v) (nI i) σ = fX9_bodyBy_4 (nI x) (fun u y => some (u, y)) n (nI (if x.testBit i then v ^^^ y else v)) (nI (i + 1)) σ := by
      intro n
      show (if (10 : Int32) ≤ nI i then _ else _) = _
      rw [show (10 : Int32) = nI 10 from rfl, if_neg (nI_ge hi (by decide)), e_isIn (by omega) (by omega), zCi_s]
      cases x.testBit i with
      | true => rw [if_neg (by decide), zIx_nI hi (by decide), zB_s, zB_s, nI_1, nI_clamp (by omega), q1, q2, zn_xor]; rfl
      | false => rw [if_pos (by decide), zB_s, zB_s, nI_1, show nI v ^^^ 0 = nI v by simp]; rfl
    refine ⟨(if x.testBit i then v ^^^ y else v, none), ⟨?_, trivial⟩, ?_⟩
    · dsimp only
      split
      · exact Nat.xor_lt_two_pow (n := 8) hc.1 hy
      · exact hc.1
    · dsimp only
      rw [p1, p2]) (by
    intro n c _
    have p1 : fX6_bodyOf_4 (nI x) (fun u y => some (u, y)) (n + 1) (nI c.1) (nI 10) σ = some (nI c.1, σ) := by
      show (if (10 : Int32) ≤ nI 10 then _ else _) = _
      rw [if_pos (by decide)]
    have p2 : fX9_bodyBy_4 (nI x) (fun u y => some (u, y)) (n + 1) (nI c.1) (nI 10) σ = some (nI c.1, σ) := by
      show (if (10 : Int32) ≤ nI 10 then _ else _) = _
      rw [if_pos (by decide)]
    rw [p1, p2]; rfl) 10 0 (0, none) zN (by decide) ⟨by decide, trivial⟩ (by decide)
  dsimp only at hv e
  cases h1 : fX6_bodyOf (nI x) σ with
  | none =>
    have : fX6_bodyOf_4 (nI x) (fun u y => some (u, y)) zN (nI 0) (nI 0) σ = none := h1
    rw [this] at e; cases e
  | some r1 =>
    have g1 : fX6_bodyOf_4 (nI x) (fun u y => some (u, y)) zN (nI 0) (nI 0) σ = some r1 := h1
    cases h2 : fX9_bodyBy (nI x) σ with
    | none =>
      have : fX9_bodyBy_4 (nI x) (fun u y => some (u, y)) zN (nI 0) (nI 0) σ = none := h2
      rw [g1, this] at e; cases e
    | some r2 =>
      have g2 : fX9_bodyBy_4 (nI x) (fun u y => some (u, y)) zN (nI 0) (nI 0) σ = some r2 := h2
      rw [g1, g2] at e
      have e2 : (r1, r2) = ((nI v, σ), (nI v, σ)) := Option.some.inj e
      exact ⟨v, hv, by rw [(Prod.mk.inj e2).1], by rw [(Prod.mk.inj e2).2]⟩
