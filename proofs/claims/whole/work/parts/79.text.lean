/-! text and rows -/
theorem tx_s (x i : Nat) : tx x (i + 1) = if x.testBit i = true then (if tx x i = [] then [48 + nI i] else tx x i ++ [43] ++ [48 + nI i]) else tx x i := rfl
theorem pC_0 (σ : zS) : pC [] (zU σ 19 0 1 0) := ⟨by rw [zU_s]; rfl, fun i v h => by simp at h⟩
theorem pM_0 (σ : zS) : pM [] (zU σ 21 0 26 0) := ⟨by rw [zU_s]; rfl, fun i v h => by simp at h⟩
theorem dg_l (v : Nat) : (dg v).length ≤ 3 := by
  unfold dg
  split
  · simp
  · split <;> simp
theorem e_writeSum {x v : Nat} {σ : zS} (hx : x < 1024) (hv : v < 256) : ∃ σ', fX4_writeSum (nI x) (nI v) σ = some (0, σ') ∧ pC (tx x 10 ++ [32] ++ dg v) σ' ∧ fC σ σ' := by
  generalize hK : (fun (y7_2 : zS) => (zCv (fX4_put (32 : Int32) y7_2) (fun s3 => zCv (fX4_putBody (nI v) s3) (fun s4 => some ((0 : Int32), s4))) : Option (Int32 × zS))) = K
  obtain ⟨w, ⟨w1, w2⟩, e⟩ := zloop (β := zS) (L := fun t i y => fX4_writeSum_7 (nI x) K t (nI i) y) (fun i y => pC (tx x i) y ∧ fC σ y) 10 K (by
    rintro t i y hi ⟨w1, w2⟩
    have hl := tx_l x i
    have hst : fX4_writeSum_7 (nI x) K (t + 1) (nI i) y = if x.testBit i = true then (if tx x i = [] then zCv (fX4_putFigure (nI i) y) (fun s6 => fX4_writeSum_7 (nI x) K t (nI (i + 1)) s6) else zCv (fX4_put (43 : Int32) y) (fun s8 => zCv (fX4_putFigure (nI i) s8) (fun s9 => fX4_writeSum_7 (nI x) K t (nI (i + 1)) s9))) else fX4_writeSum_7 (nI x) K t (nI (i + 1)) y := by
      show (if (10 : Int32) ≤ nI i then _ else _) = _
      rw [show (10 : Int32) = nI 10 from rfl, if_neg (nI_ge hi (by decide)), w1.1]
      simp only [zn_bit1 (show x < 2 ^ 31 by omega) (show i < 32 by omega), len_0 (show (tx x i).length ≤ 60 by omega), zB_s, nI_1]
    rw [hst, tx_s]
    by_cases hb : x.testBit i = true
    · rw [if_pos hb, if_pos hb]
      by_cases h0 : tx x i = []
      · rw [if_pos h0, if_pos h0]
        obtain ⟨a, e1, p1, f1⟩ := e_fig (v := nI i) w1 (by omega)
        rw [h0] at p1
        exact ⟨a, ⟨p1, w2.t f1⟩, by rw [e1, zCv_s]⟩
      · rw [if_neg h0, if_neg h0]
        obtain ⟨a, e1, p1, f1⟩ := e_put (v := 43) w1 (by omega)
        obtain ⟨b, e2, p2, f2⟩ := e_fig (v := nI i) p1 (by rw [List.length_append, List.length_singleton]; omega)
        exact ⟨b, ⟨p2, (w2.t f1).t f2⟩, by rw [e1, zCv_s, e2, zCv_s]⟩
    · rw [if_neg hb, if_neg hb]
      exact ⟨y, ⟨w1, w2⟩, rfl⟩) (by
    rintro t y _
    show (if (10 : Int32) ≤ nI 10 then _ else _) = _
    rw [if_pos (by decide)]) 10 0 (zU σ 19 0 1 0) zN (by decide) ⟨pC_0 σ, fun k i j a b => zU_k a⟩ (by decide)
  have hl := tx_l x 10
  obtain ⟨a, e1, p1, f1⟩ := e_put (v := 32) w1 (by omega)
  obtain ⟨b, e2, p2, f2⟩ := e_putBody (v := v) hv p1 (by rw [List.length_append, List.length_singleton]; omega)
  refine ⟨b, ?_, p2, (w2.t f1).t f2⟩
  unfold fX4_writeSum
  rw [zB_s, hK]
  refine Eq.trans e ?_
  rw [← hK]
  dsimp only
  rw [e1, zCv_s, e2, zCv_s]
theorem e_textM {x : Nat} {c : Int32} {f : Nat → Nat} {σ : zS} (hx : x < 1024) (hf : ∀ l, l < 10 → f l < 256) (h : ∀ l, l < 10 → σ 22 0 l = nI (f l)) : ∃ σ', fX9_text_28 (nI x) (fun (y28_6 : zS) => (zCv (fX9_writes (32 : Int32) y28_6) (fun s7 => zCi (fX9_bodyBy (nI x) s7) (fun x9 s8 => zCv (fX9_writesNumber x9 s8) (fun s10 => zCi (fX9_signAt c s10) (fun x12 s11 => some (x12, s11))))) : Option (Int32 × zS))) zN (0 : Int32) (zU σ 21 0 26 0) = some (ansW (tx x 10 ++ [32] ++ dg (bd f x 10)) c, σ') ∧ fM σ σ' := by
  generalize hK : (fun (y28_6 : zS) => (zCv (fX9_writes (32 : Int32) y28_6) (fun s7 => zCi (fX9_bodyBy (nI x) s7) (fun x9 s8 => zCv (fX9_writesNumber x9 s8) (fun s10 => zCi (fX9_signAt c s10) (fun x12 s11 => some (x12, s11))))) : Option (Int32 × zS))) = K
  obtain ⟨w, ⟨w1, w2⟩, e⟩ := zloop (β := zS) (L := fun t i y => fX9_text_28 (nI x) K t (nI i) y) (fun i y => pM (tx x i) y ∧ fM σ y) 10 K (by
    rintro t i y hi ⟨w1, w2⟩
    have hl := tx_l x i
    have hst : fX9_text_28 (nI x) K (t + 1) (nI i) y = if x.testBit i = true then (if tx x i = [] then zCv (fX9_writes (48 + nI i) y) (fun s6 => fX9_text_28 (nI x) K t (nI (i + 1)) s6) else zCv (fX9_writes (43 : Int32) y) (fun s8 => zCv (fX9_writes (48 + nI i) s8) (fun s9 => fX9_text_28 (nI x) K t (nI (i + 1)) s9))) else fX9_text_28 (nI x) K t (nI (i + 1)) y := by
      show (if (10 : Int32) ≤ nI i then _ else _) = _
      rw [show (10 : Int32) = nI 10 from rfl, if_neg (nI_ge hi (by decide)), e_isIn (by omega) (by omega), zCi_s, w1.1]
      simp only [len_0 (show (tx x i).length ≤ 60 by omega), zB_s, nI_1]
      cases x.testBit i <;> rfl
    rw [hst, tx_s]
    by_cases hb : x.testBit i = true
    · rw [if_pos hb, if_pos hb]
      by_cases h0 : tx x i = []
      · rw [if_pos h0, if_pos h0]
        obtain ⟨a, e1, p1, f1⟩ := e_writes (v := 48 + nI i) w1 (by omega)
        rw [h0] at p1
        exact ⟨a, ⟨p1, w2.t f1⟩, by rw [e1, zCv_s]⟩
      · rw [if_neg h0, if_neg h0]
        obtain ⟨a, e1, p1, f1⟩ := e_writes (v := 43) w1 (by omega)
        obtain ⟨b, e2, p2, f2⟩ := e_writes (v := 48 + nI i) p1 (by rw [List.length_append, List.length_singleton]; omega)
        exact ⟨b, ⟨p2, (w2.t f1).t f2⟩, by rw [e1, zCv_s, e2, zCv_s]⟩
    · rw [if_neg hb, if_neg hb]
      exact ⟨y, ⟨w1, w2⟩, rfl⟩) (by
    rintro t y _
    show (if (10 : Int32) ≤ nI 10 then _ else _) = _
    rw [if_pos (by decide)]) 10 0 (zU σ 21 0 26 0) zN (by decide) ⟨pM_0 σ, fun k i j a b => by rw [zU_ap, if_neg (fun z => b ⟨z.1, z.2.2⟩)]⟩ (by decide)
  have hl := tx_l x 10
  have hd := dg_l (bd f x 10)
  obtain ⟨a, e1, p1, f1⟩ := e_writes (v := 32) w1 (by omega)
  obtain ⟨b, e2, p2, f2⟩ := e_wNum (v := bd f x 10) (bd_b (Nat.le_refl _) hf) p1 (by rw [List.length_append, List.length_singleton]; omega)
  refine ⟨b, ?_, (w2.t f1).t f2⟩
  refine Eq.trans e ?_
  rw [← hK]
  dsimp only
  rw [e1, zCv_s, e_bodyM (f := f) hx (fun l hl => by rw [f1 22 0 l (by decide) (by omega), w2 22 0 l (by decide) (by omega)]; exact h l hl), zCi_s, e2, zCv_s, e_signAt p2 (by rw [List.length_append, List.length_append, List.length_singleton]; omega), zCi_s]
def CsT (σ : zS) (f g : zS → Option (Int32 × zS)) : Prop := ∃ r σ1 σ2, f σ = some (r, σ1) ∧ g σ1 = some (r, σ2) ∧ ∀ k i j, k ≠ 19 → k ≠ 20 → k ≠ 36 → ¬ (k = 21 ∧ j = 26) → σ2 k i j = σ k i j
theorem CsT.same {σ : zS} {f g : zS → Option (Int32 × zS)} {r : Int32} (h1 : f σ = some (r, σ)) (h2 : g σ = some (r, σ)) : CsT σ f g := ⟨r, σ, σ, h1, h2, fun _ _ _ _ _ _ _ => rfl⟩
theorem c_text (a b : Int32) (σ : zS) (h : J1 σ) : CsT σ (fX8_text a b) (fX9_text a b) := by
  obtain ⟨T, Hd, Q, hI⟩ := id h
  obtain ⟨⟨hT, hA1, hA2⟩, -, hC, -, -⟩ := id hI
  cases hb : sumB T a with
  | false => exact CsT.same (r := -2) (by unfold fX8_text; rw [e_isSum _ _ hA1, hb]; rfl) (by unfold fX9_text; rw [e_isSumM hT _ _ hA2, hb]; rfl)
  | true =>
    obtain ⟨x, x0, x1, rfl, x2⟩ := sumB_y hT hb
    have u8 : fX8_text (nI x) b σ = if b < (-1 : Int32) then some ((-2 : Int32), σ) else if b ≤ (39 : Int32) then zCi (fX6_bodyOf (nI x) σ) (fun x4 s3 => zCv (fX4_writeSum (nI x) x4 s3) (fun s5 => zCi (fX4_answer b s5) (fun x7 s6 => some (x7, s6)))) else some ((-2 : Int32), σ) := by
      unfold fX8_text
      rw [e_isSum _ _ hA1, hb, zCi_s, if_neg (by decide)]
    have u9 : ∀ w : zS, w 21 0 0 = nI T → fX9_text (nI x) b w = zCi (fX9_within b (-1 : Int32) (39 : Int32) w) (fun x4 s3 => if x4 = 0 then some ((-2 : Int32), s3) else zB (zU s3 21 0 26 (0 : Int32)) (fun s5 => fX9_text_28 (nI x) (fun (y28_6 : zS) => (zCv (fX9_writes (32 : Int32) y28_6) (fun s7 => zCi (fX9_bodyBy (nI x) s7) (fun x9 s8 => zCv (fX9_writesNumber x9 s8) (fun s10 => zCi (fX9_signAt b s10) (fun x12 s11 => some (x12, s11))))) : Option (Int32 × zS))) zN (0 : Int32) s5)) := by
      intro w hw
      unfold fX9_text
      rw [e_isSumM hT _ _ hw, hb, zCi_s, if_neg (by decide)]
    by_cases h1 : b < (-1 : Int32)
    · exact CsT.same (r := -2) (by rw [u8, if_pos h1]) (by rw [u9 σ hA2, e_within, if_pos h1, zCi_s, if_pos rfl])
    by_cases h2 : (39 : Int32) < b
    · exact CsT.same (r := -2) (by rw [u8, if_neg h1, if_neg (by rw [zle_lt]; exact fun z => z h2)]) (by rw [u9 σ hA2, e_within, if_neg h1, if_pos h2, zCi_s, if_pos rfl])
    rw [if_neg h1, if_pos (by rw [zle_lt]; exact h2)] at u8
    have hf : ∀ l, l < 10 → (σ 2 0 l).toNatClampNeg < 256 ∧ σ 2 0 l = nI (σ 2 0 l).toNatClampNeg := by
      intro l hl
      obtain ⟨-, v, hv, e⟩ := hC l hl
      rw [e, nI_clamp (by omega)]; exact ⟨hv, rfl⟩
    have hd := dg_l (bd (fun l => (σ 2 0 l).toNatClampNeg) x 10)
    have hl := tx_l x 10
    obtain ⟨σ1, e1, p1, f1⟩ := e_writeSum (σ := σ) (v := bd (fun l => (σ 2 0 l).toNatClampNeg) x 10) x1 (bd_b (Nat.le_refl _) (fun l hl => (hf l hl).1))
    obtain ⟨σ2, e2, f2⟩ := e_textM (σ := σ1) (c := b) (f := fun l => (σ 2 0 l).toNatClampNeg) x1 (fun l hl => (hf l hl).1) (fun l hl => by rw [f1 22 0 l (by decide) (by decide), (hC l hl).1]; exact (hf l hl).2)
    refine ⟨ansW (tx x 10 ++ [32] ++ dg (bd (fun l => (σ 2 0 l).toNatClampNeg) x 10)) b, σ1, σ2, ?_, ?_, fun k i j k1 k2 k3 k4 => by rw [f2 k i j k3 k4, f1 k i j k1 k2]⟩
    · rw [u8, e_bodyC (f := fun l => (σ 2 0 l).toNatClampNeg) x1 (fun l hl => (hf l hl).2), zCi_s, e1, zCv_s, e_answer p1 (by rw [List.length_append, List.length_append, List.length_singleton]; omega), zCi_s]
    · rw [u9 σ1 (by rw [f1 21 0 0 (by decide) (by decide)]; exact hA2), e_within, if_neg h1, if_neg h2, zCi_s, if_neg (by decide), zB_s]
      exact e2
/-! rows -/
def tA (v : Nat → Int) (i : Nat) : List Int32 := (List.range i).map (fun c => 48 + iI (v c))
theorem tA_s (v : Nat → Int) (i : Nat) : tA v (i + 1) = tA v i ++ [48 + iI (v i)] := by
  unfold tA
  rw [List.range_succ, List.map_append]; rfl
theorem tA_l (v : Nat → Int) (i : Nat) : (tA v i).length = i := by unfold tA; rw [List.length_map, List.length_range]
/-- the text of a row -/
def rT (n : Nat) (v : Nat → Int) : List Int32 := tA v n ++ [58] ++ tA (fun c => v (5 + c)) 3
theorem rT_l (n : Nat) (v : Nat → Int) : (rT n v).length = n + 4 := by
  unfold rT
  rw [List.length_append, List.length_append, tA_l, tA_l, List.length_singleton]
def rS (n : Nat) (M : Nat → Nat → Int) (W : List Int32) (q : Nat) : List Int32 := if W = [] then rT n (M q) else W ++ [32] ++ rT n (M q)
def rX (n : Nat) (M : Nat → Nat → Int) (S : List Nat) : List Int32 := S.foldl (rS n M) []
theorem rX_s (n : Nat) (M : Nat → Nat → Int) (S : List Nat) (q : Nat) : rX n M (S ++ [q]) = rS n M (rX n M S) q := by
  unfold rX; rw [List.foldl_append]; rfl
theorem rX_l {n : Nat} (hn : n ≤ 5) (M : Nat → Nat → Int) (S : List Nat) (k : Nat) (h : S.length = k) : (rX n M S).length ≤ 10 * k ∧ (rX n M S = [] ↔ S = []) := by
  induction k generalizing S with
  | zero =>
    have : S = [] := List.length_eq_zero_iff.1 h
    subst this
    exact ⟨Nat.le_refl _, by simp [rX]⟩
  | succ k ih =>
    have hne : S ≠ [] := by intro z; subst z; simp at h
    rw [← List.dropLast_concat_getLast hne]
    obtain ⟨i1, i2⟩ := ih S.dropLast (by rw [List.length_dropLast]; omega)
    rw [rX_s]
    unfold rS
    have hr := rT_l n (M (S.getLast hne))
    split
    · refine ⟨by omega, fun z => ?_, fun z => by simp at z⟩
      rw [z] at hr; simp at hr
    · refine ⟨by rw [List.length_append, List.length_append, List.length_singleton]; omega, fun z => ?_, fun z => by simp at z⟩
      simp at z
theorem e_writeRow {n nd q : Nat} {W : List Int32} {v : Nat → Int} {σ : zS} (hn : n ≤ 5) (hnd : nd < 12) (hq : q < 5) (hv : ∀ c, c < 8 → σ 18 (5 * nd + q) c = iI (v c)) (h : pC W σ) (hl : W.length ≤ 50) : ∃ σ', fX4_writeRow nd (nI q) (nI n) σ = some (0, σ') ∧ pC (W ++ rT n v) σ' ∧ fC σ σ' := by
  generalize hK : (fun (y3_1 : zS) => (zCv (fX4_put (58 : Int32) y3_1) (fun s2 => fX4_writeRow_35 nd (nI q) (fun (y35_3 : zS) => (some ((0 : Int32), y35_3) : Option (Int32 × zS))) zN (0 : Int32) s2) : Option (Int32 × zS))) = K
  obtain ⟨w, ⟨w1, w2⟩, e⟩ := zloop (β := zS) (L := fun t i y => fX4_writeRow_3 nd (nI q) (nI n) K t (nI i) y) (fun i y => pC (W ++ tA v i) y ∧ fC σ y) n K (by
    rintro t i y hi ⟨w1, w2⟩
    obtain ⟨a, e1, p1, f1⟩ := e_fig (v := iI (v i)) w1 (by rw [List.length_append, tA_l]; omega)
    rw [List.append_assoc, ← tA_s] at p1
    refine ⟨a, ⟨p1, w2.t f1⟩, ?_⟩
    show (if nI n ≤ nI i then _ else _) = _
    rw [if_neg (nI_ge hi (by omega)), e_cell hnd hq (by omega), zCi_s, w2 18 _ i (by decide) (by decide), hv i (by omega), e1, zCv_s, zB_s, nI_1]) (by
    rintro t y _
    show (if nI n ≤ nI n then _ else _) = _
    rw [if_pos (nI_le (Nat.le_refl _) (by omega))]) n 0 σ zN (by omega) ⟨by show pC (W ++ []) σ; rw [List.append_nil]; exact h, fC.r σ⟩ (Nat.lt_of_le_of_lt hn (by decide))
  obtain ⟨a, e1, p1, f1⟩ := e_put (v := 58) w1 (by rw [List.length_append, tA_l]; omega)
  obtain ⟨z, ⟨z1, z2⟩, e3⟩ := zloop (β := zS) (L := fun t i y => fX4_writeRow_35 nd (nI q) (fun (y35_3 : zS) => (some ((0 : Int32), y35_3) : Option (Int32 × zS))) t (nI i) y) (fun i y => pC (W ++ tA v n ++ [58] ++ tA (fun c => v (5 + c)) i) y ∧ fC σ y) 3 (fun y => some (0, y)) (by
    rintro t i y hi ⟨w1, w2⟩
    obtain ⟨b, e2, p2, f2⟩ := e_fig (v := iI (v (5 + i))) w1 (by rw [List.length_append, List.length_append, List.length_append, tA_l, tA_l, List.length_singleton]; omega)
    rw [List.append_assoc, ← tA_s (fun c => v (5 + c))] at p2
    refine ⟨b, ⟨p2, w2.t f2⟩, ?_⟩
    show (if (3 : Int32) ≤ nI i then _ else _) = _
    rw [if_neg (lg3 hi), show (5 : Int32) + nI i = nI (5 + i) by show nI 5 + nI i = _; rw [nI_add], e_cell hnd hq (by omega), zCi_s, w2 18 _ (5 + i) (by decide) (by decide), hv (5 + i) (by omega), e2, zCv_s, zB_s, nI_1]) (by
    rintro t y _
    show (if (3 : Int32) ≤ nI 3 then _ else _) = _
    rw [if_pos (by decide)]) 3 0 a zN (by decide) ⟨by show pC (W ++ tA v n ++ [58] ++ []) a; rw [List.append_nil]; exact p1, w2.t f1⟩ (by decide)
  refine ⟨z, ?_, ?_, z2⟩
  · unfold fX4_writeRow
    rw [hK]
    refine Eq.trans e ?_
    rw [← hK]
    dsimp only
    rw [e1, zCv_s]
    exact e3
  · unfold rT
    rw [← List.append_assoc, ← List.append_assoc]; exact z1
theorem e_writeRows {p n nd : Nat} {led : Nat → Bool} {M : Nat → Nat → Int} {σ : zS} (hn : n ≤ 5) (hnd : nd < 12) (h : cN σ nd led M) : ∃ σ', fX4_writeRows nd (nI n) σ = some (0, σ') ∧ pC (rX n M (Sl led 5)) σ' ∧ fC σ σ' := by
  obtain ⟨w, ⟨w1, w2⟩, e⟩ := zloop (β := zS) (L := fun t i y => fX4_writeRows_7 nd (nI n) (fun (y7_2 : zS) => (some ((0 : Int32), y7_2) : Option (Int32 × zS))) t (nI i) y) (fun i y => pC (rX n M (Sl led i)) y ∧ fC σ y) 5 (fun y => some (0, y)) (by
    rintro t i y hi ⟨w1, w2⟩
    have hl := rX_l hn M (Sl led i) _ rfl
    have hli := Sl_len led i
    have hst : fX4_writeRows_7 nd (nI n) (fun (y7_2 : zS) => (some ((0 : Int32), y7_2) : Option (Int32 × zS))) (t + 1) (nI i) y = if led i = true then (if rX n M (Sl led i) = [] then zCv (fX4_writeRow nd (nI i) (nI n) y) (fun s5 => fX4_writeRows_7 nd (nI n) (fun (y7_2 : zS) => (some ((0 : Int32), y7_2) : Option (Int32 × zS))) t (nI (i + 1)) s5) else zCv (fX4_put (32 : Int32) y) (fun s7 => zCv (fX4_writeRow nd (nI i) (nI n) s7) (fun s8 => fX4_writeRows_7 nd (nI n) (fun (y7_2 : zS) => (some ((0 : Int32), y7_2) : Option (Int32 × zS))) t (nI (i + 1)) s8))) else fX4_writeRows_7 nd (nI n) (fun (y7_2 : zS) => (some ((0 : Int32), y7_2) : Option (Int32 × zS))) t (nI (i + 1)) y := by
      show (if (5 : Int32) ≤ nI i then _ else _) = _
      rw [if_neg (lg5 hi), zIx_nI hi (by decide), nI_clamp (by omega), w2 17 nd i (by decide) (by decide), h.1 i hi, w1.1]
      simp only [len_0 (show (rX n M (Sl led i)).length ≤ 60 by omega), zB_s, nI_1]
      cases led i <;> rfl
    rw [hst]
    by_cases hb : led i = true
    · rw [if_pos hb]
      have hv : ∀ y' : zS, fC σ y' → ∀ c, c < 8 → y' 18 (5 * nd + i) c = iI (M i c) := fun y' f c hc => by rw [f 18 _ c (by decide) (by decide)]; exact h.2 i hi hb c hc
      by_cases h0 : rX n M (Sl led i) = []
      · rw [if_pos h0]
        obtain ⟨a, e1, p1, f1⟩ := e_writeRow (v := M i) hn hnd hi (hv y w2) w1 (by omega)
        refine ⟨a, ⟨?_, w2.t f1⟩, by rw [e1, zCv_s]⟩
        rw [Sl_s, if_pos hb, rX_s]
        unfold rS
        rw [if_pos h0]
        rw [h0, List.nil_append] at p1
        exact p1
      · rw [if_neg h0]
        obtain ⟨a, e1, p1, f1⟩ := e_put (v := 32) w1 (by omega)
        obtain ⟨b, e2, p2, f2⟩ := e_writeRow (v := M i) hn hnd hi (hv a (w2.t f1)) p1 (by rw [List.length_append, List.length_singleton]; omega)
        refine ⟨b, ⟨?_, (w2.t f1).t f2⟩, by rw [e1, zCv_s, e2, zCv_s]⟩
        rw [Sl_s, if_pos hb, rX_s]
        unfold rS
        rw [if_neg h0]
        exact p2
    · rw [if_neg hb]
      refine ⟨y, ⟨?_, w2⟩, rfl⟩
      rw [Sl_s, if_neg hb]; exact w1) (by
    rintro t y _
    show (if (5 : Int32) ≤ nI 5 then _ else _) = _
    rw [if_pos (by decide)]) 5 0 (zU σ 19 0 1 0) zN (by decide) ⟨pC_0 σ, fun k i j a b => zU_k a⟩ (by decide)
  exact ⟨w, by unfold fX4_writeRows; rw [zB_s]; exact e, w1, w2⟩
theorem e_rAA {n x j r : Nat} {W : List Int32} {v : Nat → Int} {σ : zS} (hn : n ≤ 5) (hx : x < 3) (hj : j < 4) (hr : r < 5) (h28 : σ 28 0 x = nI n) (hv : ∀ i, i < n + 3 → σ 30 0 (8 * (5 * (4 * x + j) + r) + i) = iI (v (cm n i))) (h : pM W σ) (hl : W.length ≤ 50) (K : zS → Option (Int32 × zS)) : ∃ σ', fX9_rows_70 (nI j) (nI x) (nI r) K zN 0 σ = K σ' ∧ pM (W ++ rT n v) σ' ∧ fM σ σ' := by
  have hP : ∀ i, (if i ≤ n then tA v i else tA v n ++ [58] ++ tA (fun c => v (5 + c)) (i - n)).length ≤ i + 1 := by
    intro i
    split
    · rw [tA_l]; omega
    · rw [List.length_append, List.length_append, tA_l, tA_l, List.length_singleton]; omega
  obtain ⟨w, ⟨w1, w2⟩, e⟩ := zloop (β := zS) (L := fun t i y => fX9_rows_70 (nI j) (nI x) (nI r) K t (nI i) y) (fun i y => pM (W ++ if i ≤ n then tA v i else tA v n ++ [58] ++ tA (fun c => v (5 + c)) (i - n)) y ∧ fM σ y) (n + 3) K (by
    rintro t i y hi ⟨w1, w2⟩
    have hPi := hP i
    have hst : fX9_rows_70 (nI j) (nI x) (nI r) K (t + 1) (nI i) y = if i = n then zCv (fX9_writes (58 : Int32) y) (fun s22 => zCv (fX9_writes (48 + (s22 30 0 (8 * (5 * (4 * x + j) + r) + i))) s22) (fun s26 => fX9_rows_70 (nI j) (nI x) (nI r) K t (nI (i + 1)) s26)) else zCv (fX9_writes (48 + (y 30 0 (8 * (5 * (4 * x + j) + r) + i))) y) (fun s26 => fX9_rows_70 (nI j) (nI x) (nI r) K t (nI (i + 1)) s26) := by
      show zIx (nI x) 3 _ = _
      rw [zIx_nI hx (by decide), nI_clamp (show x < 2 ^ 31 by omega), w2 28 0 x (by decide) (by omega), h28, n3, if_neg (nI_ge hi (by omega)), zIx_nI hx (by decide)]
      have hat : ∀ s : zS, fX9_at (nI x) (nI j) (nI r) s = some (nI (8 * (5 * (4 * x + j) + r)), s) := fun s => e_at
      by_cases hin : i = n
      · rw [if_pos (by rw [hin]), if_pos hin]
        congr 1
        funext s
        rw [hat s, zCi_s, nI_add, zIx_nI (by omega) (by decide), nI_clamp (by omega)]
        simp only [zB_s, nI_1]
      · rw [if_neg (by rw [zn_eq (by omega) (by omega)]; exact hin), if_neg hin, hat y, zCi_s, nI_add, zIx_nI (by omega) (by decide), nI_clamp (by omega)]
        simp only [zB_s, nI_1]
    rw [hst]
    rcases Nat.lt_trichotomy i n with hin | hin | hin
    · rw [if_neg (show ¬ i = n by omega)]
      rw [if_pos (by omega)] at w1
      obtain ⟨a, e1, p1, f1⟩ := e_writes (v := 48 + iI (v i)) w1 (by rw [List.length_append, tA_l]; omega)
      rw [List.append_assoc, ← tA_s] at p1
      refine ⟨a, ⟨by rw [if_pos (by omega)]; exact p1, w2.t f1⟩, ?_⟩
      rw [w2 30 0 _ (by decide) (by omega), hv i hi, cm_l hin, e1, zCv_s]
    · rw [if_pos hin]
      rw [if_pos (by omega), hin] at w1
      obtain ⟨a, e1, p1, f1⟩ := e_writes (v := 58) w1 (by rw [List.length_append, tA_l]; omega)
      obtain ⟨b, e2, p2, f2⟩ := e_writes (v := 48 + iI (v (5 + 0))) p1 (by rw [List.length_append, List.length_append, tA_l, List.length_singleton]; omega)
      refine ⟨b, ⟨?_, (w2.t f1).t f2⟩, ?_⟩
      · rw [if_neg (by omega), show i + 1 - n = 0 + 1 by omega, tA_s (fun c => v (5 + c))]
        show pM (W ++ (tA v n ++ [58] ++ ([] ++ [48 + iI (v (5 + 0))]))) b
        rw [List.nil_append, List.append_assoc (tA v n)]
        rw [List.append_assoc, List.append_assoc] at p2
        exact p2
      · rw [e1, zCv_s, f1 30 0 _ (by decide) (by omega), w2 30 0 _ (by decide) (by omega), hv i hi, show cm n i = 5 + 0 by unfold cm; rw [if_neg (by omega)]; omega, e2, zCv_s]
    · rw [if_neg (show ¬ i = n by omega)]
      rw [if_neg (by omega)] at w1
      obtain ⟨a, e1, p1, f1⟩ := e_writes (v := 48 + iI (v (5 + (i - n)))) w1 (by rw [List.length_append, List.length_append, List.length_append, tA_l, tA_l, List.length_singleton]; omega)
      rw [List.append_assoc, List.append_assoc (tA v n ++ [58]), ← tA_s (fun c => v (5 + c))] at p1
      refine ⟨a, ⟨by rw [if_neg (by omega), show i + 1 - n = i - n + 1 by omega]; exact p1, w2.t f1⟩, ?_⟩
      rw [w2 30 0 _ (by decide) (by omega), hv i hi, show cm n i = 5 + (i - n) by unfold cm; rw [if_neg (by omega)]; omega, e1, zCv_s]) (by
    rintro t y ⟨w1, w2⟩
    show zIx (nI x) 3 _ = _
    rw [zIx_nI hx (by decide), nI_clamp (show x < 2 ^ 31 by omega), w2 28 0 x (by decide) (by omega), h28, n3, if_pos (nI_le (Nat.le_refl _) (by omega))]) (n + 3) 0 σ zN (by omega) ⟨by rw [if_pos (by omega)]; show pM (W ++ []) σ; rw [List.append_nil]; exact h, fM.r σ⟩ (Nat.lt_of_le_of_lt (show n + 3 ≤ 8 by omega) (by decide))
  rw [if_neg (by omega), show n + 3 - n = 3 by omega] at w1
  exact ⟨w, e, w1, w2⟩
theorem e_rBB {n x j r : Nat} {W : List Int32} {v : Nat → Int} {σ : zS} (hn : n ≤ 5) (hx : x < 3) (hj : j < 4) (hr : r < 5) (h28 : σ 28 0 x = nI n) (hv : ∀ i, i < n + 3 → σ 30 0 (8 * (5 * (4 * x + j) + r) + i) = iI (v (cm n i))) (h : pM W σ) (hl : W.length ≤ 50) (K : zS → Option (Int32 × zS)) : ∃ σ', fX9_rows_70_31 (nI j) (nI x) (nI r) K zN 0 σ = K σ' ∧ pM (W ++ rT n v) σ' ∧ fM σ σ' := by
  have hP : ∀ i, (if i ≤ n then tA v i else tA v n ++ [58] ++ tA (fun c => v (5 + c)) (i - n)).length ≤ i + 1 := by
    intro i
    split
    · rw [tA_l]; omega
    · rw [List.length_append, List.length_append, tA_l, tA_l, List.length_singleton]; omega
  obtain ⟨w, ⟨w1, w2⟩, e⟩ := zloop (β := zS) (L := fun t i y => fX9_rows_70_31 (nI j) (nI x) (nI r) K t (nI i) y) (fun i y => pM (W ++ if i ≤ n then tA v i else tA v n ++ [58] ++ tA (fun c => v (5 + c)) (i - n)) y ∧ fM σ y) (n + 3) K (by
    rintro t i y hi ⟨w1, w2⟩
    have hPi := hP i
    have hst : fX9_rows_70_31 (nI j) (nI x) (nI r) K (t + 1) (nI i) y = if i = n then zCv (fX9_writes (58 : Int32) y) (fun s22 => zCv (fX9_writes (48 + (s22 30 0 (8 * (5 * (4 * x + j) + r) + i))) s22) (fun s26 => fX9_rows_70_31 (nI j) (nI x) (nI r) K t (nI (i + 1)) s26)) else zCv (fX9_writes (48 + (y 30 0 (8 * (5 * (4 * x + j) + r) + i))) y) (fun s26 => fX9_rows_70_31 (nI j) (nI x) (nI r) K t (nI (i + 1)) s26) := by
      show zIx (nI x) 3 _ = _
      rw [zIx_nI hx (by decide), nI_clamp (show x < 2 ^ 31 by omega), w2 28 0 x (by decide) (by omega), h28, n3, if_neg (nI_ge hi (by omega)), zIx_nI hx (by decide)]
      have hat : ∀ s : zS, fX9_at (nI x) (nI j) (nI r) s = some (nI (8 * (5 * (4 * x + j) + r)), s) := fun s => e_at
      by_cases hin : i = n
      · rw [if_pos (by rw [hin]), if_pos hin]
        congr 1
        funext s
        rw [hat s, zCi_s, nI_add, zIx_nI (by omega) (by decide), nI_clamp (by omega)]
        simp only [zB_s, nI_1]
      · rw [if_neg (by rw [zn_eq (by omega) (by omega)]; exact hin), if_neg hin, hat y, zCi_s, nI_add, zIx_nI (by omega) (by decide), nI_clamp (by omega)]
        simp only [zB_s, nI_1]
    rw [hst]
    rcases Nat.lt_trichotomy i n with hin | hin | hin
    · rw [if_neg (show ¬ i = n by omega)]
      rw [if_pos (by omega)] at w1
      obtain ⟨a, e1, p1, f1⟩ := e_writes (v := 48 + iI (v i)) w1 (by rw [List.length_append, tA_l]; omega)
      rw [List.append_assoc, ← tA_s] at p1
      refine ⟨a, ⟨by rw [if_pos (by omega)]; exact p1, w2.t f1⟩, ?_⟩
      rw [w2 30 0 _ (by decide) (by omega), hv i hi, cm_l hin, e1, zCv_s]
    · rw [if_pos hin]
      rw [if_pos (by omega), hin] at w1
      obtain ⟨a, e1, p1, f1⟩ := e_writes (v := 58) w1 (by rw [List.length_append, tA_l]; omega)
      obtain ⟨b, e2, p2, f2⟩ := e_writes (v := 48 + iI (v (5 + 0))) p1 (by rw [List.length_append, List.length_append, tA_l, List.length_singleton]; omega)
      refine ⟨b, ⟨?_, (w2.t f1).t f2⟩, ?_⟩
      · rw [if_neg (by omega), show i + 1 - n = 0 + 1 by omega, tA_s (fun c => v (5 + c))]
        show pM (W ++ (tA v n ++ [58] ++ ([] ++ [48 + iI (v (5 + 0))]))) b
        rw [List.nil_append, List.append_assoc (tA v n)]
        rw [List.append_assoc, List.append_assoc] at p2
        exact p2
      · rw [e1, zCv_s, f1 30 0 _ (by decide) (by omega), w2 30 0 _ (by decide) (by omega), hv i hi, show cm n i = 5 + 0 by unfold cm; rw [if_neg (by omega)]; omega, e2, zCv_s]
    · rw [if_neg (show ¬ i = n by omega)]
      rw [if_neg (by omega)] at w1
      obtain ⟨a, e1, p1, f1⟩ := e_writes (v := 48 + iI (v (5 + (i - n)))) w1 (by rw [List.length_append, List.length_append, List.length_append, tA_l, tA_l, List.length_singleton]; omega)
      rw [List.append_assoc, List.append_assoc (tA v n ++ [58]), ← tA_s (fun c => v (5 + c))] at p1
      refine ⟨a, ⟨by rw [if_neg (by omega), show i + 1 - n = i - n + 1 by omega]; exact p1, w2.t f1⟩, ?_⟩
      rw [w2 30 0 _ (by decide) (by omega), hv i hi, show cm n i = 5 + (i - n) by unfold cm; rw [if_neg (by omega)]; omega, e1, zCv_s]) (by
    rintro t y ⟨w1, w2⟩
    show zIx (nI x) 3 _ = _
    rw [zIx_nI hx (by decide), nI_clamp (show x < 2 ^ 31 by omega), w2 28 0 x (by decide) (by omega), h28, n3, if_pos (nI_le (Nat.le_refl _) (by omega))]) (n + 3) 0 σ zN (by omega) ⟨by rw [if_pos (by omega)]; show pM (W ++ []) σ; rw [List.append_nil]; exact h, fM.r σ⟩ (Nat.lt_of_le_of_lt (show n + 3 ≤ 8 by omega) (by decide))
  rw [if_neg (by omega), show n + 3 - n = 3 by omega] at w1
  exact ⟨w, e, w1, w2⟩
theorem e_rowsM {n x j : Nat} {c : Int32} {led : Nat → Bool} {M : Nat → Nat → Int} {σ : zS} (hn : n ≤ 5) (hx : x < 3) (hj : j < 4) (h28 : σ 28 0 x = nI n) (h : mN σ (4 * x + j) n led M) : ∃ σ', fX9_rows_44 (nI j) (nI x) (fun (y44_8 : zS) => (zCi (fX9_signAt c y44_8) (fun x10 s9 => some (x10, s9)) : Option (Int32 × zS))) zN (0 : Int32) (zU σ 21 0 26 0) = some (ansW (rX n M (Sl led 5)) c, σ') ∧ fM σ σ' := by
  have hlen := Sl_len led 5
  generalize hK : (fun (y44_8 : zS) => (zCi (fX9_signAt c y44_8) (fun x10 s9 => some (x10, s9)) : Option (Int32 × zS))) = K
  obtain ⟨w, ⟨w1, w2⟩, e⟩ := zloop (β := zS) (L := fun t r y => fX9_rows_44 (nI j) (nI x) K t (nI r) y) (fun r y => pM (rX n M ((Sl led 5).take r)) y ∧ fM σ y) (Sl led 5).length K (by
    rintro t r y hr ⟨w1, w2⟩
    obtain ⟨q, hq⟩ : ∃ q, (Sl led 5)[r]? = some q := ⟨_, List.getElem?_eq_getElem hr⟩
    have hl := rX_l hn M ((Sl led 5).take r) r (by rw [List.length_take]; omega)
    have h29 : y 29 0 (4 * x + j) = nI (Sl led 5).length := by rw [w2 29 0 _ (by decide) (by omega)]; exact h.1
    have hst : fX9_rows_44 (nI j) (nI x) K (t + 1) (nI r) y = if r = 0 then fX9_rows_70 (nI j) (nI x) (nI r) (fun (y70_13 : zS) => fX9_rows_44 (nI j) (nI x) K t (nI (r + 1)) y70_13) zN (0 : Int32) y else zCv (fX9_writes (32 : Int32) y) (fun s30 => fX9_rows_70_31 (nI j) (nI x) (nI r) (fun (y70_31 : zS) => fX9_rows_44 (nI j) (nI x) K t (nI (r + 1)) y70_31) zN (0 : Int32) s30) := by
      show zCi (fX9_rankOf (nI x) (nI j) y) _ = _
      rw [e_rk hx hj, zCi_s, h29, if_neg (nI_ge hr (by omega))]
      simp only [zB_s, nI_1]
      by_cases h0 : r = 0
      · rw [if_pos (by rw [h0]; decide), if_pos h0]
      · rw [if_neg (by show ¬ nI r ≤ nI 0; exact nI_ge (by omega) (by omega)), if_neg h0]
    have hv : ∀ y' : zS, fM σ y' → ∀ i, i < n + 3 → y' 30 0 (8 * (5 * (4 * x + j) + r) + i) = iI (M q (cm n i)) := fun y' f i hi => by rw [f 30 0 _ (by decide) (by omega)]; exact h.2 r q hq i hi
    rw [hst, take_s hq]
    have hemp : rX n M ((Sl led 5).take r) = [] ↔ r = 0 := by
      rw [hl.2]
      constructor
      · intro z
        have := congrArg List.length z
        rw [List.length_take, List.length_nil] at this
        omega
      · rintro rfl; rfl
    by_cases h0 : r = 0
    · rw [if_pos h0]
      obtain ⟨a, e1, p1, f1⟩ := e_rAA (v := M q) hn hx hj (show r < 5 by omega) (by rw [w2 28 0 x (by decide) (by omega)]; exact h28) (hv y w2) w1 (by omega) (fun (y70_13 : zS) => fX9_rows_44 (nI j) (nI x) K t (nI (r + 1)) y70_13)
      refine ⟨a, ⟨?_, w2.t f1⟩, e1⟩
      rw [rX_s]
      unfold rS
      rw [if_pos (hemp.2 h0)]
      rw [hemp.2 h0, List.nil_append] at p1
      exact p1
    · rw [if_neg h0]
      obtain ⟨a, e1, p1, f1⟩ := e_writes (v := 32) w1 (by omega)
      obtain ⟨b, e2, p2, f2⟩ := e_rBB (v := M q) hn hx hj (show r < 5 by omega) (by rw [f1 28 0 x (by decide) (by omega), w2 28 0 x (by decide) (by omega)]; exact h28) (hv a (w2.t f1)) p1 (by rw [List.length_append, List.length_singleton]; omega) (fun (y70_31 : zS) => fX9_rows_44 (nI j) (nI x) K t (nI (r + 1)) y70_31)
      refine ⟨b, ⟨?_, (w2.t f1).t f2⟩, by rw [e1, zCv_s, e2]⟩
      rw [rX_s]
      unfold rS
      rw [if_neg (fun z => h0 (hemp.1 z))]
      exact p2) (by
    rintro t y ⟨w1, w2⟩
    show zCi (fX9_rankOf (nI x) (nI j) y) _ = _
    rw [e_rk hx hj, zCi_s, w2 29 0 _ (by decide) (by omega), h.1, if_pos (nI_le (Nat.le_refl _) (by omega))]) (Sl led 5).length 0 (zU σ 21 0 26 0) zN (by omega) ⟨by rw [List.take_zero]; exact pM_0 σ, fun k i j a b => by rw [zU_ap, if_neg (fun z => b ⟨z.1, z.2.2⟩)]⟩ (Nat.lt_of_le_of_lt hlen (by decide))
  rw [List.take_length] at w1
  have hl := rX_l hn M (Sl led 5) _ rfl
  refine ⟨w, ?_, w2⟩
  refine Eq.trans e ?_
  rw [← hK]
  dsimp only
  rw [e_signAt w1 (by omega), zCi_s]
theorem c_rows (a b c : Int32) (σ : zS) (h : J3 σ) : CsT σ (fX8_rows a b c) (fX9_rows a b c) := by
  obtain ⟨p, op, s, hI⟩ := id h
  by_cases hX : lkX op (σ 27 0) a < op
  · have hop : op ≤ 3 := hI.2.2.2.2.1
    have h14 : σ 21 0 14 = nI op := hI.2.2.2.2.2.2.1
    have hX3 : lkX op (σ 27 0) a < 3 := by omega
    have hs := s_lt hI hX3
    rcases zcase2 b 4 (by decide) with q | ⟨j, hj, rfl⟩
    · refine CsT.same (r := -1) (by unfold fX8_rows; rw [e_find hI, if_pos hX, zCq_s, zGd_t hs, node_b hI q, zCq_n]) ?_
      unfold fX9_rows
      rw [place_1 hI hX, zCi_s, if_neg (nI_n9 hX3), isNode0 q, zCi_s, if_pos rfl]
    · obtain ⟨n, n1, n2, b1, b2, b3, hN⟩ := hI.2.2.2.2.2.2.2.2.2.2 _ hX
      obtain ⟨led, M, c1, c2, c3⟩ := hN j hj
      have u8 : fX8_rows a (nI j) c σ = if c < (-1 : Int32) then some ((-2 : Int32), σ) else if c ≤ (59 : Int32) then zCv (fX4_writeRows (4 * s (lkX op (σ 27 0) a) + j) (nI n) σ) (fun s10 => zCi (fX4_answer c s10) (fun x12 s11 => some (x12, s11))) else some ((-2 : Int32), σ) := by
        unfold fX8_rows
        rw [e_find hI, if_pos hX, zCq_s, zGd_t hs, node_1 hI hX hj, zCq_s, zGd_t (by omega), b2]
      have u9 : ∀ w : zS, w 21 0 14 = nI op → w 27 0 = σ 27 0 → fX9_rows a (nI j) c w = zCi (fX9_within c (-1 : Int32) (59 : Int32) w) (fun x6 s5 => if x6 = 0 then some ((-2 : Int32), s5) else zB (zU s5 21 0 26 (0 : Int32)) (fun s7 => fX9_rows_44 (nI j) (nI (lkX op (σ 27 0) a)) (fun (y44_8 : zS) => (zCi (fX9_signAt c y44_8) (fun x10 s9 => some (x10, s9)) : Option (Int32 × zS))) zN (0 : Int32) s7)) := by
        intro w w1 w2
        unfold fX9_rows
        rw [e_place hop w1, w2, if_pos hX, zCi_s, if_neg (nI_n9 hX3), isNode1 hj, zCi_s, if_neg (by decide)]
      by_cases h1 : c < (-1 : Int32)
      · exact CsT.same (r := -2) (by rw [u8, if_pos h1]) (by rw [u9 σ h14 rfl, e_within, if_pos h1, zCi_s, if_pos rfl])
      by_cases h2 : (59 : Int32) < c
      · exact CsT.same (r := -2) (by rw [u8, if_neg h1, if_neg (by rw [zle_lt]; exact fun z => z h2)]) (by rw [u9 σ h14 rfl, e_within, if_neg h1, if_pos h2, zCi_s, if_pos rfl])
      rw [if_neg h1, if_pos (by rw [zle_lt]; exact h2)] at u8
      obtain ⟨σ1, e1, p1, f1⟩ := e_writeRows (p := p) (σ := σ) n2 (show 4 * s (lkX op (σ 27 0) a) + j < 12 by omega) c2
      obtain ⟨σ2, e2, f2⟩ := e_rowsM (σ := σ1) (c := c) n2 hX3 hj (by rw [f1 28 0 _ (by decide) (by decide)]; exact b3) (c3.c n2 (f1 _ _ _ (by decide) (by decide)) (fun j' _ _ => f1 _ _ _ (by decide) (by decide)))
      have hl := rX_l n2 M (Sl led 5) _ rfl
      have hl5 := Sl_len led 5
      refine ⟨ansW (rX n M (Sl led 5)) c, σ1, σ2, ?_, ?_, fun k i j k1 k2 k3 k4 => by rw [f2 k i j k3 k4, f1 k i j k1 k2]⟩
      · rw [u8, e1, zCv_s, e_answer p1 (by omega), zCi_s]
      · rw [u9 σ1 (by rw [f1 21 0 14 (by decide) (by decide)]; exact h14) (funext fun j => f1 27 0 j (by decide) (by decide)), e_within, if_neg h1, if_neg h2, zCi_s, if_neg (by decide), zB_s]
        exact e2
  · refine CsT.same (r := -1) (by unfold fX8_rows; rw [e_find hI, if_neg hX, zCq_n, node_0 hI hX, zCq_n]) ?_
    unfold fX9_rows
    rw [place_0 hI hX, zCi_s, if_pos rfl]
