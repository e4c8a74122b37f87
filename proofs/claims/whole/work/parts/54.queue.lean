/-! taking entries out -/
def cI (keep : Nat × Nat → Bool) (Q : List (Nat × Nat)) (i : Nat) (f g : Nat → Int32) : Prop := (∀ j q, ((Q.take i).filter keep)[j]? = some q → f j = nI q.1 ∧ g j = nI q.2) ∧ ∀ j q, i ≤ j → Q[j]? = some q → f j = nI q.1 ∧ g j = nI q.2
theorem zu_s {f : Nat → Int32} {k : Nat} {x : Int32} : upd f k x k = x := pk_us
theorem zu_n {f : Nat → Int32} {k j : Nat} {x : Int32} (h : j ≠ k) : upd f k x j = f j := pk_un h
theorem zcnt_le (keep : Nat × Nat → Bool) (Q : List (Nat × Nat)) (i : Nat) : ((Q.take i).filter keep).length ≤ i := Nat.le_trans (List.length_filter_le _ _) (by rw [List.length_take]; omega)
theorem ztake_s {Q : List (Nat × Nat)} {i : Nat} (hi : i < Q.length) : Q.take (i + 1) = Q.take i ++ [Q[i]'hi] := by
  rw [List.take_succ, List.getElem?_eq_getElem hi]; rfl
theorem cI.keep {keep : Nat × Nat → Bool} {Q : List (Nat × Nat)} {i : Nat} {f g : Nat → Int32} (h : cI keep Q i f g) (hi : i < Q.length) (hk : keep (Q[i]'hi) = true) : ((Q.take (i + 1)).filter keep).length = ((Q.take i).filter keep).length + 1 ∧ cI keep Q (i + 1) (upd f ((Q.take i).filter keep).length (f i)) (upd g ((Q.take i).filter keep).length (g i)) := by
  have e : (Q.take (i + 1)).filter keep = (Q.take i).filter keep ++ [Q[i]'hi] := by
    rw [ztake_s hi, List.filter_append]
    simp [hk]
  obtain ⟨ei, gi⟩ := h.2 i _ (Nat.le_refl i) (List.getElem?_eq_getElem hi)
  have hle := zcnt_le keep Q i
  refine ⟨by rw [e, List.length_append]; rfl, fun j q hj => ?_, fun j q hj hq => ?_⟩
  · rw [e] at hj
    rcases Nat.lt_or_ge j ((Q.take i).filter keep).length with q1 | q1
    · rw [List.getElem?_append_left q1] at hj
      rw [zu_n (by omega), zu_n (by omega)]
      exact h.1 j q hj
    · rw [List.getElem?_append_right q1] at hj
      have h0 := (List.getElem?_eq_some_iff.mp hj).1
      have : j = ((Q.take i).filter keep).length := by simp at h0; omega
      subst this
      rw [Nat.sub_self] at hj
      cases hj
      rw [zu_s, zu_s]
      exact ⟨ei, gi⟩
  · rw [zu_n (by omega), zu_n (by omega)]
    exact h.2 j q (by omega) hq
theorem cI.drop {keep : Nat × Nat → Bool} {Q : List (Nat × Nat)} {i : Nat} {f g : Nat → Int32} (h : cI keep Q i f g) (hi : i < Q.length) (hk : keep (Q[i]'hi) = false) : ((Q.take (i + 1)).filter keep).length = ((Q.take i).filter keep).length ∧ cI keep Q (i + 1) f g ∧ cI keep Q (i + 1) (upd f ((Q.take i).filter keep).length (f i)) (upd g ((Q.take i).filter keep).length (g i)) := by
  have e : (Q.take (i + 1)).filter keep = (Q.take i).filter keep := by
    rw [ztake_s hi, List.filter_append]
    simp [hk]
  have hle := zcnt_le keep Q i
  refine ⟨by rw [e], ⟨fun j q hj => ?_, fun j q hj hq => h.2 j q (by omega) hq⟩, ⟨fun j q hj => ?_, fun j q hj hq => ?_⟩⟩
  · rw [e] at hj; exact h.1 j q hj
  · rw [e] at hj
    have h0 := (List.getElem?_eq_some_iff.mp hj).1
    rw [zu_n (by omega), zu_n (by omega)]
    exact h.1 j q hj
  · rw [zu_n (by omega), zu_n (by omega)]
    exact h.2 j q (by omega) hq
theorem cI.zero {keep : Nat × Nat → Bool} {Q : List (Nat × Nat)} {n : Int32} {f g : Nat → Int32} (h : qR n f g Q) : cI keep Q 0 f g := ⟨fun j q hj => by rw [List.take_zero] at hj; simp at hj, fun j q _ hq => h.2 j q hq⟩
theorem cI.last {keep : Nat × Nat → Bool} {Q : List (Nat × Nat)} {f g : Nat → Int32} (h : cI keep Q Q.length f g) : qR (nI (Q.filter keep).length) f g (Q.filter keep) := ⟨rfl, fun j q hq => h.1 j q (by rw [List.take_length]; exact hq)⟩
/-- the class: all entries of a letter go -/
theorem e_removeLetter {T : Nat} {Q : List (Nat × Nat)} {σ : zS} (hV : qV T Q) (hR : qR (σ 4 0 2) (σ 5 0) (σ 6 0) Q) {l : Nat} (hl : l < 10) : ∃ σ', fX5_removeLetter (nI l) σ = some (nI (Q.length - (Q.filter (fun q => decide (q.1 ≠ l))).length), σ') ∧ qR (σ' 4 0 2) (σ' 5 0) (σ' 6 0) (Q.filter (fun q => decide (q.1 ≠ l))) ∧ ∀ k i j, k ≠ 4 → k ≠ 5 → k ≠ 6 → σ' k i j = σ k i j := by
  have hn : Q.length ≤ 16 := hV.1
  generalize hkp : (fun q : Nat × Nat => decide (q.1 ≠ l)) = keep
  obtain ⟨⟨c, w⟩, ⟨hc, hI, hw4, hwk⟩, e⟩ := zloop (β := Nat × zS) (L := fun n i b => fX5_removeLetter_4 (nI l) (fun u y => zB ((y 4 0 2) - u) (fun x2 => zB (zU y 4 0 2 u) (fun s3 => some (x2, s3)))) n (nI b.1) (nI i) b.2)
    (fun i b => b.1 = ((Q.take i).filter keep).length ∧ cI keep Q i (b.2 5 0) (b.2 6 0) ∧ b.2 4 0 2 = σ 4 0 2 ∧ ∀ k i j, k ≠ 5 → k ≠ 6 → b.2 k i j = σ k i j) Q.length
    (fun b => some (nI Q.length - nI b.1, zU b.2 4 0 2 (nI b.1))) (by
      intro n i b hi hb
      obtain ⟨c, w⟩ := b
      obtain ⟨hc, hI, hw4, hwk⟩ := hb
      dsimp only at hc hI hw4 hwk ⊢
      have hle := zcnt_le keep Q i
      obtain ⟨ei, gi⟩ := hI.2 i _ (Nat.le_refl i) (List.getElem?_eq_getElem hi)
      obtain ⟨v1, v2, -⟩ := hV.2.2 _ (List.getElem_mem hi)
      have h0 : fX5_removeLetter_4 (nI l) (fun u y => zB ((y 4 0 2) - u) (fun x2 => zB (zU y 4 0 2 u) (fun s3 => some (x2, s3)))) (n + 1) (nI c) (nI i) w = if w 5 0 i = nI l then fX5_removeLetter_4 (nI l) (fun u y => zB ((y 4 0 2) - u) (fun x2 => zB (zU y 4 0 2 u) (fun s3 => some (x2, s3)))) n (nI c) (nI (i + 1)) w else fX5_removeLetter_4 (nI l) (fun u y => zB ((y 4 0 2) - u) (fun x2 => zB (zU y 4 0 2 u) (fun s3 => some (x2, s3)))) n (nI (c + 1)) (nI (i + 1)) (zU (zU w 5 0 c (w 5 0 i)) 6 0 c (w 6 0 i)) := by
        show (if w 4 0 2 ≤ nI i then _ else _) = _
        rw [hw4, hR.1, if_neg (nI_ge hi (by omega)), zIx_nI (show i < 16 by omega) (by decide), nI_clamp (by omega)]
        split
        · rw [zB_s, nI_1]
        · rw [zIx_nI (show i < 16 by omega) (by decide), zIx_nI (show c < 16 by omega) (by decide), zB_s, zIx_nI (show i < 16 by omega) (by decide), zIx_nI (show c < 16 by omega) (by decide), nI_clamp (by omega), zB_s, zB_s, zB_s, nI_1, nI_1, zU_k (by decide)]
      rw [h0]
      by_cases hq : w 5 0 i = nI l
      · rw [if_pos hq]
        have hk : keep (Q[i]'hi) = false := by
          rw [← hkp]
          rw [ei, zn_eq (by omega) (by omega)] at hq
          simp [hq]
        obtain ⟨d1, d2, -⟩ := hI.drop hi hk
        exact ⟨(c, w), ⟨by rw [d1]; exact hc, d2, hw4, hwk⟩, rfl⟩
      · rw [if_neg hq]
        have hk : keep (Q[i]'hi) = true := by
          rw [← hkp]
          rw [ei, zn_eq (by omega) (by omega)] at hq
          simp [hq]
        obtain ⟨d1, d2⟩ := hI.keep hi hk
        refine ⟨(c + 1, zU (zU w 5 0 c (w 5 0 i)) 6 0 c (w 6 0 i)), ⟨by rw [d1, ← hc], ?_, ?_, ?_⟩, rfl⟩
        · rw [← hc] at d2
          have e5 : (zU (zU w 5 0 c (w 5 0 i)) 6 0 c (w 6 0 i)) 5 0 = upd (w 5 0) c (w 5 0 i) := funext fun j => by simp [zU_ap, upd]
          have e6 : (zU (zU w 5 0 c (w 5 0 i)) 6 0 c (w 6 0 i)) 6 0 = upd (w 6 0) c (w 6 0 i) := funext fun j => by simp [zU_ap, upd]
          dsimp only
          rw [e5, e6]
          exact d2
        · dsimp only
          rw [zU_k (by decide), zU_k (by decide)]; exact hw4
        · intro k i' j h5 h6
          dsimp only
          rw [zU_k h6, zU_k h5]; exact hwk k i' j h5 h6) (by
      intro n b hb
      obtain ⟨c, w⟩ := b
      obtain ⟨hc, hI, hw4, hwk⟩ := hb
      dsimp only at hc hI hw4 hwk ⊢
      show (if w 4 0 2 ≤ nI Q.length then _ else _) = _
      rw [hw4, hR.1, if_pos (nI_le (Nat.le_refl _) (by omega))]
      show some (w 4 0 2 - nI c, zU w 4 0 2 (nI c)) = _
      rw [hw4, hR.1]) Q.length 0 (0, σ) zN (by omega) ⟨rfl, cI.zero hR, rfl, fun _ _ _ _ _ => rfl⟩ (Nat.lt_of_le_of_lt hn (by decide))
  dsimp only at hc hI hw4 hwk e
  have hc2 : c = (Q.filter keep).length := by rw [hc, List.take_length]
  have hle : (Q.filter keep).length ≤ Q.length := List.length_filter_le _ _
  refine ⟨zU w 4 0 2 (nI c), ?_, ?_, ?_⟩
  · refine Eq.trans (show fX5_removeLetter (nI l) σ = _ from e) ?_
    rw [pk_sub (by omega), hc2]
  · have h5 : (zU w 4 0 2 (nI c)) 5 0 = w 5 0 := funext fun j => zU_k (by decide)
    have h6 : (zU w 4 0 2 (nI c)) 6 0 = w 6 0 := funext fun j => zU_k (by decide)
    rw [zU_s, h5, h6, hc2]
    exact hI.last
  · intro k i j h4 h5 h6
    rw [zU_k h4]; exact hwk k i j h5 h6
/-- the reference: entries go that aren't kept -/
theorem e_goes {T : Nat} {Q : List (Nat × Nat)} {σ : zS} (hV : qV T Q) (hR : qR (σ 21 0 3) (σ 24 0) (σ 25 0) Q) {l : Nat} (hl : l < 10) {a2 : Int32} {keep : Nat × Nat → Bool} (hkp : ∀ q : Nat × Nat, q ∈ Q → (keep q = false ↔ (q.1 = l ∧ (a2 = -9 ∨ nI q.2 = a2)))) : ∃ σ', fX9_goes (nI l) a2 σ = some (nI (Q.length - (Q.filter keep).length), σ') ∧ qR (σ' 21 0 3) (σ' 24 0) (σ' 25 0) (Q.filter keep) ∧ ∀ k i j, ¬ (k = 21 ∧ j = 3) → k ≠ 24 → k ≠ 25 → σ' k i j = σ k i j := by
  have hn : Q.length ≤ 16 := hV.1
  obtain ⟨⟨c, w⟩, ⟨hc, hI, hw4, hwk⟩, e⟩ := zloop (β := Nat × zS) (L := fun n i b => fX9_goes_5 (nI l) a2 (fun u y => zB ((y 21 0 3) - u) (fun x2 => zB (zU y 21 0 3 u) (fun s3 => some (x2, s3)))) n (nI b.1) (nI i) b.2)
    (fun i b => b.1 = ((Q.take i).filter keep).length ∧ cI keep Q i (b.2 24 0) (b.2 25 0) ∧ b.2 21 0 3 = σ 21 0 3 ∧ ∀ k i j, k ≠ 24 → k ≠ 25 → b.2 k i j = σ k i j) Q.length
    (fun b => some (nI Q.length - nI b.1, zU b.2 21 0 3 (nI b.1))) (by
      intro n i b hi hb
      obtain ⟨c, w⟩ := b
      obtain ⟨hc, hI, hw4, hwk⟩ := hb
      dsimp only at hc hI hw4 hwk ⊢
      have hle := zcnt_le keep Q i
      obtain ⟨ei, gi⟩ := hI.2 i _ (Nat.le_refl i) (List.getElem?_eq_getElem hi)
      obtain ⟨v1, v2, -⟩ := hV.2.2 _ (List.getElem_mem hi)
      have f5 : (zU (zU w 24 0 c (w 24 0 i)) 25 0 c (w 25 0 i)) 24 0 = upd (w 24 0) c (w 24 0 i) := funext fun j => by simp [zU_ap, upd]
      have f6 : (zU (zU w 24 0 c (w 24 0 i)) 25 0 c (w 25 0 i)) 25 0 = upd (w 25 0) c (w 25 0 i) := funext fun j => by simp [zU_ap, upd]
      have g5 : (zU (zU w 24 0 c (w 24 0 i)) 25 0 c (w 25 0 i)) 24 0 i = nI (Q[i]'hi).1 := by
        rw [f5]; unfold upd; split <;> exact ei
      have g6 : (zU (zU w 24 0 c (w 24 0 i)) 25 0 c (w 25 0 i)) 25 0 i = nI (Q[i]'hi).2 := by
        rw [f6]; unfold upd; split <;> exact gi
      have h0 : fX9_goes_5 (nI l) a2 (fun u y => zB ((y 21 0 3) - u) (fun x2 => zB (zU y 21 0 3 u) (fun s3 => some (x2, s3)))) (n + 1) (nI c) (nI i) w = fX9_goes_5 (nI l) a2 (fun u y => zB ((y 21 0 3) - u) (fun x2 => zB (zU y 21 0 3 u) (fun s3 => some (x2, s3)))) n (if keep (Q[i]'hi) then nI (c + 1) else nI c) (nI (i + 1)) (zU (zU w 24 0 c (w 24 0 i)) 25 0 c (w 25 0 i)) := by
        show (if w 21 0 3 ≤ nI i then _ else _) = _
        rw [hw4, hR.1, if_neg (nI_ge hi (by omega)), zIx_nI (show i < 16 by omega) (by decide), zIx_nI (show c < 16 by omega) (by decide), zB_s, zIx_nI (show i < 16 by omega) (by decide), zIx_nI (show c < 16 by omega) (by decide), zB_s, zIx_nI (show i < 16 by omega) (by decide), nI_clamp (show i < 2 ^ 31 by omega), nI_clamp (show c < 2 ^ 31 by omega), zU_k (show (25 : Nat) ≠ 24 by decide), g5, g6]
        have q1 : (nI (Q[i]'hi).1 = nI l) = ((Q[i]'hi).1 = l) := zn_eq (by omega) (by omega)
        have hk := hkp _ (List.getElem_mem hi)
        have x0 : ∀ x : Int32, x + 0 = x := fun x => by simp
        cases hkv : keep (Q[i]'hi) with
        | false =>
          obtain ⟨k1, k2⟩ := hk.mp hkv
          rw [if_pos (by rw [q1]; exact k1)]
          rcases k2 with k2 | k2
          · rw [if_pos k2, zB_s, zB_s, x0, nI_1]; rfl
          · by_cases k3 : a2 = -9
            · rw [if_pos k3, zB_s, zB_s, x0, nI_1]; rfl
            · rw [if_neg k3, zIx_nI (show i < 16 by omega) (by decide), if_pos k2, zB_s, zB_s, x0, nI_1]; rfl
        | true =>
          have hk2 : ¬ ((Q[i]'hi).1 = l ∧ (a2 = -9 ∨ nI (Q[i]'hi).2 = a2)) := fun z => by rw [hk.mpr z] at hkv; cases hkv
          by_cases k1 : (Q[i]'hi).1 = l
          · rw [if_pos (by rw [q1]; exact k1), if_neg (fun z => hk2 ⟨k1, Or.inl z⟩), zIx_nI (show i < 16 by omega) (by decide), if_neg (fun z => hk2 ⟨k1, Or.inr z⟩), zB_s, zB_s, nI_1, nI_1]; rfl
          · rw [if_neg (by rw [q1]; exact k1), zB_s, zB_s, nI_1, nI_1]; rfl
      rw [h0]
      cases hkv : keep (Q[i]'hi) with
      | false =>
        obtain ⟨d1, -, d2⟩ := hI.drop hi hkv
        refine ⟨(c, zU (zU w 24 0 c (w 24 0 i)) 25 0 c (w 25 0 i)), ⟨by rw [d1]; exact hc, ?_, ?_, ?_⟩, rfl⟩
        · rw [← hc] at d2; dsimp only; rw [f5, f6]; exact d2
        · dsimp only; rw [zU_k (by decide), zU_k (by decide)]; exact hw4
        · intro k i' j h5 h6; dsimp only; rw [zU_k h6, zU_k h5]; exact hwk k i' j h5 h6
      | true =>
        obtain ⟨d1, d2⟩ := hI.keep hi hkv
        refine ⟨(c + 1, zU (zU w 24 0 c (w 24 0 i)) 25 0 c (w 25 0 i)), ⟨by rw [d1, ← hc], ?_, ?_, ?_⟩, rfl⟩
        · rw [← hc] at d2; dsimp only; rw [f5, f6]; exact d2
        · dsimp only; rw [zU_k (by decide), zU_k (by decide)]; exact hw4
        · intro k i' j h5 h6; dsimp only; rw [zU_k h6, zU_k h5]; exact hwk k i' j h5 h6) (by
      intro n b hb
      obtain ⟨c, w⟩ := b
      obtain ⟨hc, hI, hw4, hwk⟩ := hb
      dsimp only at hc hI hw4 hwk ⊢
      show (if w 21 0 3 ≤ nI Q.length then _ else _) = _
      rw [hw4, hR.1, if_pos (nI_le (Nat.le_refl _) (by omega))]
      show some (w 21 0 3 - nI c, zU w 21 0 3 (nI c)) = _
      rw [hw4, hR.1]) Q.length 0 (0, σ) zN (by omega) ⟨rfl, cI.zero hR, rfl, fun _ _ _ _ _ => rfl⟩ (Nat.lt_of_le_of_lt hn (by decide))
  dsimp only at hc hI hw4 hwk e
  have hc2 : c = (Q.filter keep).length := by rw [hc, List.take_length]
  have hle : (Q.filter keep).length ≤ Q.length := List.length_filter_le _ _
  refine ⟨zU w 21 0 3 (nI c), ?_, ?_, ?_⟩
  · refine Eq.trans (show fX9_goes (nI l) a2 σ = _ from e) ?_
    rw [pk_sub (by omega), hc2]
  · have h5 : (zU w 21 0 3 (nI c)) 24 0 = w 24 0 := funext fun j => zU_k (by decide)
    have h6 : (zU w 21 0 3 (nI c)) 25 0 = w 25 0 := funext fun j => zU_k (by decide)
    rw [zU_s, h5, h6, hc2]
    exact hI.last
  · intro k i j h4 h5 h6
    rw [zU_ap, if_neg (fun z => h4 ⟨z.1, z.2.2⟩)]
    exact hwk k i j h5 h6
theorem zerase : ∀ {Q : List (Nat × Nat)} {k : Nat} {a : Nat × Nat}, Q.Nodup → Q[k]? = some a → Q.eraseIdx k = Q.filter (fun q => decide (q ≠ a))
  | [], k, a, _, h => by simp at h
  | x :: xs, 0, a, hn, h => by
    rw [List.getElem?_cons_zero] at h
    cases h
    have hx := (List.nodup_cons.mp hn).1
    rw [List.eraseIdx_cons_zero, List.filter_cons]
    simp
    symm
    apply List.filter_eq_self.mpr
    intro b hb
    simp
    rintro rfl
    exact hx hb
  | x :: xs, k + 1, a, hn, h => by
    rw [List.getElem?_cons_succ] at h
    have hx := (List.nodup_cons.mp hn)
    have hne : x ≠ a := by rintro rfl; exact hx.1 (List.mem_of_getElem? h)
    rw [List.eraseIdx_cons_succ, zerase hx.2 h, List.filter_cons]
    simp [hne]
/-- the class: the entry of a pair goes, if it is there -/
theorem e_removePair {T : Nat} {Q : List (Nat × Nat)} {σ : zS} (hV : qV T Q) (hR : qR (σ 4 0 2) (σ 5 0) (σ 6 0) Q) {l s : Nat} (hl : l < 10) (hs : s < 8) : ∃ σ', fX5_removePair (nI l) (nI s) σ = some (nI (Q.length - (Q.filter (fun q => decide (q ≠ (l, s)))).length), σ') ∧ qR (σ' 4 0 2) (σ' 5 0) (σ' 6 0) (Q.filter (fun q => decide (q ≠ (l, s)))) ∧ Q.length - (Q.filter (fun q => decide (q ≠ (l, s)))).length ≤ 1 ∧ ∀ k i j, k ≠ 4 → k ≠ 5 → k ≠ 6 → σ' k i j = σ k i j := by
  have hn : Q.length ≤ 16 := hV.1
  rcases e_indexOf hV hR hl hs with ⟨k, hk, e⟩ | ⟨hno, e⟩
  · have hkl := (List.getElem?_eq_some_iff.mp hk).1
    rw [← zerase hV.2.1 hk]
    have hlen : (Q.eraseIdx k).length = Q.length - 1 := List.length_eraseIdx_of_lt hkl
    obtain ⟨w, ⟨-, hI1, hI2, hw4, hwk⟩, e2⟩ := zloop (β := zS) (L := fun n i b => fX5_removePair_26 (fun y => some (1, y)) n (nI i) b)
      (fun i b => k ≤ i ∧ (∀ j q, j < i → (Q.eraseIdx k)[j]? = some q → b 5 0 j = nI q.1 ∧ b 6 0 j = nI q.2) ∧ (∀ j q, i ≤ j → Q[j]? = some q → b 5 0 j = nI q.1 ∧ b 6 0 j = nI q.2) ∧ b 4 0 2 = nI (Q.length - 1) ∧ ∀ k i j, k ≠ 4 → k ≠ 5 → k ≠ 6 → b k i j = σ k i j) (Q.length - 1) (fun b => some (1, b)) (by
        intro n i b hi hb
        obtain ⟨hki, h1, h2, h4, h5⟩ := hb
        refine ⟨zU (zU b 5 0 i (b 5 0 (i + 1))) 6 0 i (b 6 0 (i + 1)), ⟨by omega, fun j q hj hq => ?_, fun j q hj hq => ?_, ?_, ?_⟩, ?_⟩
        · rcases Nat.lt_or_ge j i with q1 | q1
          · rw [zU_k (by decide), zU_j (by omega), zU_j (by omega), zU_k (by decide)]
            exact h1 j q q1 hq
          · have : j = i := by omega
            subst this
            rw [List.getElem?_eraseIdx, if_neg (by omega)] at hq
            rw [zU_k (by decide), zU_s, zU_s]
            exact h2 (j + 1) q (by omega) hq
        · rw [zU_k (by decide), zU_j (by omega), zU_j (by omega), zU_k (by decide)]
          exact h2 j q (by omega) hq
        · rw [zU_k (by decide), zU_k (by decide)]; exact h4
        · intro k' i' j' h6 h7 h8
          rw [zU_k h8, zU_k h7]; exact h5 k' i' j' h6 h7 h8
        · show (if b 4 0 2 ≤ nI i then _ else _) = _
          rw [h4, if_neg (nI_ge hi (by omega)), nI_1, zIx_nI (show i + 1 < 16 by omega) (by decide), zIx_nI (show i < 16 by omega) (by decide), zB_s, zIx_nI (show i + 1 < 16 by omega) (by decide), zIx_nI (show i < 16 by omega) (by decide), zB_s, zB_s, nI_clamp (show i < 2 ^ 31 by omega), nI_clamp (show i + 1 < 2 ^ 31 by omega), zU_k (show (6 : Nat) ≠ 5 by decide)]) (by
        intro n b hb
        obtain ⟨-, -, -, hw4, -⟩ := hb
        show (if b 4 0 2 ≤ nI (Q.length - 1) then _ else _) = _
        rw [hw4, if_pos (nI_le (Nat.le_refl _) (by omega))]) (Q.length - 1 - k) k (zU σ 4 0 2 (nI (Q.length - 1))) zN (by omega) ⟨Nat.le_refl k, fun j q hj hq => by
          rw [List.getElem?_eraseIdx, if_pos hj] at hq
          rw [zU_k (by decide), zU_k (by decide)]; exact hR.2 j q hq, fun j q _ hq => by
          rw [zU_k (by decide), zU_k (by decide)]; exact hR.2 j q hq, zU_s, fun k' i' j' h6 _ _ => zU_k h6⟩ (Nat.lt_of_le_of_lt (show Q.length - 1 - k ≤ 16 by omega) (by decide))
    refine ⟨w, ?_, ⟨by rw [hw4, hlen], fun j q hq => hI1 j q (by have := (List.getElem?_eq_some_iff.mp hq).1; omega) hq⟩, by omega, hwk⟩
    unfold fX5_removePair
    rw [e, zCi_s, if_pos (nI_pos' (by omega)), zB_s, hR.1, show nI Q.length - 1 = nI (Q.length - 1) from pk_sub (a := Q.length) (b := 1) (by omega), e2, hlen, show Q.length - (Q.length - 1) = 1 by omega]
    rfl
  · have hf : Q.filter (fun q => decide (q ≠ (l, s))) = Q := List.filter_eq_self.mpr (fun q hq => by
      simp
      rintro rfl
      exact hno hq)
    rw [hf]
    refine ⟨σ, ?_, hR, by omega, fun _ _ _ _ _ _ => rfl⟩
    unfold fX5_removePair
    rw [e, zCi_s, if_neg (by decide), Nat.sub_self]
    rfl
