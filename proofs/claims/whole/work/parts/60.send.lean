/-! a sum is sent -/
def dst (a x s : Nat) (st : (Nat → Nat) × List (Nat × Nat)) : (Nat → Nat) × List (Nat × Nat) := if a.testBit s then (match rdN (lk x (st.1 s)) with
  | none => st
  | some l => (fup st.1 s (st.1 s ||| 2 ^ l), st.2.filter (fun q => decide (q ≠ (l, s))))) else st
def dlv (a x : Nat) (st : (Nat → Nat) × List (Nat × Nat)) : Nat → (Nat → Nat) × List (Nat × Nat)
  | 0 => st
  | s + 1 => dst a x s (dlv a x st s)
theorem dst_len {a x s : Nat} {st : (Nat → Nat) × List (Nat × Nat)} : (dst a x s st).2.length ≤ st.2.length := by
  unfold dst
  split
  · split
    · exact Nat.le_refl _
    · exact List.length_filter_le _ _
  · exact Nat.le_refl _
theorem dlv_len {a x : Nat} {st : (Nat → Nat) × List (Nat × Nat)} : ∀ n, (dlv a x st n).2.length ≤ st.2.length
  | 0 => Nat.le_refl _
  | n + 1 => Nat.le_trans dst_len (dlv_len n)
theorem read_T {x T h l : Nat} (hx : x < 1024) (hxT : lk x T = 0) (h1 : lk x h = 2 ^ l) (hl : l < 10) : T.testBit l = true := by
  have h2 := lk_bit (a := x) (b := h) (j := l) (by omega)
  rw [h1, zpow_bit, decide_eq_true rfl] at h2
  have h3 : x.testBit l = true := by
    cases hb : x.testBit l with
    | true => rfl
    | false => rw [hb] at h2; cases h2
  exact (lk0 (by omega)).mp hxT l (by omega) h3
def hdV (T : Nat) (Hd : Nat → Nat) : Prop := ∀ s, s < 8 → Hd s < 1024 ∧ lk (Hd s) T = 0
theorem dst_V {T a x s : Nat} {st : (Nat → Nat) × List (Nat × Nat)} (hx : x < 1024) (hxT : lk x T = 0) (h : hdV T st.1 ∧ qV T st.2) : hdV T (dst a x s st).1 ∧ qV T (dst a x s st).2 := by
  unfold dst
  split
  · split
    · exact h
    · next l hl =>
      obtain ⟨h1, h2⟩ := rd_y hl
      refine ⟨fun j hj => ?_, qV_f h.2 (fun q hq _ => (h.2.2.2 q hq).2.2)⟩
      show fup st.1 s (st.1 s ||| 2 ^ l) j < 1024 ∧ lk (fup st.1 s (st.1 s ||| 2 ^ l) j) T = 0
      unfold fup
      by_cases e : j = s
      · subst e
        rw [if_pos rfl]
        obtain ⟨q3, q4⟩ := h.1 j hj
        exact ⟨zor_lt q3 (zpow_lt h1), or_sub (by omega) (Nat.lt_trans (zpow_lt h1) (by decide)) q4 (pow_sub h1 (read_T hx hxT h2 h1))⟩
      · rw [if_neg e]; exact h.1 j hj
  · exact h
theorem dlv_V {T a x : Nat} {st : (Nat → Nat) × List (Nat × Nat)} (hx : x < 1024) (hxT : lk x T = 0) (h : hdV T st.1 ∧ qV T st.2) : ∀ n, hdV T (dlv a x st n).1 ∧ qV T (dlv a x st n).2
  | 0 => h
  | n + 1 => dst_V hx hxT (dlv_V hx hxT h n)
def hdC (Hd : Nat → Nat) (f : Nat → Int32) : Prop := ∀ s, s < 8 → f s = nI (Hd s)
/-- one station, class -/
theorem dstC {T a x s : Nat} {st : (Nat → Nat) × List (Nat × Nat)} {w : zS} (hx : x < 1024) (hs : s < 8) (hV : hdV T st.1 ∧ qV T st.2) (ha : a < 256) (h2 : w 1 0 4 = nI a) (hC : hdC st.1 (w 3 0)) (hR : qR (w 4 0 2) (w 5 0) (w 6 0) st.2) (k0 : Int32 → zS → Option (Int32 × zS)) (n c : Nat) : ∃ w', fX6_deliver_4 (nI x) k0 (n + 1) (nI c) (nI s) w = fX6_deliver_4 (nI x) k0 n (nI (c + (st.2.length - (dst a x s st).2.length))) (nI (s + 1)) w' ∧ hdC (dst a x s st).1 (w' 3 0) ∧ qR (w' 4 0 2) (w' 5 0) (w' 6 0) (dst a x s st).2 ∧ ∀ k i j, k ≠ 3 → k ≠ 4 → k ≠ 5 → k ≠ 6 → w' k i j = w k i j := by
  have hlk : lk x (st.1 s) < 1024 := Nat.lt_of_le_of_lt (lk_le _ _) hx
  have h0 : fX6_deliver_4 (nI x) k0 (n + 1) (nI c) (nI s) w = if (if a.testBit s then (1 : Int32) else 0) = 0 then fX6_deliver_4 (nI x) k0 n (nI c) (nI (s + 1)) w else if rvI (rdN (lk x (st.1 s))) = -9 then fX6_deliver_4 (nI x) k0 n (nI c) (nI (s + 1)) w else zCi (fX6_give (nI s) (rvI (rdN (lk x (st.1 s)))) w) (fun x11 s10 => if x11 = 0 then fX6_deliver_4 (nI x) k0 n (nI c) (nI (s + 1)) s10 else fX6_deliver_4 (nI x) k0 n (nI (c + 1)) (nI (s + 1)) s10) := by
    show (if (8 : Int32) ≤ nI s then _ else _) = _
    rw [show (8 : Int32) = nI 8 from rfl, if_neg (nI_ge hs (by decide)), e_readBy hs (hC s hs), zCi_s, e_isOnAir ha hs h2, zCi_s, rd_dec _ hlk]
    simp only [zB_s, nI_1]
  rw [h0]
  unfold dst
  cases hb : a.testBit s with
  | false =>
    refine ⟨w, ?_, hC, hR, fun _ _ _ _ _ _ _ => rfl⟩
    rw [if_pos (by decide)]
    simp
  | true =>
    rw [if_neg (by decide)]
    cases hrd : rdN (lk x (st.1 s)) with
    | none =>
      refine ⟨w, ?_, hC, hR, fun _ _ _ _ _ _ _ => rfl⟩
      rw [if_pos (show rvI none = -9 from rfl)]
      simp
    | some l =>
      obtain ⟨hl, h1⟩ := rd_y hrd
      obtain ⟨w', e, f, g3, hle, g⟩ := e_give hV.2 hR hl hs (hC s hs)
      have hn9 : ¬ rvI (some l) = -9 := by rw [rv_9 _ (fun k hk => by cases hk; exact hl)]; simp
      rw [if_neg hn9]
      refine ⟨w', ?_, ?_, f, g⟩
      · show zCi (fX6_give (nI s) (nI l) w) _ = _
        rw [e, zCi_s]
        simp only [↓reduceIte]
        rcases (show st.2.length - (st.2.filter (fun q => decide (q ≠ (l, s)))).length = 0 ∨ st.2.length - (st.2.filter (fun q => decide (q ≠ (l, s)))).length = 1 by omega) with q | q <;> rw [q]
        · rw [if_pos (show nI 0 = 0 from rfl)]; rfl
        · rw [if_neg (by decide)]
      · intro j hj
        rw [g3]
        show _ = nI (fup st.1 s (st.1 s ||| 2 ^ l) j)
        unfold fup
        by_cases e2 : j = s
        · rw [if_pos e2, if_pos e2]
        · rw [if_neg e2, if_neg e2]; exact hC j hj
/-- one station, reference -/
theorem dstM {T a x s : Nat} {st : (Nat → Nat) × List (Nat × Nat)} {w : zS} (hx : x < 1024) (hs : s < 8) (hV : hdV T st.1 ∧ qV T st.2) (ha : a < 256) (h2 : w 21 0 6 = nI a) (hC : hdC st.1 (w 23 0)) (hR : qR (w 21 0 3) (w 24 0) (w 25 0) st.2) (k0 : zS → Option (Int32 × zS)) (n : Nat) : ∃ w', fX9_sends_7 (nI x) k0 (n + 1) (nI s) w = fX9_sends_7 (nI x) k0 n (nI (s + 1)) w' ∧ hdC (dst a x s st).1 (w' 23 0) ∧ qR (w' 21 0 3) (w' 24 0) (w' 25 0) (dst a x s st).2 ∧ ∀ k i j, k ≠ 23 → ¬ (k = 21 ∧ j = 3) → k ≠ 24 → k ≠ 25 → w' k i j = w k i j := by
  have hlk : lk x (st.1 s) < 1024 := Nat.lt_of_le_of_lt (lk_le _ _) hx
  have h0 : fX9_sends_7 (nI x) k0 (n + 1) (nI s) w = if (if a.testBit s then (1 : Int32) else 0) = 0 then fX9_sends_7 (nI x) k0 n (nI (s + 1)) w else if rvI (rdN (lk x (st.1 s))) = -9 then fX9_sends_7 (nI x) k0 n (nI (s + 1)) w else zCi (fX9_goes (rvI (rdN (lk x (st.1 s)))) (nI s) (zU w 23 0 s (nI (st.1 s) ||| ((1 : Int32) <<< (rvI (rdN (lk x (st.1 s))) &&& 31))))) (fun _ s21 => fX9_sends_7 (nI x) k0 n (nI (s + 1)) s21) := by
    show (if (8 : Int32) ≤ nI s then _ else _) = _
    rw [show (8 : Int32) = nI 8 from rfl, if_neg (nI_ge hs (by decide)), h2, e_isIn (by omega) (by omega), zCi_s, if_pos (show (-9 : Int32) = -9 from rfl), e_readByM hs hx (hC s hs), zCi_s, rd_dec _ hlk, zIx_nI hs (by decide), zIx_nI hs (by decide), zB_s, nI_clamp (by omega), hC s hs]
    simp only [zB_s, nI_1]
  rw [h0]
  unfold dst
  cases hb : a.testBit s with
  | false =>
    refine ⟨w, ?_, hC, hR, fun _ _ _ _ _ _ _ => rfl⟩
    rw [if_pos (by decide)]
  | true =>
    rw [if_neg (by decide)]
    cases hrd : rdN (lk x (st.1 s)) with
    | none =>
      refine ⟨w, ?_, hC, hR, fun _ _ _ _ _ _ _ => rfl⟩
      rw [if_pos (show rvI none = -9 from rfl)]
    | some l =>
      obtain ⟨hl, h1⟩ := rd_y hrd
      have hn9 : ¬ rvI (some l) = -9 := by rw [rv_9 _ (fun k hk => by cases hk; exact hl)]; simp
      rw [if_neg hn9]
      obtain ⟨w', e, f, g⟩ := e_goesP (σ := zU w 23 0 s (nI (st.1 s ||| 2 ^ l))) hV.2 (l := l) (s := s) (by
        rw [zU_k (by decide), show (zU w 23 0 s (nI (st.1 s ||| 2 ^ l))) 24 0 = w 24 0 from funext fun j => zU_k (by decide), show (zU w 23 0 s (nI (st.1 s ||| 2 ^ l))) 25 0 = w 25 0 from funext fun j => zU_k (by decide)]
        exact hR) hl hs
      refine ⟨w', ?_, ?_, f, fun k i j a1 a2 a3 a4 => by rw [g k i j a2 a3 a4, zU_k a1]⟩
      · show zCi (fX9_goes (nI l) (nI s) (zU w 23 0 s (nI (st.1 s) ||| ((1 : Int32) <<< (nI l &&& 31))))) _ = _
        rw [zn_shl l (by omega), zn_or, e, zCi_s]
      · intro j hj
        rw [g 23 0 j (by omega) (by decide) (by decide), zU_ap]
        show _ = nI (fup st.1 s (st.1 s ||| 2 ^ l) j)
        unfold fup
        by_cases e2 : j = s
        · rw [if_pos e2, if_pos ⟨rfl, rfl, e2⟩]
        · rw [if_neg e2, if_neg (fun z => e2 z.2.2)]; exact hC j hj
theorem C1.mk2 {T a : Nat} {m : Int32} {Hd Hd' : Nat → Nat} {Q Q' : List (Nat × Nat)} {σ w : zS} (h : C1 T a m Hd Q σ) (hV : hdV T Hd' ∧ qV T Q') (hC : hdC Hd' (w 3 0)) (hR : qR (w 4 0 2) (w 5 0) (w 6 0) Q') (g : ∀ j, j = 3 ∨ j = 4 ∨ j = 5 → w 1 0 j = σ 1 0 j) : C1 T a m Hd' Q' w := ⟨h.1, by rw [g 3 (by omega)]; exact h.2.1, h.2.2.1, by rw [g 4 (by omega)]; exact h.2.2.2.1, by rw [g 5 (by omega)]; exact h.2.2.2.2.1, fun s hs => ⟨hC s hs, hV.1 s hs⟩, hV.2, hR⟩
theorem M1.mk2 {T a : Nat} {m : Int32} {Hd Hd' : Nat → Nat} {Q Q' : List (Nat × Nat)} {σ w : zS} (h : M1 T a m Hd Q σ) (hV : hdV T Hd' ∧ qV T Q') (hC : hdC Hd' (w 23 0)) (hR : qR (w 21 0 3) (w 24 0) (w 25 0) Q') (g : ∀ j, j = 0 ∨ j = 6 ∨ j = 7 → w 21 0 j = σ 21 0 j) : M1 T a m Hd' Q' w := ⟨h.1, by rw [g 0 (by omega)]; exact h.2.1, h.2.2.1, by rw [g 6 (by omega)]; exact h.2.2.2.1, by rw [g 7 (by omega)]; exact h.2.2.2.2.1, fun s hs => ⟨hC s hs, hV.1 s hs⟩, hV.2, hR⟩
theorem e_deliver {T a : Nat} {m : Int32} {Hd : Nat → Nat} {Q : List (Nat × Nat)} {σ : zS} (h : C1 T a m Hd Q σ) {x : Nat} (hx : x < 1024) (hxT : lk x T = 0) : ∃ σ', fX6_deliver (nI x) σ = some (nI (Q.length - (dlv a x (Hd, Q) 8).2.length), σ') ∧ C1 T a m (dlv a x (Hd, Q) 8).1 (dlv a x (Hd, Q) 8).2 σ' ∧ σ' 1 0 6 = σ 1 0 6 + 1 ∧ σ' 1 0 7 = σ 1 0 7 + nI (Q.length - (dlv a x (Hd, Q) 8).2.length) ∧ ∀ k i j, k ≠ 1 → k ≠ 3 → k ≠ 4 → k ≠ 5 → k ≠ 6 → σ' k i j = σ k i j := by
  have hh := h
  obtain ⟨hT, h1, ha, h2, h3, h4, hV, hR⟩ := h
  have hVV : hdV T (Hd, Q).1 ∧ qV T (Hd, Q).2 := ⟨fun s hs => (h4 s hs).2, hV⟩
  obtain ⟨⟨c, w⟩, ⟨hc, hC, hq, g⟩, e⟩ := zloop (β := Nat × zS) (L := fun n i b => fX6_deliver_4 (nI x) (fun u y => zB (zU y 1 0 6 ((y 1 0 6) + (1 : Int32))) (fun s2 => zB (zU s2 1 0 7 ((s2 1 0 7) + u)) (fun s3 => some (u, s3)))) n (nI b.1) (nI i) b.2)
    (fun i b => b.1 = Q.length - (dlv a x (Hd, Q) i).2.length ∧ hdC (dlv a x (Hd, Q) i).1 (b.2 3 0) ∧ qR (b.2 4 0 2) (b.2 5 0) (b.2 6 0) (dlv a x (Hd, Q) i).2 ∧ ∀ k i j, k ≠ 3 → k ≠ 4 → k ≠ 5 → k ≠ 6 → b.2 k i j = σ k i j) 8
    (fun b => some (nI b.1, zU (zU b.2 1 0 6 (b.2 1 0 6 + 1)) 1 0 7 (b.2 1 0 7 + nI b.1))) (by
      intro n i b hi hb
      obtain ⟨c, w⟩ := b
      obtain ⟨hc, hC, hq, g⟩ := hb
      dsimp only at hc hC hq g ⊢
      obtain ⟨w', e, f1, f2, f3⟩ := dstC (x := x) (s := i) (a := a) (T := T) (w := w) hx hi (dlv_V hx hxT hVV i) ha (by rw [g 1 0 4 (by decide) (by decide) (by decide) (by decide)]; exact h2) hC hq (fun u y => zB (zU y 1 0 6 ((y 1 0 6) + (1 : Int32))) (fun s2 => zB (zU s2 1 0 7 ((s2 1 0 7) + u)) (fun s3 => some (u, s3)))) n c
      refine ⟨(_, w'), ⟨?_, f1, f2, fun k i' j a1 a2 a3 a4 => by dsimp only; rw [f3 k i' j a1 a2 a3 a4]; exact g k i' j a1 a2 a3 a4⟩, e⟩
      have d1 := dlv_len (a := a) (x := x) (st := (Hd, Q)) i
      have d2 := dst_len (a := a) (x := x) (s := i) (st := dlv a x (Hd, Q) i)
      show c + _ = Q.length - (dst a x i (dlv a x (Hd, Q) i)).2.length
      dsimp only at d1
      omega) (by
      intro n b hb
      obtain ⟨c, w⟩ := b
      show (if (8 : Int32) ≤ nI 8 then _ else _) = _
      rw [if_pos (by decide)]
      show some (nI c, zU (zU w 1 0 6 (w 1 0 6 + 1)) 1 0 7 ((zU w 1 0 6 (w 1 0 6 + 1)) 1 0 7 + nI c)) = _
      rw [zU_j (by decide)]) 8 0 (0, σ) zN (by decide) ⟨by show 0 = Q.length - Q.length; omega, fun s hs => (h4 s hs).1, hR, fun _ _ _ _ _ _ _ => rfl⟩ (by decide)
  dsimp only at hc hC hq g e
  refine ⟨zU (zU w 1 0 6 (w 1 0 6 + 1)) 1 0 7 (w 1 0 7 + nI c), ?_, ?_, ?_, ?_, ?_⟩
  · refine Eq.trans (show fX6_deliver (nI x) σ = _ from e) ?_
    rw [hc]
  · refine hh.mk2 (dlv_V hx hxT hVV 8) ?_ ?_ ?_
    · intro s hs; rw [zU_k (by decide), zU_k (by decide)]; exact hC s hs
    · rw [zU_k (by decide), zU_k (by decide), show (zU (zU w 1 0 6 (w 1 0 6 + 1)) 1 0 7 (w 1 0 7 + nI c)) 5 0 = w 5 0 from funext fun j => by rw [zU_k (by decide), zU_k (by decide)], show (zU (zU w 1 0 6 (w 1 0 6 + 1)) 1 0 7 (w 1 0 7 + nI c)) 6 0 = w 6 0 from funext fun j => by rw [zU_k (by decide), zU_k (by decide)]]
      exact hq
    · intro j hj; rw [zU_j (by omega), zU_j (by omega)]; exact g 1 0 j (by decide) (by decide) (by decide) (by decide)
  · rw [zU_j (by decide), zU_s, g 1 0 6 (by decide) (by decide) (by decide) (by decide)]
  · rw [zU_s, g 1 0 7 (by decide) (by decide) (by decide) (by decide), hc]
  · intro k i j a1 a2 a3 a4 a5
    rw [zU_k a1, zU_k a1]; exact g k i j a2 a3 a4 a5
theorem e_sends {T a : Nat} {m : Int32} {Hd : Nat → Nat} {Q : List (Nat × Nat)} {σ : zS} (h : M1 T a m Hd Q σ) {x : Nat} (hx : x < 1024) (hxT : lk x T = 0) : ∃ σ', fX9_sends (nI x) σ = some (nI (Q.length - (dlv a x (Hd, Q) 8).2.length), σ') ∧ M1 T a m (dlv a x (Hd, Q) 8).1 (dlv a x (Hd, Q) 8).2 σ' ∧ σ' 21 0 8 = σ 21 0 8 + 1 ∧ σ' 21 0 9 = σ 21 0 9 + nI (Q.length - (dlv a x (Hd, Q) 8).2.length) ∧ ∀ k i j, k ≠ 23 → k ≠ 24 → k ≠ 25 → ¬ (k = 21 ∧ (j = 3 ∨ j = 8 ∨ j = 9)) → σ' k i j = σ k i j := by
  have hh := h
  obtain ⟨hT, h1, ha, h2, h3, h4, hV, hR⟩ := h
  have hVV : hdV T (Hd, Q).1 ∧ qV T (Hd, Q).2 := ⟨fun s hs => (h4 s hs).2, hV⟩
  have hl8 := dlv_len (a := a) (x := x) (st := (Hd, Q)) 8
  dsimp only at hl8
  obtain ⟨w, ⟨hC, hq, g⟩, e⟩ := zloop (β := zS) (L := fun n i b => fX9_sends_7 (nI x) (fun y => zB (zU y 21 0 8 ((y 21 0 8) + (1 : Int32))) (fun s3 => zB (zU s3 21 0 9 ((s3 21 0 9) + (nI Q.length - (s3 21 0 3)))) (fun s4 => some (nI Q.length - (s4 21 0 3), s4)))) n (nI i) b)
    (fun i b => hdC (dlv a x (Hd, Q) i).1 (b 23 0) ∧ qR (b 21 0 3) (b 24 0) (b 25 0) (dlv a x (Hd, Q) i).2 ∧ ∀ k i j, k ≠ 23 → ¬ (k = 21 ∧ j = 3) → k ≠ 24 → k ≠ 25 → b k i j = σ k i j) 8
    (fun b => some (nI Q.length - b 21 0 3, zU (zU b 21 0 8 (b 21 0 8 + 1)) 21 0 9 (b 21 0 9 + (nI Q.length - b 21 0 3)))) (by
      intro n i w hi hb
      obtain ⟨hC, hq, g⟩ := hb
      obtain ⟨w', e, f1, f2, f3⟩ := dstM (x := x) (s := i) (a := a) (T := T) (w := w) hx hi (dlv_V hx hxT hVV i) ha (by rw [g 21 0 6 (by decide) (by decide) (by decide) (by decide)]; exact h2) hC hq (fun y => zB (zU y 21 0 8 ((y 21 0 8) + (1 : Int32))) (fun s3 => zB (zU s3 21 0 9 ((s3 21 0 9) + (nI Q.length - (s3 21 0 3)))) (fun s4 => some (nI Q.length - (s4 21 0 3), s4)))) n
      exact ⟨w', ⟨f1, f2, fun k i' j a1 a2 a3 a4 => by rw [f3 k i' j a1 a2 a3 a4]; exact g k i' j a1 a2 a3 a4⟩, e⟩) (by
      intro n w hb
      show (if (8 : Int32) ≤ nI 8 then _ else _) = _
      rw [if_pos (by decide)]
      show some (nI Q.length - (zU (zU w 21 0 8 (w 21 0 8 + 1)) 21 0 9 ((zU w 21 0 8 (w 21 0 8 + 1)) 21 0 9 + (nI Q.length - (zU w 21 0 8 (w 21 0 8 + 1)) 21 0 3))) 21 0 3, zU (zU w 21 0 8 (w 21 0 8 + 1)) 21 0 9 ((zU w 21 0 8 (w 21 0 8 + 1)) 21 0 9 + (nI Q.length - (zU w 21 0 8 (w 21 0 8 + 1)) 21 0 3))) = _
      rw [zU_j (show (3 : Nat) ≠ 9 by decide), zU_j (show (3 : Nat) ≠ 8 by decide), zU_j (show (9 : Nat) ≠ 8 by decide)]) 8 0 σ zN (by decide) ⟨fun s hs => (h4 s hs).1, hR, fun _ _ _ _ _ _ _ => rfl⟩ (by decide)
  rw [hq.1, pk_sub hl8] at e
  refine ⟨zU (zU w 21 0 8 (w 21 0 8 + 1)) 21 0 9 (w 21 0 9 + nI (Q.length - (dlv a x (Hd, Q) 8).2.length)), ?_, ?_, ?_, ?_, ?_⟩
  · unfold fX9_sends
    rw [zB_s, hR.1]
    exact e
  · refine hh.mk2 (dlv_V hx hxT hVV 8) ?_ ?_ ?_
    · intro s hs; rw [zU_k (by decide), zU_k (by decide)]; exact hC s hs
    · rw [zU_j (by decide), zU_j (by decide)]
      refine ⟨hq.1, fun k q hk => ?_⟩
      rw [zU_k (by decide), zU_k (by decide), zU_k (by decide), zU_k (by decide)]
      exact hq.2 k q hk
    · intro j hj; rw [zU_j (by omega), zU_j (by omega)]; exact g 21 0 j (by decide) (by omega) (by decide) (by decide)
  · rw [zU_j (by decide), zU_s, g 21 0 8 (by decide) (by decide) (by decide) (by decide)]
  · rw [zU_s, g 21 0 9 (by decide) (by decide) (by decide) (by decide)]
  · intro k i j a1 a2 a3 a4
    rw [zU_ap, if_neg (fun z => a4 ⟨z.1, Or.inr (Or.inr z.2.2)⟩), zU_ap, if_neg (fun z => a4 ⟨z.1, Or.inr (Or.inl z.2.2)⟩)]
    exact g k i j a1 (fun z => a4 ⟨z.1, Or.inl z.2⟩) a2 a3
theorem I1.mk {T a : Nat} {m m' : Int32} {Hd : Nat → Nat} {Q : List (Nat × Nat)} {σ : zS} (h1 : C1 T a m Hd Q σ) (h2 : M1 T a m Hd Q σ) (hC : iC σ) (h8 : σ 21 0 8 = σ 1 0 6) (h9 : σ 21 0 9 = σ 1 0 7) : J1 σ := by
  obtain ⟨hT, a1, ha, a2, a3, a4, hV, hR⟩ := h1
  obtain ⟨-, b1, -, b2, b3, b4, -, hR2⟩ := h2
  exact ⟨T, Hd, Q, ⟨hT, a1, b1⟩, ⟨b2.trans a2.symm, ⟨a, ha, a2⟩, b3.trans a3.symm, h8, h9⟩, hC, fun s hs => ⟨(a4 s hs).1, (b4 s hs).1, (a4 s hs).2⟩, hV, hR, hR2⟩
theorem C1.c {T a : Nat} {m : Int32} {Hd : Nat → Nat} {Q : List (Nat × Nat)} {σ σ' : zS} (h : C1 T a m Hd Q σ) (h1 : ∀ k i j, k < 21 → σ' k i j = σ k i j) : C1 T a m Hd Q σ' := by
  unfold C1
  rw [h1 1 0 3 (by decide), h1 1 0 4 (by decide), h1 1 0 5 (by decide), h1 4 0 2 (by decide), show σ' 5 0 = σ 5 0 from funext fun j => h1 5 0 j (by decide), show σ' 6 0 = σ 6 0 from funext fun j => h1 6 0 j (by decide), show σ' 3 0 = σ 3 0 from funext fun j => h1 3 0 j (by decide)]
  exact h
theorem c_send (b : Int32) (σ : zS) (h : J1 σ) : Cs1 σ (fX8_send b) (fX9_send b) := by
  obtain ⟨T, Hd, Q, hI⟩ := id h
  obtain ⟨⟨hT, hA1, hA2⟩, ⟨-, -, -, hb4, hb5⟩, hC, hD, hE⟩ := id hI
  obtain ⟨a, k1, k2⟩ := hI.C
  cases hb : sumB T b with
  | false => exact Cs1.same h (r := -2) (by unfold fX8_send; rw [e_isSum _ _ hA1, hb]; rfl) (by unfold fX9_send; rw [e_isSumM hT _ _ hA2, hb]; rfl)
  | true =>
    obtain ⟨x, x0, x1, rfl, x2⟩ := sumB_y hT hb
    obtain ⟨σ1, e1, f1, s1, t1, g1⟩ := e_deliver k1 x1 x2
    have k3 : M1 T a (σ 1 0 5) Hd Q σ1 := k2.c (fun k i j hk => g1 k i j (by omega) (by omega) (by omega) (by omega) (by omega))
    obtain ⟨σ2, e2, f2, s2, t2, g2⟩ := e_sends k3 x1 x2
    have g3 : ∀ k i j, k < 21 → σ2 k i j = σ1 k i j := fun k i j hk => g2 k i j (by omega) (by omega) (by omega) (by omega)
    have q21 : ∀ j, σ1 21 0 j = σ 21 0 j := fun j => g1 21 0 j (by decide) (by decide) (by decide) (by decide) (by decide)
    refine ⟨nI (Q.length - (dlv a x (Hd, Q) 8).2.length), σ1, σ2, ?_, ?_, I1.mk (m' := 0) (f1.c g3) f2 ?_ ?_ ?_, ?_⟩
    · unfold fX8_send; rw [e_isSum _ _ hA1, hb, zCi_s, if_neg (by decide), e1]; rfl
    · unfold fX9_send; rw [e_isSumM hT _ _ (by rw [q21]; exact hA2), hb, zCi_s, if_neg (by decide), e2]; rfl
    · exact hC.c (fun j => by rw [g3 2 0 j (by decide), g1 2 0 j (by decide) (by decide) (by decide) (by decide) (by decide)]) (fun j => by rw [g2 22 0 j (by decide) (by decide) (by decide) (by omega), g1 22 0 j (by decide) (by decide) (by decide) (by decide) (by decide)])
    · rw [s2, g3 1 0 6 (by decide), s1, q21, hb4]
    · rw [t2, g3 1 0 7 (by decide), t1, q21, hb5]
    · intro k i j hk
      rw [g2 k i j (by omega) (by omega) (by omega) (by omega), g1 k i j (by omega) (by omega) (by omega) (by omega) (by omega)]
/-! serve -/
noncomputable def bsN (T a : Nat) (m : Int32) (st : (Nat → Nat) × List (Nat × Nat)) : Nat := Classical.choose (best_both (T := T) (a := a) (m := m) (Hd := st.1) (Q := st.2))
theorem bsN_s (T a : Nat) (m : Int32) (st : (Nat → Nat) × List (Nat × Nat)) : bsN T a m st < 1025 ∧ (∀ σ, C1 T a m st.1 st.2 σ → fX6_findBest σ = some (nI (bsN T a m st), σ)) ∧ (∀ σ, M1 T a m st.1 st.2 σ → fX9_bestSum σ = some (nI (bsN T a m st), σ)) ∧ (T < 1024 → (∀ s, s < 8 → st.1 s < 1024 ∧ lk (st.1 s) T = 0) → qV T st.2 → bsN T a m st = 0 ∨ (0 < bsN T a m st ∧ bsN T a m st < 1024 ∧ lk (bsN T a m st) T = 0)) := Classical.choose_spec (best_both (T := T) (a := a) (m := m) (Hd := st.1) (Q := st.2))
/-- how many are sent, with what is left and how many entries went -/
noncomputable def svN (T a : Nat) (m : Int32) : Nat → (Nat → Nat) × List (Nat × Nat) → Nat × ((Nat → Nat) × List (Nat × Nat)) × Nat
  | 0, st => (0, st, 0)
  | n + 1, st => if bsN T a m st = 0 then (0, st, 0) else
      let r := svN T a m n (dlv a (bsN T a m st) st 8)
      (r.1 + 1, r.2.1, (st.2.length - (dlv a (bsN T a m st) st 8).2.length) + r.2.2)
theorem e_serveC {T a : Nat} {m : Int32} : ∀ (d t n : Nat) (st : (Nat → Nat) × List (Nat × Nat)) (σ : zS) (F : Nat), t + d = n → n ≤ 16 → C1 T a m st.1 st.2 σ → d < F → ∃ σ', fX8_serve_15 (nI n) (fun y => some (nI n, y)) F (nI t) σ = some (nI (t + (svN T a m d st).1), σ') ∧ C1 T a m (svN T a m d st).2.1.1 (svN T a m d st).2.1.2 σ' ∧ σ' 1 0 6 = σ 1 0 6 + nI (svN T a m d st).1 ∧ σ' 1 0 7 = σ 1 0 7 + nI (svN T a m d st).2.2 ∧ ∀ k i j, k ≠ 1 → k ≠ 3 → k ≠ 4 → k ≠ 5 → k ≠ 6 → σ' k i j = σ k i j := by
  intro d
  induction d with
  | zero =>
    intro t n st σ F ht hn hC hF
    obtain ⟨F, rfl⟩ : ∃ g, F = g + 1 := ⟨F - 1, by omega⟩
    have : t = n := by omega
    subst this
    refine ⟨σ, ?_, hC, by show _ = _ + nI 0; rw [nI_0]; simp, by show _ = _ + nI 0; rw [nI_0]; simp, fun _ _ _ _ _ _ _ _ => rfl⟩
    show (if nI t ≤ nI t then _ else _) = _
    rw [if_pos (nI_le (Nat.le_refl _) (by omega))]
    rfl
  | succ d ih =>
    intro t n st σ F ht hn hC hF
    obtain ⟨F, rfl⟩ : ∃ g, F = g + 1 := ⟨F - 1, by omega⟩
    obtain ⟨b1, b2, b3, b4⟩ := bsN_s T a m st
    have hst : fX8_serve_15 (nI n) (fun y => some (nI n, y)) (F + 1) (nI t) σ = if nI (bsN T a m st) = 0 then some (nI t, σ) else zCi (fX6_deliver (nI (bsN T a m st)) σ) (fun _ s4 => fX8_serve_15 (nI n) (fun y => some (nI n, y)) F (nI (t + 1)) s4) := by
      show (if nI n ≤ nI t then _ else _) = _
      rw [if_neg (nI_ge (by omega) (by omega)), b2 σ hC, zCi_s]
      simp only [zB_s, nI_1]
    rw [hst]
    simp only [nI_x0 (show bsN T a m st < 2 ^ 32 by omega)]
    unfold svN
    by_cases h0 : bsN T a m st = 0
    · rw [if_pos h0, if_pos h0]
      exact ⟨σ, rfl, hC, by show _ = _ + nI 0; rw [nI_0]; simp, by show _ = _ + nI 0; rw [nI_0]; simp, fun _ _ _ _ _ _ _ _ => rfl⟩
    · rw [if_neg h0, if_neg h0]
      obtain ⟨p1, p2, p3⟩ := (b4 hC.1 (fun s hs => (hC.2.2.2.2.2.1 s hs).2) hC.2.2.2.2.2.2.1).resolve_left h0
      obtain ⟨σ1, e1, f1, s1, t1, g1⟩ := e_deliver hC p2 p3
      obtain ⟨σ2, e2, f2, s2, t2, g2⟩ := ih (t + 1) n (dlv a (bsN T a m st) st 8) σ1 F (by omega) hn f1 (by omega)
      refine ⟨σ2, ?_, f2, ?_, ?_, fun k i j a1 a2 a3 a4 a5 => by rw [g2 k i j a1 a2 a3 a4 a5, g1 k i j a1 a2 a3 a4 a5]⟩
      · rw [e1, zCi_s, e2]
        show some (nI (t + 1 + _), _) = some (nI (t + (_ + 1)), _)
        rw [show t + 1 + (svN T a m d (dlv a (bsN T a m st) st 8)).1 = t + ((svN T a m d (dlv a (bsN T a m st) st 8)).1 + 1) by omega]
      · rw [s2, s1]
        show _ = _ + nI (_ + 1)
        rw [Int32.add_assoc, show (1 : Int32) = nI 1 from rfl, nI_add, Nat.add_comm]
      · rw [t2, t1]
        show _ = _ + nI (_ + _)
        rw [Int32.add_assoc, nI_add]
theorem e_serveM {T a : Nat} {m : Int32} : ∀ (d t n : Nat) (st : (Nat → Nat) × List (Nat × Nat)) (σ : zS) (F : Nat), t + d = n → n ≤ 16 → M1 T a m st.1 st.2 σ → d < F → ∃ σ', fX9_serve_20 (nI n) (fun u y => some (u, y)) F (nI t) (nI (bsN T a m st)) σ = some (nI (t + (svN T a m d st).1), σ') ∧ M1 T a m (svN T a m d st).2.1.1 (svN T a m d st).2.1.2 σ' ∧ σ' 21 0 8 = σ 21 0 8 + nI (svN T a m d st).1 ∧ σ' 21 0 9 = σ 21 0 9 + nI (svN T a m d st).2.2 ∧ ∀ k i j, k ≠ 23 → k ≠ 24 → k ≠ 25 → ¬ (k = 21 ∧ (j = 3 ∨ j = 8 ∨ j = 9)) → σ' k i j = σ k i j := by
  intro d
  induction d with
  | zero =>
    intro t n st σ F ht hn hC hF
    obtain ⟨F, rfl⟩ : ∃ g, F = g + 1 := ⟨F - 1, by omega⟩
    have : t = n := by omega
    subst this
    refine ⟨σ, ?_, hC, by show _ = _ + nI 0; rw [nI_0]; simp, by show _ = _ + nI 0; rw [nI_0]; simp, fun _ _ _ _ _ _ _ => rfl⟩
    show (if nI t ≤ nI t then _ else _) = _
    rw [if_pos (nI_le (Nat.le_refl _) (by omega))]
    rfl
  | succ d ih =>
    intro t n st σ F ht hn hC hF
    obtain ⟨F, rfl⟩ : ∃ g, F = g + 1 := ⟨F - 1, by omega⟩
    obtain ⟨b1, b2, b3, b4⟩ := bsN_s T a m st
    have hst : fX9_serve_20 (nI n) (fun u y => some (u, y)) (F + 1) (nI t) (nI (bsN T a m st)) σ = if nI (bsN T a m st) = 0 then some (nI t, σ) else zCi (fX9_sends (nI (bsN T a m st)) σ) (fun _ s6 => zCi (fX9_bestSum s6) (fun x10 s9 => fX9_serve_20 (nI n) (fun u y => some (u, y)) F (nI (t + 1)) x10 s9)) := by
      show (if nI n ≤ nI t then _ else _) = _
      rw [if_neg (nI_ge (by omega) (by omega))]
      simp only [zB_s, nI_1]
    rw [hst]
    simp only [nI_x0 (show bsN T a m st < 2 ^ 32 by omega)]
    unfold svN
    by_cases h0 : bsN T a m st = 0
    · rw [if_pos h0, if_pos h0]
      exact ⟨σ, rfl, hC, by show _ = _ + nI 0; rw [nI_0]; simp, by show _ = _ + nI 0; rw [nI_0]; simp, fun _ _ _ _ _ _ _ => rfl⟩
    · rw [if_neg h0, if_neg h0]
      obtain ⟨p1, p2, p3⟩ := (b4 hC.1 (fun s hs => (hC.2.2.2.2.2.1 s hs).2) hC.2.2.2.2.2.2.1).resolve_left h0
      obtain ⟨σ1, e1, f1, s1, t1, g1⟩ := e_sends hC p2 p3
      obtain ⟨σ2, e2, f2, s2, t2, g2⟩ := ih (t + 1) n (dlv a (bsN T a m st) st 8) σ1 F (by omega) hn f1 (by omega)
      refine ⟨σ2, ?_, f2, ?_, ?_, fun k i j a1 a2 a3 a4 => by rw [g2 k i j a1 a2 a3 a4, g1 k i j a1 a2 a3 a4]⟩
      · rw [e1, zCi_s, (bsN_s T a m (dlv a (bsN T a m st) st 8)).2.2.1 σ1 f1, zCi_s, e2]
        show some (nI (t + 1 + _), _) = some (nI (t + (_ + 1)), _)
        rw [show t + 1 + (svN T a m d (dlv a (bsN T a m st) st 8)).1 = t + ((svN T a m d (dlv a (bsN T a m st) st 8)).1 + 1) by omega]
      · rw [s2, s1]
        show _ = _ + nI (_ + 1)
        rw [Int32.add_assoc, show (1 : Int32) = nI 1 from rfl, nI_add, Nat.add_comm]
      · rw [t2, t1]
        show _ = _ + nI (_ + _)
        rw [Int32.add_assoc, nI_add]
theorem c_serve (b : Int32) (σ : zS) (h : J1 σ) : Cs1 σ (fX8_serve b) (fX9_serve b) := by
  rcases zcase b 17 (by decide) with h1 | h1 | ⟨n, hn, rfl⟩
  · exact Cs1.same h (r := -2) (by unfold fX8_serve; rw [if_pos h1]) (by unfold fX9_serve; rw [e_within, if_pos h1]; rfl)
  · have h0 : ¬ b < 0 := zbig h1 (by decide)
    have h3 : (16 : Int32) < b := by
      have h2 : ¬ b < nI (16 + 1) := by rw [zlt_le]; exact fun z => z h1
      rw [zlt_1 (by decide), Classical.not_not] at h2; exact h2
    exact Cs1.same h (r := -2) (by unfold fX8_serve; rw [if_neg h0, if_neg (by rw [zle_lt]; exact fun z => z h3)]) (by unfold fX9_serve; rw [e_within, if_neg h0, if_pos h3]; rfl)
  obtain ⟨T, Hd, Q, hI⟩ := id h
  obtain ⟨hA, ⟨-, -, -, hb4, hb5⟩, hC, hD, hE⟩ := id hI
  obtain ⟨a, k1, k2⟩ := hI.C
  obtain ⟨σ1, e1, f1, s1, t1, g1⟩ := e_serveC n 0 n (Hd, Q) σ zN (by omega) (by omega) k1 (Nat.lt_trans hn (by decide))
  have k3 : M1 T a (σ 1 0 5) Hd Q σ1 := k2.c (fun k i j hk => g1 k i j (by omega) (by omega) (by omega) (by omega) (by omega))
  obtain ⟨σ2, e2, f2, s2, t2, g2⟩ := e_serveM n 0 n (Hd, Q) σ1 zN (by omega) (by omega) k3 (Nat.lt_trans hn (by decide))
  have g3 : ∀ k i j, k < 21 → σ2 k i j = σ1 k i j := fun k i j hk => g2 k i j (by omega) (by omega) (by omega) (by omega)
  have q21 : ∀ j, σ1 21 0 j = σ 21 0 j := fun j => g1 21 0 j (by decide) (by decide) (by decide) (by decide) (by decide)
  have c1 : ¬ nI n < 0 := nI_pos (by omega)
  have c2 : nI n ≤ 16 := nI_le (b := 16) (by omega) (by decide)
  have c3 : ¬ (16 : Int32) < nI n := nI_nlt (b := n) (a := 16) (by omega) (by decide)
  refine ⟨nI (0 + (svN T a (σ 1 0 5) n (Hd, Q)).1), σ1, σ2, ?_, ?_, I1.mk (m' := 0) (f1.c g3) f2 ?_ ?_ ?_, ?_⟩
  · unfold fX8_serve; rw [if_neg c1, if_pos c2]; exact e1
  · unfold fX9_serve; rw [e_within, if_neg c1, if_neg c3, zCi_s, if_neg (by decide), (bsN_s T a (σ 1 0 5) (Hd, Q)).2.2.1 σ1 k3, zCi_s]; exact e2
  · exact hC.c (fun j => by rw [g3 2 0 j (by decide), g1 2 0 j (by decide) (by decide) (by decide) (by decide) (by decide)]) (fun j => by rw [g2 22 0 j (by decide) (by decide) (by decide) (by omega), g1 22 0 j (by decide) (by decide) (by decide) (by decide) (by decide)])
  · rw [s2, g3 1 0 6 (by decide), s1, q21, hb4]
  · rw [t2, g3 1 0 7 (by decide), t1, q21, hb5]
  · intro k i j hk
    rw [g2 k i j (by omega) (by omega) (by omega) (by omega), g1 k i j (by omega) (by omega) (by omega) (by omega) (by omega)]
