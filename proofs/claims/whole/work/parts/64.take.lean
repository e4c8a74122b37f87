/-! a row comes to a node of the class -/
def nwR (p k : Nat) (S : List Nat) (M : Nat → Nat → Int) (v : Nat → Int) : Nat → Int := fun c => ((k : Int) * lo p S M v c) % p
theorem nar0 : vp_nar .boolean (0 : Int32) = 0 := by decide
theorem nar1 : vp_nar .boolean (1 : Int32) = 1 := by decide
theorem fl_b {f : Nat → Int} (h : fl f 5 < 5) : f (fl f 5) ≠ 0 := fl_n f 5 h
section TK
variable {p n nd : Nat} {led : Nat → Bool} {M : Nat → Nat → Int} {v : Nat → Int} {σ : zS} {r : Nat}
theorem lead_not (hR : Rf p n led M) {l : Nat} (hl : l < 5) (h0 : lo p (Sl led 5) M v l ≠ 0) : led l = false := by
  cases h : led l with
  | false => rfl
  | true => exact absurd (lo_led hR hl h) h0
theorem lead_n (hR : Rf p n led M) (hv : Vc p n v) {l : Nat} (hl : l < 5) (h0 : lo p (Sl led 5) M v l ≠ 0) : l < n := by
  rcases Nat.lt_or_ge l n with h | h
  · exact h
  · exact absurd (lo_n hR hv h hl) h0
/-- the number whose inverse is sought -/
theorem lo_nat (hp : pp p) {l : Nat} (h0 : lo p (Sl led 5) M v l ≠ 0) : ∃ w k : Nat, lo p (Sl led 5) M v l = (w : Int) ∧ 1 ≤ w ∧ w < p ∧ ivP p w k := by
  have hb := lo_b (p := p) (M := M) (v := v) (by have := hp.b; omega) (Sl led 5) l
  obtain ⟨w, hw⟩ := Int.eq_ofNat_of_zero_le hb.1
  rw [hw] at hb h0
  obtain ⟨k, hk⟩ := iv_ex (p := p) (v := w) hp (by omega) (by omega)
  exact ⟨w, k, hw, by omega, by omega, hk⟩
theorem nw_Rf (hp : pp p) (hR : Rf p n led M) (hv : Vc p n v) {l w k : Nat} (hl : l < 5) (hf : ∀ j, j < l → lo p (Sl led 5) M v j = 0) (h0 : lo p (Sl led 5) M v l = (w : Int)) (hw : 1 ≤ w) (hk : ivP p w k) : Rf p n (adL led l) (adM p M l (nwR p k (Sl led 5) M v)) := by
  have := hp.b
  have hz : lo p (Sl led 5) M v l ≠ 0 := by rw [h0]; omega
  refine ad_Rf (by omega) hR (lead_not hR hl hz) (lead_n hR hv hl hz) (fun c => ⟨md_0 (by omega), md_l (by omega)⟩) ?_ ?_ ?_ ?_
  · unfold nwR
    rw [h0, ← Int.natCast_mul, ← Int.natCast_emod, hk.2.2.1]; rfl
  · intro c hc; unfold nwR; rw [hf c hc, Int.mul_zero]; rfl
  · intro q hq hlq; unfold nwR; rw [lo_led hR hq hlq, Int.mul_zero]; rfl
  · intro c h1 h2; unfold nwR; rw [lo_n hR hv h1 h2, Int.mul_zero]; rfl
theorem e_take0 (hp : pp p) (h9 : σ 9 0 0 = nI p) (hnd : nd < 12) (hR : Rf p n led M) (h : cN σ nd led M) (hv : Vc p n v) (hr : rV σ r v) (h0 : ¬ fl (lo p (Sl led 5) M v) 5 < 5) : fX3_take nd r σ = some (0, σ) := by
  unfold fX3_take
  rw [e_newLead hp h9 hnd hR h hv hr, if_neg h0, zCi_s, if_neg (by decide)]
theorem e_take1 (hp : pp p) (h9 : σ 9 0 0 = nI p) (hnd : nd < 12) (hR : Rf p n led M) (h : cN σ nd led M) (hv : Vc p n v) (hr : rV σ r v) (hrr : r < 5 * nd ∨ 5 * nd + 5 ≤ r) {l w k : Nat} (hl : l < 5) (hf : fl (lo p (Sl led 5) M v) 5 = l) (h0 : lo p (Sl led 5) M v l = (w : Int)) (hw : 1 ≤ w) (hw2 : w < p) (hk : ivP p w k) : ∃ σ', fX3_take nd r σ = some (1, σ') ∧ cN σ' nd (adL led l) (adM p M l (nwR p k (Sl led 5) M v)) ∧ ∀ k i j, ¬ (k = 17 ∧ i = nd) → ¬ (k = 18 ∧ 5 * nd ≤ i ∧ i < 5 * nd + 5) → σ' k i j = σ k i j := by
  have hpb := hp.b
  have hz : lo p (Sl led 5) M v l ≠ 0 := by rw [h0]; omega
  have hnl := lead_not hR hl hz
  obtain ⟨w1, ⟨f1, f2⟩, e1⟩ := zloop (β := zS) (L := fun m i y => fX3_take_29 nd r (nI l) (nI k) (fun (y29_7 : zS) => (fX3_take_69 nd (nI l) (fun (y69_8 : zS) => (zIx (nI l) 5 (zB (zU y69_8 17 nd (nI l).toNatClampNeg (vp_nar .boolean (1 : Int32))) (fun s10 => some ((1 : Int32), s10))) : Option (Int32 × zS))) zN (0 : Int32) y29_7 : Option (Int32 × zS))) m (nI i) y)
    (fun i y => (∀ c, c < i → y 18 (5 * nd + l) c = iI (nwR p k (Sl led 5) M v c)) ∧ ∀ k i j, ¬ (k = 18 ∧ i = 5 * nd + l) → y k i j = σ k i j) 8 (fun y => (fX3_take_69 nd (nI l) (fun (y69_8 : zS) => (zIx (nI l) 5 (zB (zU y69_8 17 nd (nI l).toNatClampNeg (vp_nar .boolean (1 : Int32))) (fun s10 => some ((1 : Int32), s10))) : Option (Int32 × zS))) zN (0 : Int32) y)) (by
    rintro m i y hi ⟨f1, f2⟩
    refine ⟨zU y 18 (5 * nd + l) i (iI (nwR p k (Sl led 5) M v i)), ⟨?_, ?_⟩, ?_⟩
    · intro c hc
      by_cases hci : c = i
      · subst hci; rw [zU_s]
      · rw [zU_j hci]; exact f1 c (by omega)
    · intro k' i' j hk'
      rw [zU_ap, if_neg (fun z => hk' ⟨z.1, z.2.1⟩)]; exact f2 k' i' j hk'
    · show (if (8 : Int32) ≤ nI i then _ else _) = _
      have hb := lo_b (p := p) (M := M) (v := v) (by omega) (Sl led 5) i
      have hb2 : 0 ≤ (k : Int) * lo p (Sl led 5) M v i ∧ (k : Int) * lo p (Sl led 5) M v i ≤ 49 := by
        refine ⟨Int.mul_nonneg (by omega) hb.1, ?_⟩
        have := hk.2.1
        calc (k : Int) * lo p (Sl led 5) M v i ≤ 7 * lo p (Sl led 5) M v i := Int.mul_le_mul_of_nonneg_right (by omega) hb.1
          _ ≤ 49 := by omega
      have h9' : y 9 0 0 = nI p := by rw [f2 9 0 0 (by omega)]; exact h9
      rw [if_neg (lg8 hi), zIx_nI hl (by decide), zB_s, nI_clamp (by omega), zGd_t (by omega), e_leftover hp h9' hnd hR (h.c (fun j _ => f2 17 nd j (by omega)) (fun q hq hlq c _ => f2 18 _ c (fun z => by
          have : q = l := by omega
          rw [this, hnl] at hlq; exact absurd hlq (by decide)))) hv (fun c hc => by rw [f2 18 r c (by omega)]; exact hr c hc) hi, zCi_s, iI_n k, iI_mul, e_left hp h9' (by omega) (by omega), zCi_s, zIx_nI hi (by decide), zB_s, zB_s, nI_1, nI_clamp (by omega)]
      rfl) (by
    rintro m y _
    show (if (8 : Int32) ≤ nI 8 then _ else _) = _
    rw [if_pos (by decide)]) 8 0 σ zN (by decide) ⟨fun c hc => absurd hc (by omega), fun _ _ _ _ => rfl⟩ (by decide)
  have hwb : ∀ c, 0 ≤ nwR p k (Sl led 5) M v c ∧ nwR p k (Sl led 5) M v c < p := fun c => ⟨md_0 (by omega), md_l (by omega)⟩
  obtain ⟨w2, ⟨g1, g2, g3⟩, e2⟩ := zloop (β := zS) (L := fun m i y => fX3_take_69 nd (nI l) (fun (y69_8 : zS) => (zIx (nI l) 5 (zB (zU y69_8 17 nd (nI l).toNatClampNeg (vp_nar .boolean (1 : Int32))) (fun s10 => some ((1 : Int32), s10))) : Option (Int32 × zS))) m (nI i) y)
    (fun i y => (∀ q, q < 5 → led q = true → rV y (5 * nd + q) (if q < i then adM p M l (nwR p k (Sl led 5) M v) q else M q)) ∧ rV y (5 * nd + l) (nwR p k (Sl led 5) M v) ∧ ∀ k i j, ¬ (k = 18 ∧ 5 * nd ≤ i ∧ i < 5 * nd + 5) → y k i j = σ k i j) 5 (fun y => some ((1 : Int32), zU y 17 nd l 1)) (by
    rintro m i y hi ⟨g1, g2, g3⟩
    by_cases hli : led i = true
    · have hil : i ≠ l := fun z => by rw [z, hnl] at hli; exact absurd hli (by decide)
      have gi := g1 i hi hli
      rw [if_neg (Nat.lt_irrefl i)] at gi
      have hMb := (hR i hi hli).2.1
      obtain ⟨y', ey, ry, fy⟩ := e_addTimes (σ := y) (r1 := 5 * nd + i) (r4 := 5 * nd + l) (t := -(M i l)) hp (by rw [g3 9 0 0 (by omega)]; exact h9) (by omega) gi g2 hMb hwb (by have := hMb l; omega) (by have := hMb l; omega)
      refine ⟨y', ⟨?_, ?_, ?_⟩, ?_⟩
      · intro q hq hlq
        by_cases hqi : q = i
        · subst hqi
          rw [if_pos (by omega)]
          intro c hc
          rw [ry c hc]
          unfold adM
          dsimp only
          rw [if_neg hil, Int.neg_mul, ← Int.sub_eq_add_neg]
        · intro c hc
          rw [fy 18 (5 * nd + q) c (by omega)]
          have := g1 q hq hlq c hc
          rw [this]
          by_cases hlt : q < i
          · rw [if_pos hlt, if_pos (by omega)]
          · rw [if_neg hlt, if_neg (by omega)]
      · intro c hc; rw [fy 18 (5 * nd + l) c (by omega)]; exact g2 c hc
      · intro k' i' j hk'
        rw [fy k' i' j (by omega)]; exact g3 k' i' j hk'
      · show (if (5 : Int32) ≤ nI i then _ else _) = _
        rw [if_neg (lg5 hi), zIx_nI hi (by decide), nI_clamp (by omega), g3 17 nd i (by omega), h.1 i hi, if_pos hli, if_neg (by decide), zIx_nI hi (by decide), zB_s, zGd_t (by omega), zIx_nI hi (by decide), zB_s, zGd_t (by omega), zIx_nI (show l < 8 by omega) (by decide), zIx_nI hl (by decide), zB_s, nI_clamp (show l < 2 ^ 31 by omega), zGd_t (by omega), gi l (by omega), iI_neg, ey, zCv_s, zB_s, nI_1]
    · refine ⟨y, ⟨?_, g2, g3⟩, ?_⟩
      · intro q hq hlq c hc
        rw [g1 q hq hlq c hc]
        have : q ≠ i := fun z => hli (z ▸ hlq)
        by_cases hlt : q < i
        · rw [if_pos hlt, if_pos (by omega)]
        · rw [if_neg hlt, if_neg (by omega)]
      · show (if (5 : Int32) ≤ nI i then _ else _) = _
        rw [if_neg (lg5 hi), zIx_nI hi (by decide), nI_clamp (by omega), g3 17 nd i (by omega), h.1 i hi, if_neg hli, if_pos rfl, zB_s, nI_1]) (by
    rintro m y _
    show (if (5 : Int32) ≤ nI 5 then _ else _) = _
    rw [if_pos (by decide)]; dsimp only; rw [zIx_nI hl (by decide), nI_clamp (by omega), nar1, zB_s]) 5 0 w1 zN (by decide) ⟨fun q hq hlq c hc => by
      rw [if_neg (by omega), f2 18 _ c (fun z => by
        have : q = l := by omega
        rw [this, hnl] at hlq; exact absurd hlq (by decide))]
      exact h.2 q hq hlq c hc, fun c hc => f1 c hc, fun k' i' j hk' => f2 k' i' j (by omega)⟩ (by decide)
  refine ⟨zU w2 17 nd l 1, ?_, ⟨?_, ?_⟩, ?_⟩
  · unfold fX3_take
    rw [e_newLead hp h9 hnd hR h hv hr, hf, if_pos hl, zCi_s, if_pos (by show nI 0 ≤ nI l; exact nI_le (by omega) (by omega)), e_leftover hp h9 hnd hR h hv hr (show l < 8 by omega), zCi_s, h0, e_inverse hp h9 hw2 hk, zCi_s]
    exact e1.trans e2
  · intro q hq
    unfold adL
    by_cases hql : q = l
    · subst hql; rw [zU_s]; simp
    · rw [zU_j hql, g3 17 nd q (by omega), h.1 q hq]
      rw [show (q == l) = false by simp; exact hql]; rfl
  · intro q hq hlq c hc
    rw [zU_k (by decide)]
    by_cases hql : q = l
    · subst hql
      rw [g2 c hc]; unfold adM; rw [if_pos rfl]
    · have hlq' : led q = true := by unfold adL at hlq; simpa [hql] using hlq
      have := g1 q hq hlq' c hc
      rw [if_pos hq] at this
      exact this
  · intro k' i' j a1 a2
    rw [zU_ap, if_neg (fun z => a1 ⟨z.1, z.2.1⟩)]; exact g3 k' i' j a2
end TK
