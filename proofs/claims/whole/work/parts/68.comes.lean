/-! a row comes to a node of the reference -/
theorem Sl_cnt {led : Nat → Bool} {l : Nat} (hl : l < 5) : (Sl led 5).filter (fun q => decide (q < l)) = Sl led l := by
  have h1 : ((List.range l).filter led).filter (fun q => decide (q < l)) = (List.range l).filter led := List.filter_eq_self.2 (fun a ha => by
    rw [List.mem_filter, List.mem_range] at ha; exact decide_eq_true ha.1)
  have h2 : ((l :: List.range' (l + 1) (4 - l)).filter led).filter (fun q => decide (q < l)) = [] := List.filter_eq_nil_iff.2 (fun a ha => by
    rw [List.mem_filter, List.mem_cons, List.mem_range'_1] at ha
    rw [decide_eq_true_eq]; omega)
  unfold Sl
  rw [rng_split l hl, List.filter_append, List.filter_append, h1, h2, List.append_nil]
section CM
variable {p n x j : Nat} {led : Nat → Bool} {M : Nat → Nat → Int} {v : Nat → Int} {σ : zS}
theorem adM_alt {l q c : Nat} {w : Nat → Int} (hq : q ≠ l) : (M q c + (p - M q l) * w c) % p = adM p M l w q c := by
  unfold adM
  rw [if_neg hq]
  refine cg.e ⟨w c, by grind⟩
theorem e_88 {l : Nat} {w : Nat → Int} (hp : pp p) (h12 : σ 21 0 12 = nI p) (hx : x < 3) (hj : j < 4) (hn : n ≤ 5) (hR : Rf p n led M) (h : mN σ (4 * x + j) n led M) (hl : l < n) (hnl : led l = false) (hw : mV (σ 35 0) n w) (bw : ∀ c, 0 ≤ w c ∧ w c < p) (K : Int32 → zS → Option (Int32 × zS)) : ∃ z, fX9_comes_88 (nI x) (nI j) (nI n) (nI l) K zN 0 0 σ = K (nI (Sl led l).length) z ∧ (∀ r q, (Sl led 5)[r]? = some q → ∀ i, i < n + 3 → z 30 0 (8 * (5 * (4 * x + j) + r) + i) = iI (adM p M l w q (cm n i))) ∧ ∀ k i j', ¬ (k = 30 ∧ 40 * (4 * x + j) ≤ j' ∧ j' < 40 * (4 * x + j) + 40) → z k i j' = σ k i j' := by
  obtain ⟨p1, p2⟩ := hp.b
  have hlen := Sl_len led 5
  obtain ⟨⟨pl, z⟩, ⟨k0, k1, k2⟩, e⟩ := zloop (β := Nat × zS) (L := fun t r b => fX9_comes_88 (nI x) (nI j) (nI n) (nI l) K t (nI b.1) (nI r) b.2)
    (fun r b => b.1 = (((Sl led 5).take r).filter (fun q => decide (q < l))).length ∧ (∀ r' q, (Sl led 5)[r']? = some q → ∀ i, i < n + 3 → b.2 30 0 (8 * (5 * (4 * x + j) + r') + i) = iI (if r' < r then adM p M l w q (cm n i) else M q (cm n i))) ∧ ∀ k i j', ¬ (k = 30 ∧ 40 * (4 * x + j) ≤ j' ∧ j' < 40 * (4 * x + j) + 40) → b.2 k i j' = σ k i j') (Sl led 5).length (fun b => K (nI b.1) b.2) (by
    rintro t r ⟨pl, z⟩ hr ⟨k0, k1, k2⟩
    dsimp only at k0 k1 k2
    obtain ⟨q, hq⟩ : ∃ q, (Sl led 5)[r]? = some q := ⟨_, List.getElem?_eq_getElem hr⟩
    obtain ⟨r1, r2⟩ := get_in hq
    obtain ⟨q1, q2⟩ := Sl_mem.1 r2
    obtain ⟨a1, a2, a3, a4, a5, a6⟩ := hR q q1 q2
    have hql : q ≠ l := fun z => by rw [z, hnl] at q2; exact absurd q2 (by decide)
    have hrow : ∀ i, i < n + 3 → z 30 0 (8 * (5 * (4 * x + j) + r) + i) = iI (M q (cm n i)) := fun i hi => by
      rw [k1 r q hq i hi, if_neg (Nat.lt_irrefl r)]
    have hlead : fX9_leadOf_30 (nI (8 * (5 * (4 * x + j) + r))) (nI n) z = some (nI q, z) := by
      rw [e_lead30 (f := M q) (by omega) (fun i hi => by rw [hrow i (by omega), cm_l hi]) (fun i hi => by have := a2 i; omega), fl_u (show q ≤ n by omega) a4 (fun _ => by rw [a3]; decide)]
    have hz12 : z 21 0 12 = nI p := by rw [k2 21 0 12 (by omega)]; exact h12
    have hz35 : mV (z 35 0) n w := fun i hi => by rw [k2 35 0 i (by omega)]; exact hw i hi
    have hst : fX9_comes_88 (nI x) (nI j) (nI n) (nI l) K (t + 1) (nI pl) (nI r) z = if l ≤ q then fX9_comes_149 (nI n) (nI (8 * (5 * (4 * x + j) + r))) (iI (M q l)) (fun (y : zS) => fX9_comes_88 (nI x) (nI j) (nI n) (nI l) K t (nI pl) (nI (r + 1)) y) zN 0 z else fX9_comes_149_57 (nI n) (nI (8 * (5 * (4 * x + j) + r))) (iI (M q l)) (fun (y : zS) => fX9_comes_88 (nI x) (nI j) (nI n) (nI l) K t (nI (pl + 1)) (nI (r + 1)) y) zN 0 z := by
      show zCi (fX9_rankOf (nI x) (nI j) z) _ = _
      rw [e_rk hx hj, zCi_s, k2 29 0 _ (by omega), h.1, if_neg (nI_ge r1 (by omega)), e_at, zCi_s, nI_add, zIx_nI (by omega) (by decide), nI_clamp (by omega), hrow l (by omega), cm_l hl, zB_s, hlead, zCi_s, zB_s, zB_s, show nI pl + (0 : Int32) = nI pl from Int32.add_zero _]
      simp only [zn_le (show l < 2 ^ 31 by omega) (show q < 2 ^ 31 by omega), zB_s, nI_1]
    have hcnt : (((Sl led 5).take (r + 1)).filter (fun q => decide (q < l))).length = pl + if l ≤ q then 0 else 1 := by
      rw [take_s hq, List.filter_append, List.length_append, ← k0]
      by_cases hlq : l ≤ q
      · rw [if_pos hlq, List.filter_cons, if_neg (by simp; omega)]; rfl
      · rw [if_neg hlq, List.filter_cons, if_pos (by simp; omega)]; rfl
    have hfin : ∀ z' : zS, (∀ i, i < n + 3 → z' 30 0 (8 * (5 * (4 * x + j) + r) + i) = iI ((M q (cm n i) + (p - M q l) * w (cm n i)) % p)) → (∀ k i j', ¬ (k = 30 ∧ 8 * (5 * (4 * x + j) + r) ≤ j' ∧ j' < 8 * (5 * (4 * x + j) + r) + 8) → z' k i j' = z k i j') → (∀ r' q, (Sl led 5)[r']? = some q → ∀ i, i < n + 3 → z' 30 0 (8 * (5 * (4 * x + j) + r') + i) = iI (if r' < r + 1 then adM p M l w q (cm n i) else M q (cm n i))) ∧ ∀ k i j', ¬ (k = 30 ∧ 40 * (4 * x + j) ≤ j' ∧ j' < 40 * (4 * x + j) + 40) → z' k i j' = σ k i j' := by
      intro z' m1 m2
      refine ⟨fun r' q' hr' i hi => ?_, fun k i j' hk => by rw [m2 k i j' (by omega)]; exact k2 k i j' hk⟩
      have := (get_in hr').1
      by_cases hrr : r' = r
      · subst hrr
        have : q' = q := by rw [hq] at hr'; exact (Option.some.inj hr').symm
        subst this
        rw [m1 i hi, if_pos (by omega), adM_alt hql]
      · rw [m2 30 0 _ (by omega), k1 r' q' hr' i hi]
        by_cases hlt : r' < r
        · rw [if_pos hlt, if_pos (by omega)]
        · rw [if_neg hlt, if_neg (by omega)]
    dsimp only
    rw [hst]
    by_cases hlq : l ≤ q
    · rw [if_pos hlq]
      rw [if_pos hlq] at hcnt
      obtain ⟨z', ez, m1, m2⟩ := e_rsA (σ := z) (a := 8 * (5 * (4 * x + j) + r)) (t := M q l) (u := M q) (w := w) hp hn hz12 (by omega) hrow hz35 a2 bw (a2 l).1 (a2 l).2 (fun (y : zS) => fX9_comes_88 (nI x) (nI j) (nI n) (nI l) K t (nI pl) (nI (r + 1)) y)
      obtain ⟨n1, n2⟩ := hfin z' m1 m2
      exact ⟨(pl, z'), ⟨hcnt.symm, n1, n2⟩, ez⟩
    · rw [if_neg hlq]
      rw [if_neg hlq] at hcnt
      obtain ⟨z', ez, m1, m2⟩ := e_rsB (σ := z) (a := 8 * (5 * (4 * x + j) + r)) (t := M q l) (u := M q) (w := w) hp hn hz12 (by omega) hrow hz35 a2 bw (a2 l).1 (a2 l).2 (fun (y : zS) => fX9_comes_88 (nI x) (nI j) (nI n) (nI l) K t (nI (pl + 1)) (nI (r + 1)) y)
      obtain ⟨n1, n2⟩ := hfin z' m1 m2
      exact ⟨(pl + 1, z'), ⟨hcnt.symm, n1, n2⟩, ez⟩) (by
    rintro t ⟨pl, z⟩ ⟨k0, k1, k2⟩
    dsimp only at k2 ⊢
    show zCi (fX9_rankOf (nI x) (nI j) z) _ = _
    rw [e_rk hx hj, zCi_s, k2 29 0 _ (by omega), h.1, if_pos (nI_le (Nat.le_refl _) (by omega))]) (Sl led 5).length 0 (0, σ) zN (by omega) ⟨rfl, fun r q hr i hi => by
      rw [if_neg (by omega)]; exact h.2 r q hr i hi, fun _ _ _ _ => rfl⟩ (Nat.lt_of_le_of_lt hlen (by decide))
  dsimp only at k0 k1 k2 e
  rw [List.take_length, Sl_cnt (by omega)] at k0
  subst k0
  exact ⟨z, e, fun r q hr i hi => by rw [k1 r q hr i hi, if_pos (get_in hr).1], k2⟩
theorem e_comes0 (hp : pp p) (h12 : σ 21 0 12 = nI p) (hx : x < 3) (hj : j < 4) (hn : n ≤ 5) (h28 : σ 28 0 x = nI n) (hR : Rf p n led M) (h : mN σ (4 * x + j) n led M) (hv : Vc p n v) (hm : mV (σ 34 0) n v) (h0 : isN p led M v = false) : ∃ σ', fX9_comes (nI x) (nI j) σ = some (0, σ') ∧ ∀ k i j, k ≠ 35 → σ' k i j = σ k i j := by
  obtain ⟨z, e, _, f⟩ := e_isNewTo hp h12 hx hj hn h28 hR h hv hm
  refine ⟨z, ?_, f⟩
  unfold fX9_comes
  rw [e, h0, zCi_s, if_pos (by decide)]
theorem e_comes1 (hp : pp p) (h12 : σ 21 0 12 = nI p) (hx : x < 3) (hj : j < 4) (hn : n ≤ 5) (h28 : σ 28 0 x = nI n) (hR : Rf p n led M) (h : mN σ (4 * x + j) n led M) (hv : Vc p n v) (hm : mV (σ 34 0) n v) {l w k : Nat} (hl : l < 5) (hf : fl (lo p (Sl led 5) M v) 5 = l) (h0 : lo p (Sl led 5) M v l = (w : Int)) (hw : 1 ≤ w) (hw2 : w < p) (hk : ivP p w k) : ∃ σ', fX9_comes (nI x) (nI j) σ = some (1, σ') ∧ mN σ' (4 * x + j) n (adL led l) (adM p M l (nwR p k (Sl led 5) M v)) ∧ ∀ k i j', k ≠ 35 → ¬ (k = 29 ∧ j' = 4 * x + j) → ¬ (k = 30 ∧ 40 * (4 * x + j) ≤ j' ∧ j' < 40 * (4 * x + j) + 40) → σ' k i j' = σ k i j' := by
  obtain ⟨p1, p2⟩ := hp.b
  have hz : lo p (Sl led 5) M v l ≠ 0 := by rw [h0]; omega
  have hnl := lead_not hR hl hz
  have hln := lead_n hR hv hl hz
  obtain ⟨B, s1, s2⟩ := Sl_split hl hnl
  have hl1 : (Sl led 5).length = (Sl led l).length + B.length := by rw [s1, List.length_append]
  have hl2 : (Sl (adL led l) 5).length = (Sl led l).length + B.length + 1 := by rw [s2, List.length_append, List.length_cons]; omega
  have hl3 := Sl_len (adL led l) 5
  have hflb : fl (lo p (Sl led 5) M v) 5 < 5 := by rw [hf]; exact hl
  have hfn : fl (lo p (Sl led 5) M v) n = l := fl_u (by omega) (fun c hc => fl_0 _ 5 c (by omega)) (fun _ => hz)
  obtain ⟨s, e1, m35, f1⟩ := e_isNewTo hp h12 hx hj hn h28 hR h hv hm
  have hiN : isN p led M v = true := decide_eq_true hflb
  rw [hiN, if_pos rfl] at e1
  have hbl := fun c => lo_b (p := p) (M := M) (v := v) (by omega) (Sl led 5) c
  have hs12 : s 21 0 12 = nI p := by rw [f1 21 0 12 (by decide)]; exact h12
  have hbw : ∀ c, 0 ≤ nwR p k (Sl led 5) M v c ∧ nwR p k (Sl led 5) M v c < p := fun c => ⟨md_0 (by omega), md_l (by omega)⟩
  generalize hK4 : (fun (y282_15 : zS) => (zIx (((4 : Int32) * nI x) + nI j) 12 (zIx (((4 : Int32) * nI x) + nI j) 12 (zB (zU y282_15 29 0 (((4 : Int32) * nI x) + nI j).toNatClampNeg ((y282_15 29 0 (((4 : Int32) * nI x) + nI j).toNatClampNeg) + (1 : Int32))) (fun s18 => some ((1 : Int32), s18)))) : Option (Int32 × zS))) = K4
  generalize hK3 : (fun (u6 : Int32) (y88_11 : zS) => (zCi (fX9_rankOf (nI x) (nI j) y88_11) (fun x13 s12 => fX9_comes_218 (nI x) (nI j) u6 (fun (y218_14 : zS) => (fX9_comes_282 (nI x) (nI j) u6 K4 zN (0 : Int32) y218_14 : Option (Int32 × zS))) zN x13 s12) : Option (Int32 × zS))) = K3
  obtain ⟨z1, e2, m1, f2⟩ := e_scale (σ := s) (k := k) (u := lo p (Sl led 5) M v) hp hn hs12 hk.2.1 m35 hbl (fun (y46_10 : zS) => (fX9_comes_88 (nI x) (nI j) (nI n) (nI l) K3 zN (0 : Int32) (0 : Int32) y46_10 : Option (Int32 × zS)))
  have hmz : mN z1 (4 * x + j) n led M := h.c hn (by rw [f2 29 0 _ (by decide), f1 29 0 _ (by decide)]) (fun j' _ _ => by rw [f2 30 0 _ (by decide), f1 30 0 _ (by decide)])
  obtain ⟨z2, e3, m2, f3⟩ := e_88 (σ := z1) (l := l) (w := nwR p k (Sl led 5) M v) hp (by rw [f2 21 0 12 (by decide)]; exact hs12) hx hj hn hR hmz hln hnl m1 hbw K3
  obtain ⟨z3, e4, m3, f4⟩ := e_218 (σ := z2) (pl := (Sl led l).length) (len := (Sl led 5).length) hx hj (by omega) (by omega) (fun (y218_14 : zS) => (fX9_comes_282 (nI x) (nI j) (nI (Sl led l).length) K4 zN (0 : Int32) y218_14 : Option (Int32 × zS)))
  obtain ⟨z4, e5, m4, f5⟩ := e_282 (σ := z3) (pl := (Sl led l).length) hx hj (by omega) K4
  have z4s : ∀ k i j', k ≠ 35 → ¬ (k = 30 ∧ 40 * (4 * x + j) ≤ j' ∧ j' < 40 * (4 * x + j) + 40) → z4 k i j' = σ k i j' := by
    intro k' i' j' a1 a2
    rw [f5 k' i' j' (by omega), f4 k' i' j' (by omega), f3 k' i' j' a2, f2 k' i' j' a1, f1 k' i' j' a1]
  refine ⟨zU z4 29 0 (4 * x + j) (nI ((Sl led 5).length + 1)), ?_, ⟨?_, ?_⟩, ?_⟩
  · unfold fX9_comes
    rw [e1, zCi_s, if_neg (by decide), zIx_nI hx (by decide), nI_clamp (by omega), f1 28 0 x (by decide), h28, zB_s, e_lead35 (f := lo p (Sl led 5) M v) (by omega) (fun i hi => by rw [m35 i (by omega), cm_l hi]) (fun i hi => by have := hbl i; omega), zCi_s, hfn, zIx_nI (show l < 8 by omega) (by decide), nI_clamp (by omega), m35 l (by omega), cm_l hln, h0, e_inverseM hp hs12 hw2 hk, zCi_s, hK4, hK3]
    refine e2.trans (e3.trans ?_)
    rw [← hK3]
    dsimp only
    rw [e_rk hx hj, zCi_s, f3 29 0 _ (by omega), hmz.1]
    refine e4.trans (e5.trans ?_)
    rw [← hK4]
    dsimp only
    rw [e_41, zIx_nI (by omega) (by decide), zIx_nI (by omega) (by decide), nI_clamp (by omega), zB_s, z4s 29 0 _ (by decide) (by omega), h.1, nI_1]
  · rw [zU_s, hl2, hl1]
  · intro r q hr i hi
    rw [zU_k (by decide)]
    have hrl := (get_in hr).1
    rw [s2] at hr
    rcases Nat.lt_trichotomy r (Sl led l).length with hlt | heq | hgt
    · rw [List.getElem?_append_left hlt] at hr
      have : (Sl led 5)[r]? = some q := by rw [s1, List.getElem?_append_left hlt]; exact hr
      rw [f5 30 0 _ (by omega), f4 30 0 _ (by omega)]
      exact m2 r q this i hi
    · subst heq
      rw [List.getElem?_append_right (Nat.le_refl _), Nat.sub_self] at hr
      have : q = l := by simpa using hr.symm
      subst this
      rw [m4 i (by omega), f4 35 0 i (by omega), f3 35 0 i (by omega), m1 i hi]
      unfold adM nwR
      rw [if_pos rfl]
    · rw [List.getElem?_append_right (by omega), show r - (Sl led l).length = (r - 1 - (Sl led l).length) + 1 by omega, List.getElem?_cons_succ] at hr
      have : (Sl led 5)[r - 1]? = some q := by rw [s1, List.getElem?_append_right (by omega)]; exact hr
      rw [f5 30 0 _ (by omega), m3 r hgt (by omega) i (by omega)]
      exact m2 (r - 1) q this i hi
  · intro k' i' j' a1 a2 a3
    rw [zU_ap, if_neg (fun z => a2 ⟨z.1, z.2.2⟩)]; exact z4s k' i' j' a1 a3
end CM
