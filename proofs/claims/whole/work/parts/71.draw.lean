/-! mix and draw -/
noncomputable def ivK (p w : Nat) : Nat := Classical.epsilon (fun k => ivP p w k)
theorem ivK_s {p w : Nat} (h : ∃ k, ivP p w k) : ivP p w (ivK p w) := Classical.epsilon_spec h
noncomputable def nxL (p : Nat) (led : Nat → Bool) (M : Nat → Nat → Int) (v : Nat → Int) : Nat → Bool := if isN p led M v = true then adL led (fl (lo p (Sl led 5) M v) 5) else led
noncomputable def nxM (p : Nat) (led : Nat → Bool) (M : Nat → Nat → Int) (v : Nat → Int) : Nat → Nat → Int := if isN p led M v = true then adM p M (fl (lo p (Sl led 5) M v) 5) (nwR p (ivK p (lo p (Sl led 5) M v (fl (lo p (Sl led 5) M v) 5)).toNat) (Sl led 5) M v) else M
section NX
variable {p n nd x j : Nat} {led : Nat → Bool} {M : Nat → Nat → Int} {v : Nat → Int} {σ : zS} {r : Nat}
theorem nx_dat (hp : pp p) (h : isN p led M v = true) : ∃ w, fl (lo p (Sl led 5) M v) 5 < 5 ∧ lo p (Sl led 5) M v (fl (lo p (Sl led 5) M v) 5) = ((w : Nat) : Int) ∧ 1 ≤ w ∧ w < p ∧ (lo p (Sl led 5) M v (fl (lo p (Sl led 5) M v) 5)).toNat = w ∧ ivP p w (ivK p w) := by
  have hl : fl (lo p (Sl led 5) M v) 5 < 5 := of_decide_eq_true h
  obtain ⟨w, k, w1, w2, w3, w4⟩ := lo_nat (led := led) (M := M) (v := v) hp (fl_n _ 5 hl)
  exact ⟨w, hl, w1, w2, w3, by rw [w1]; rfl, ivK_s ⟨k, w4⟩⟩
theorem nx_Rf (hp : pp p) (hR : Rf p n led M) (hv : Vc p n v) : Rf p n (nxL p led M v) (nxM p led M v) := by
  unfold nxL nxM
  by_cases h : isN p led M v = true
  · obtain ⟨w, hl, w1, w2, w3, w4, w5⟩ := nx_dat hp h
    rw [if_pos h, if_pos h, w4]
    exact nw_Rf hp hR hv hl (fl_0 _ 5) w1 w2 w5
  · rw [if_neg h, if_neg h]; exact hR
theorem e_take (hp : pp p) (h9 : σ 9 0 0 = nI p) (hnd : nd < 12) (hR : Rf p n led M) (h : cN σ nd led M) (hv : Vc p n v) (hr : rV σ r v) (hrr : r < 5 * nd ∨ 5 * nd + 5 ≤ r) : ∃ σ', fX3_take nd r σ = some (if isN p led M v = true then 1 else 0, σ') ∧ cN σ' nd (nxL p led M v) (nxM p led M v) ∧ ∀ k i j, ¬ (k = 17 ∧ i = nd) → ¬ (k = 18 ∧ 5 * nd ≤ i ∧ i < 5 * nd + 5) → σ' k i j = σ k i j := by
  unfold nxL nxM
  by_cases hN : isN p led M v = true
  · obtain ⟨w, hl, w1, w2, w3, w4, w5⟩ := nx_dat hp hN
    obtain ⟨σ', e, c, f⟩ := e_take1 hp h9 hnd hR h hv hr hrr hl rfl w1 w2 w3 w5
    refine ⟨σ', ?_, ?_, f⟩
    · rw [if_pos hN]; exact e
    · rw [if_pos hN, if_pos hN, w4]; exact c
  · refine ⟨σ, ?_, ?_, fun _ _ _ _ _ => rfl⟩
    · rw [if_neg hN]
      exact e_take0 hp h9 hnd hR h hv hr (fun z => hN (decide_eq_true z))
    · rw [if_neg hN, if_neg hN]; exact h
theorem e_comes (hp : pp p) (h12 : σ 21 0 12 = nI p) (hx : x < 3) (hj : j < 4) (hn : n ≤ 5) (h28 : σ 28 0 x = nI n) (hR : Rf p n led M) (h : mN σ (4 * x + j) n led M) (hv : Vc p n v) (hm : mV (σ 34 0) n v) : ∃ σ', fX9_comes (nI x) (nI j) σ = some (if isN p led M v = true then 1 else 0, σ') ∧ mN σ' (4 * x + j) n (nxL p led M v) (nxM p led M v) ∧ ∀ k i j', k ≠ 35 → ¬ (k = 29 ∧ j' = 4 * x + j) → ¬ (k = 30 ∧ 40 * (4 * x + j) ≤ j' ∧ j' < 40 * (4 * x + j) + 40) → σ' k i j' = σ k i j' := by
  unfold nxL nxM
  by_cases hN : isN p led M v = true
  · obtain ⟨w, hl, w1, w2, w3, w4, w5⟩ := nx_dat hp hN
    obtain ⟨σ', e, c, f⟩ := e_comes1 hp h12 hx hj hn h28 hR h hv hm hl rfl w1 w2 w3 w5
    refine ⟨σ', ?_, ?_, f⟩
    · rw [if_pos hN]; exact e
    · rw [if_pos hN, if_pos hN, w4]; exact c
  · obtain ⟨σ', e, f⟩ := e_comes0 hp h12 hx hj hn h28 hR h hv hm (by simpa using hN)
    refine ⟨σ', ?_, ?_, fun k i j' a _ _ => f k i j' a⟩
    · rw [if_neg hN]; exact e
    · rw [if_neg hN, if_neg hN]
      exact h.c hn (f 29 0 _ (by decide)) (fun j' _ _ => f 30 0 j' (by decide))
theorem e_carryC {nda ndb m : Nat} {leda ledb : Nat → Bool} {Ma Mb : Nat → Nat → Int} (hp : pp p) (h9 : σ 9 0 0 = nI p) (ha : nda < 12) (hb : ndb < 12) (Ra : Rf p n leda Ma) (Rb : Rf p n ledb Mb) (hca : cN σ nda leda Ma) (hcb : cN σ ndb ledb Mb) (hm : m < 1000000) : ∃ σ', fX2_carry nda ndb (nI m) σ = some (if isN p ledb Mb (mv p Ma (Sl leda 5) m) = true then 1 else 0, σ') ∧ cN σ' ndb (nxL p ledb Mb (mv p Ma (Sl leda 5) m)) (nxM p ledb Mb (mv p Ma (Sl leda 5) m)) ∧ ∀ k i j, ¬ (k = 17 ∧ i = ndb) → ¬ (k = 18 ∧ (i = 60 ∨ 5 * ndb ≤ i ∧ i < 5 * ndb + 5)) → σ' k i j = σ k i j := by
  have hpb := hp.b
  obtain ⟨t, e1, m1, f1⟩ := e_mixInto (r := 60) hp h9 ha Ra hca (by omega) hm
  obtain ⟨t2, e2, m2, f2⟩ := e_take (r := 60) (σ := t) hp (by rw [f1 9 0 0 (by omega)]; exact h9) hb Rb (hcb.c (fun q _ => f1 _ _ _ (by omega)) (fun q _ _ c _ => f1 _ _ _ (by omega))) (mv_V (by omega) Ra m) m1 (by omega)
  refine ⟨t2, ?_, m2, fun k i j a1 a2 => by rw [f2 k i j a1 (by omega)]; exact f1 k i j (by omega)⟩
  unfold fX2_carry
  rw [e1, zCv_s, e2, zCi_s, zGd_t (by split; · exact Or.inr rfl
                                      · exact Or.inl rfl)]
theorem e_carryM {a b m : Nat} {leda ledb : Nat → Bool} {Ma Mb : Nat → Nat → Int} (hp : pp p) (h12 : σ 21 0 12 = nI p) (hx : x < 3) (ha : a < 4) (hb : b < 4) (hn : n ≤ 5) (h28 : σ 28 0 x = nI n) (Ra : Rf p n leda Ma) (Rb : Rf p n ledb Mb) (hca : mN σ (4 * x + a) n leda Ma) (hcb : mN σ (4 * x + b) n ledb Mb) (hm : m < 1000000) : ∃ t σ', fX9_mixes (nI x) (nI a) (nI m) σ = some (0, t) ∧ fX9_comes (nI x) (nI b) t = some (if isN p ledb Mb (mv p Ma (Sl leda 5) m) = true then 1 else 0, σ') ∧ mN σ' (4 * x + b) n (nxL p ledb Mb (mv p Ma (Sl leda 5) m)) (nxM p ledb Mb (mv p Ma (Sl leda 5) m)) ∧ ∀ k i j', k ≠ 34 → k ≠ 35 → ¬ (k = 29 ∧ j' = 4 * x + b) → ¬ (k = 30 ∧ 40 * (4 * x + b) ≤ j' ∧ j' < 40 * (4 * x + b) + 40) → σ' k i j' = σ k i j' := by
  have hpb := hp.b
  obtain ⟨t, e1, m1, f1⟩ := e_mixes hp h12 hx ha hn h28 Ra hca hm
  obtain ⟨t2, e2, m2, f2⟩ := e_comes (σ := t) hp (by rw [f1 21 0 12 (by decide)]; exact h12) hx hb hn (by rw [f1 28 0 x (by decide)]; exact h28) Rb (hcb.c hn (f1 _ _ _ (by decide)) (fun j' _ _ => f1 _ _ _ (by decide))) (mv_V (by omega) Ra m) m1
  exact ⟨t, t2, e1, e2, m2, fun k i j' a1 a2 a3 a4 => by rw [f2 k i j' a2 a3 a4]; exact f1 k i j' a1⟩
end NX
theorem I3_mix {p op x b n : Nat} {s : Nat → Nat} {σ τ : zS} {led' : Nat → Bool} {M' : Nat → Nat → Int} (hI : I3 p op s σ) (hx : x < op) (hb : b < 4) (h28 : σ 28 0 x = nI n) (hn : n ≤ 5) (hR : Rf p n led' M') (hc : cN τ (4 * s x + b) led' M') (hm : mN τ (4 * x + b) n led' M') (hs : τ 21 0 19 = τ 9 0 1) (hf : ∀ k i j, k ≠ 34 → k ≠ 35 → ¬ (k = 9 ∧ j = 1) → ¬ (k = 21 ∧ j = 19) → ¬ (k = 17 ∧ i = 4 * s x + b) → ¬ (k = 18 ∧ (i = 60 ∨ 5 * (4 * s x + b) ≤ i ∧ i < 5 * (4 * s x + b) + 5)) → ¬ (k = 29 ∧ j = 4 * x + b) → ¬ (k = 30 ∧ 40 * (4 * x + b) ≤ j ∧ j < 40 * (4 * x + b) + 40) → τ k i j = σ k i j) : I3 p op s τ := by
  obtain ⟨a1, a2, a3, a4, a5, a6, a7, a8, a9, a10, a11⟩ := hI
  refine ⟨a1, ?_, ?_, hs, a5, ?_, ?_, ?_, ?_, a10, ?_⟩
  · rw [hf 9 0 0 (by omega) (by omega) (by omega) (by omega) (by omega) (by omega) (by omega) (by omega)]; exact a2
  · rw [hf 21 0 12 (by omega) (by omega) (by omega) (by omega) (by omega) (by omega) (by omega) (by omega)]; exact a3
  · rw [hf 10 0 4 (by omega) (by omega) (by omega) (by omega) (by omega) (by omega) (by omega) (by omega)]; exact a6
  · rw [hf 21 0 14 (by omega) (by omega) (by omega) (by omega) (by omega) (by omega) (by omega) (by omega)]; exact a7
  · rw [hf 21 0 13 (by omega) (by omega) (by omega) (by omega) (by omega) (by omega) (by omega) (by omega), hf 10 0 5 (by omega) (by omega) (by omega) (by omega) (by omega) (by omega) (by omega) (by omega)]; exact a8
  · intro y hy; rw [hf 11 0 y (by omega) (by omega) (by omega) (by omega) (by omega) (by omega) (by omega) (by omega)]; exact a9 y hy
  · intro y hy
    have sy := (a9 y (by omega)).1
    have sx := (a9 x (by omega)).1
    by_cases hyx : y = x
    · subst hyx
      obtain ⟨n', n1, n2, b1, b2, b3, hN⟩ := a11 y hy
      have hnn : n' = n := by
        have := b3.symm.trans h28
        rwa [zn_eq (by omega) (by omega)] at this
      subst hnn
      refine ⟨n', n1, n2, ?_, ?_, ?_, fun j hj => ?_⟩
      · rw [hf 13 _ 1 (by omega) (by omega) (by omega) (by omega) (by omega) (by omega) (by omega) (by omega), hf 27 0 y (by omega) (by omega) (by omega) (by omega) (by omega) (by omega) (by omega) (by omega)]; exact b1
      · rw [hf 13 _ 2 (by omega) (by omega) (by omega) (by omega) (by omega) (by omega) (by omega) (by omega)]; exact b2
      · rw [hf 28 0 y (by omega) (by omega) (by omega) (by omega) (by omega) (by omega) (by omega) (by omega)]; exact b3
      · by_cases hjb : j = b
        · subst hjb; exact ⟨led', M', hR, hc, hm⟩
        · obtain ⟨led, M, c1, c2, c3⟩ := hN j hj
          refine ⟨led, M, c1, c2.c (fun q _ => hf _ _ _ (by omega) (by omega) (by omega) (by omega) (by omega) (by omega) (by omega) (by omega)) (fun q _ _ c _ => hf _ _ _ (by omega) (by omega) (by omega) (by omega) (by omega) (by omega) (by omega) (by omega)), c3.c n2 (hf _ _ _ (by omega) (by omega) (by omega) (by omega) (by omega) (by omega) (by omega) (by omega)) (fun i i1 i2 => hf _ _ _ (by omega) (by omega) (by omega) (by omega) (by omega) (by omega) (by omega) (by omega))⟩
    · have hne : s y ≠ s x := fun z => hyx (a10 y x (by omega) (by omega) z)
      exact (a11 y hy).c (hf _ _ _ (by omega) (by omega) (by omega) (by omega) (by omega) (by omega) (by omega) (by omega)) (hf _ _ _ (by omega) (by omega) (by omega) (by omega) (by omega) (by omega) (by omega) (by omega)) (hf _ _ _ (by omega) (by omega) (by omega) (by omega) (by omega) (by omega) (by omega) (by omega)) (hf _ _ _ (by omega) (by omega) (by omega) (by omega) (by omega) (by omega) (by omega) (by omega)) (fun j q hj => hf _ _ _ (by omega) (by omega) (by omega) (by omega) (by omega) (by omega) (by omega) (by omega)) (fun i c i1 i2 => hf _ _ _ (by omega) (by omega) (by omega) (by omega) (by omega) (by omega) (by omega) (by omega)) (fun j hj => hf _ _ _ (by omega) (by omega) (by omega) (by omega) (by omega) (by omega) (by omega) (by omega)) (fun i i1 i2 => hf _ _ _ (by omega) (by omega) (by omega) (by omega) (by omega) (by omega) (by omega) (by omega))
theorem agn_1 {op : Nat} {w : zS} {a : Int32} {i j : Nat} (hop : op ≤ 3) (h : w 21 0 14 = nI op) (hX : lkX op (w 27 0) a < op) (hi : i < 4) (hj : j < 4) : fX9_againstNodes a (nI i) (nI j) w = some (if i = j then -3 else 0, w) := by
  unfold fX9_againstNodes
  rw [e_place hop h, if_pos hX, zCi_s, if_neg (nI_n9 (by omega)), isNode1 hi, zCi_s, if_neg (by decide), isNode1 hj, zCi_s, if_neg (by decide)]
  simp only [zn_eq (show i < 2 ^ 31 by omega) (show j < 2 ^ 31 by omega)]
  split <;> rfl
/-- the calls of a generation and two nodes that are refused -/
theorem two_cases {p op : Nat} {s : Nat → Nat} {σ : zS} (hI : I3 p op s σ) (a b c : Int32) : (fX9_againstNodes a b c σ = some (-1, σ) ∧ (fX2_nodeOf a b σ = some (none, σ) ∨ fX2_nodeOf a c σ = some (none, σ))) ∨ (lkX op (σ 27 0) a < op ∧ ∃ i j, i < 4 ∧ j < 4 ∧ b = nI i ∧ c = nI j) := by
  by_cases hX : lkX op (σ 27 0) a < op
  · have hX3 : lkX op (σ 27 0) a < 3 := by have := hI.2.2.2.2.1; omega
    rcases zcase2 b 4 (by decide) with q | ⟨i, hi, rfl⟩
    · refine Or.inl ⟨?_, Or.inl (node_b hI q)⟩
      unfold fX9_againstNodes
      rw [place_1 hI hX, zCi_s, if_neg (nI_n9 hX3), isNode0 q, zCi_s, if_pos rfl]
    · rcases zcase2 c 4 (by decide) with q | ⟨j, hj, rfl⟩
      · refine Or.inl ⟨?_, Or.inr (node_b hI q)⟩
        unfold fX9_againstNodes
        rw [place_1 hI hX, zCi_s, if_neg (nI_n9 hX3), isNode1 hi, zCi_s, if_neg (by decide), isNode0 q, zCi_s, if_pos rfl]
      · exact Or.inr ⟨hX, i, j, hi, hj, rfl, rfl⟩
  · refine Or.inl ⟨?_, Or.inl (node_0 hI hX)⟩
    unfold fX9_againstNodes
    rw [place_0 hI hX, zCi_s, if_pos rfl]
/-- what nodeOf answers: none, or one below 12; the state stays -/
theorem node_any {p op : Nat} {s : Nat → Nat} {σ : zS} (hI : I3 p op s σ) (a b : Int32) : fX2_nodeOf a b σ = some (none, σ) ∨ ∃ i, i < 12 ∧ fX2_nodeOf a b σ = some (some i, σ) := by
  by_cases hX : lkX op (σ 27 0) a < op
  · rcases zcase2 b 4 (by decide) with q | ⟨i, hi, rfl⟩
    · exact Or.inl (node_b hI q)
    · have := s_lt hI (x := lkX op (σ 27 0) a) (by have := hI.2.2.2.2.1; omega)
      exact Or.inr ⟨_, by omega, node_1 hI hX hi⟩
  · exact Or.inl (node_0 hI hX)
/-- two nodes asked for, one of them in vain -/
theorem two_none {p op : Nat} {s : Nat → Nat} {σ : zS} (hI : I3 p op s σ) {a b c : Int32} (h : fX2_nodeOf a b σ = some (none, σ) ∨ fX2_nodeOf a c σ = some (none, σ)) {k : Nat → Nat → zS → Option (Int32 × zS)} : zCq (fX2_nodeOf a b σ) (fun s1 => zCq (fX2_nodeOf a c s1) (fun s4 => some ((-1 : Int32), s4)) (fun i5 s4 => zGd (i5 < 12) (some ((-1 : Int32), s4)))) (fun i2 s1 => zGd (i2 < 12) (zCq (fX2_nodeOf a c s1) (fun s7 => some ((-1 : Int32), s7)) (fun i8 s7 => zGd (i8 < 12) (k i2 i8 s7)))) = some (-1, σ) := by
  rcases node_any hI a b with h1 | ⟨i, hi, h1⟩
  · rw [h1, zCq_n]
    rcases node_any hI a c with h2 | ⟨j, hj, h2⟩
    · rw [h2, zCq_n]
    · rw [h2, zCq_s, zGd_t hj]
  · rcases h with h | h
    · rw [h1] at h; simp at h
    · rw [h1, zCq_s, zGd_t hi, h, zCq_n]
theorem c_mix (a b c d : Int32) (σ : zS) (h : J3 σ) : Cs3 σ (fX8_mix a b c d) (fX9_mix a b c d) := by
  obtain ⟨p, op, s, hI⟩ := id h
  rcases two_cases hI a b c with ⟨q1, q2⟩ | ⟨hX, i, j, hi, hj, rfl, rfl⟩
  · refine Cs3.same h (r := -1) ?_ (by unfold fX9_mix; rw [q1, zCi_s, if_pos rfl])
    unfold fX8_mix
    exact two_none hI q2
  have hop : op ≤ 3 := hI.2.2.2.2.1
  have h14 : σ 21 0 14 = nI op := hI.2.2.2.2.2.2.1
  have hX3 : lkX op (σ 27 0) a < 3 := by omega
  have hs := s_lt hI hX3
  have u8 : fX8_mix a (nI i) (nI j) d σ = if d < 0 then some ((-2 : Int32), σ) else if d < (16807 : Int32) then if nI i = nI j then some ((-3 : Int32), σ) else zCi (fX2_carry (4 * s (lkX op (σ 27 0) a) + i) (4 * s (lkX op (σ 27 0) a) + j) d σ) (fun x11 s10 => if x11 = 0 then some ((0 : Int32), s10) else some ((1 : Int32), s10)) else some ((-2 : Int32), σ) := by
    unfold fX8_mix
    rw [node_1 hI hX hi, zCq_s, zGd_t (by omega), node_1 hI hX hj, zCq_s, zGd_t (by omega)]
  have u9 : ∀ w : zS, w 21 0 14 = nI op → w 27 0 = σ 27 0 → fX9_mix a (nI i) (nI j) d w = zCi (fX9_within d (0 : Int32) (16806 : Int32) w) (fun x4 s3 => if x4 = 0 then some ((-2 : Int32), s3) else if i = j then some (-3, s3) else zCi (fX9_placeOf a s3) (fun x6 s5 => zCv (fX9_mixes x6 (nI i) d s5) (fun s7 => zCi (fX9_comes x6 (nI j) s7) (fun x9 s8 => if x9 = 0 then some ((0 : Int32), s8) else some ((1 : Int32), s8))))) := by
    intro w w1 w2
    unfold fX9_mix
    rw [agn_1 hop w1 (by rw [w2]; exact hX) hi hj, zCi_s, if_neg (by split <;> decide)]
    by_cases hij : i = j
    · simp only [if_pos hij]
      congr 1
    · simp only [if_neg hij]
      congr 1
  rcases zcase2 d 16807 (by decide) with q | ⟨m, hm, rfl⟩
  · refine Cs3.same h (r := -2) ?_ (by rw [u9 σ h14 rfl, show (16806 : Int32) = nI 16807 - 1 by decide, wi0 (by decide) q, zCi_s, if_pos rfl])
    rw [u8]
    rcases q with q | q
    · rw [if_pos q]
    · rw [if_neg (zbig q (by omega)), if_neg (by rw [zlt_le]; exact fun z => z q)]
  rw [if_neg (n0 (by omega)), if_pos (by show nI m < nI 16807; rw [zn_lt (by omega) (by decide)]; exact hm)] at u8
  by_cases hij : i = j
  · refine Cs3.same h (r := -3) (by rw [u8, hij, if_pos rfl]) ?_
    rw [u9 σ h14 rfl, show (16806 : Int32) = nI 16807 - 1 by decide, wi1 (by decide) hm, zCi_s, if_neg (by decide), if_pos hij]
  rw [if_neg (by rw [zn_eq (by omega) (by omega)]; exact hij)] at u8
  obtain ⟨n, n1, n2, b1, b2, b3, hN⟩ := hI.2.2.2.2.2.2.2.2.2.2 _ hX
  obtain ⟨led1, M1, r1, c1, m1⟩ := hN i hi
  obtain ⟨led2, M2, r2, c2, m2⟩ := hN j hj
  obtain ⟨σ1, e1, k1, f1⟩ := e_carryC (m := m) hI.1 hI.2.1 (by omega) (by omega) r1 r2 c1 c2 (by omega)
  have g1 : ∀ k i j, 19 ≤ k → σ1 k i j = σ k i j := fun k i j hk => f1 k i j (by omega) (by omega)
  have h27 : σ1 27 0 = σ 27 0 := funext fun j => g1 27 0 j (by decide)
  obtain ⟨t, σ2, e2, e3, k2, f2⟩ := e_carryM (σ := σ1) (x := lkX op (σ 27 0) a) (m := m) hI.1 (by rw [g1 21 0 12 (by decide)]; exact hI.2.2.1) hX3 hi hj n2 (by rw [g1 28 0 _ (by decide)]; exact b3) r1 r2 (m1.c n2 (g1 29 0 _ (by decide)) (fun j' _ _ => g1 30 0 j' (by decide))) (m2.c n2 (g1 29 0 _ (by decide)) (fun j' _ _ => g1 30 0 j' (by decide))) (by omega)
  have g2 : ∀ k i j, k < 29 → σ2 k i j = σ1 k i j := fun k i j hk => f2 k i j (by omega) (by omega) (by omega) (by omega)
  have hpb := hI.1.b
  refine ⟨if isN p led2 M2 (mv p M1 (Sl led1 5) m) = true then 1 else 0, σ1, σ2, ?_, ?_, ⟨p, op, s, ?_⟩, ?_⟩
  · rw [u8, e1, zCi_s]; split <;> rfl
  · rw [u9 σ1 (by rw [g1 21 0 14 (by decide)]; exact h14) h27, show (16806 : Int32) = nI 16807 - 1 by decide, wi1 (by decide) hm, zCi_s, if_neg (by decide), if_neg hij, e_place hop (by rw [g1 21 0 14 (by decide)]; exact h14), h27, if_pos hX, zCi_s, e2, zCv_s, e3, zCi_s]
    split <;> rfl
  · refine I3_mix hI hX hj b3 n2 (nx_Rf hI.1 r2 (mv_V (by omega) r1 m)) (k1.c (fun q _ => g2 _ _ _ (by decide)) (fun q _ _ c _ => g2 _ _ _ (by decide))) k2 ?_ ?_
    · rw [g2 21 0 19 (by decide), g1 21 0 19 (by decide), g2 9 0 1 (by decide), f1 9 0 1 (by omega) (by omega)]; exact hI.2.2.2.1
    · intro k' i' j' z1 z2 z3 z4 z5 z6 z7 z8
      rw [f2 k' i' j' z1 z2 z7 z8, f1 k' i' j' z5 z6]
  · intro k' i' j' hk
    rw [f2 k' i' j' (by omega) (by omega) (by omega) (by omega), f1 k' i' j' (by omega) (by omega)]
