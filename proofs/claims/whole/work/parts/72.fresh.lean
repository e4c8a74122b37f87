/-! draw -/
theorem u_nI (y : UInt32) : y.toInt32 = nI y.toNat := by
  apply Int32.toBitVec_inj.mp
  show y.toBitVec = BitVec.ofNat 32 y.toNat
  apply BitVec.eq_of_toNat_eq
  rw [BitVec.toNat_ofNat, Nat.mod_eq_of_lt (show y.toNat < 2 ^ 32 from y.toBitVec.isLt)]
  rfl
theorem drawn (v : Int32) : ∃ m, m < 16807 ∧ ((v.toUInt32 >>> ((16 : Int32).toUInt32 &&& Int32.toUInt32 31)).toInt32) - ((v.toUInt32 >>> ((16 : Int32).toUInt32 &&& Int32.toUInt32 31)).toInt32) / (16807 : Int32) * (16807 : Int32) = nI m := by
  rw [u_nI]
  have hb : (v.toUInt32 >>> ((16 : Int32).toUInt32 &&& Int32.toUInt32 31)).toNat < 65536 := by
    rw [show (16 : Int32).toUInt32 &&& Int32.toUInt32 31 = 16 by decide, UInt32.toNat_shiftRight]
    have := v.toUInt32.toBitVec.isLt
    rw [Nat.shiftRight_eq_div_pow]
    have e : (16 : UInt32).toNat % 32 = 16 := by decide
    rw [e]
    have h2 : v.toUInt32.toNat < 4294967296 := this
    omega
  generalize (v.toUInt32 >>> ((16 : Int32).toUInt32 &&& Int32.toUInt32 31)).toNat = k at hb
  refine ⟨k % 16807, Nat.mod_lt _ (by decide), ?_⟩
  show nI k - nI k / nI 16807 * nI 16807 = _
  rw [iI_n k, iI_mod (by omega) (by omega) (by decide), iI_n, Int.natCast_emod]
theorem c_draw (a b c : Int32) (σ : zS) (h : J3 σ) : Cs3 σ (fX8_draw a b c) (fX9_draw a b c) := by
  obtain ⟨p, op, s, hI⟩ := id h
  rcases two_cases hI a b c with ⟨q1, q2⟩ | ⟨hX, i, j, hi, hj, rfl, rfl⟩
  · refine Cs3.same h (r := -1) ?_ (by unfold fX9_draw; rw [q1, zCi_s, if_neg (by decide)])
    unfold fX8_draw
    exact two_none hI q2
  have hop : op ≤ 3 := hI.2.2.2.2.1
  have h14 : σ 21 0 14 = nI op := hI.2.2.2.2.2.2.1
  have hX3 : lkX op (σ 27 0) a < 3 := by omega
  have hs := s_lt hI hX3
  have hpb := hI.1.b
  have u8 : fX8_draw a (nI i) (nI j) σ = if nI i = nI j then some ((-3 : Int32), σ) else zCi (fX0_nextDrawn σ) (fun x11 s10 => zCi (fX2_carry (4 * s (lkX op (σ 27 0) a) + i) (4 * s (lkX op (σ 27 0) a) + j) x11 s10) (fun x13 s12 => some (x11, s12))) := by
    unfold fX8_draw
    rw [node_1 hI hX hi, zCq_s, zGd_t (by omega), node_1 hI hX hj, zCq_s, zGd_t (by omega)]
  by_cases hij : i = j
  · refine Cs3.same h (r := -3) (by rw [u8, hij, if_pos rfl]) ?_
    unfold fX9_draw
    rw [agn_1 hop h14 hX hi hj, zCi_s, if_pos hij, if_neg (by decide)]
  rw [if_neg (by rw [zn_eq (by omega) (by omega)]; exact hij)] at u8
  obtain ⟨m, hm, em⟩ := drawn (69069 * σ 9 0 1 + 12345)
  obtain ⟨n, n1, n2, b1, b2, b3, hN⟩ := hI.2.2.2.2.2.2.2.2.2.2 _ hX
  obtain ⟨led1, M1, r1, c1, m1⟩ := hN i hi
  obtain ⟨led2, M2, r2, c2, m2⟩ := hN j hj
  have g0 : ∀ k i j, k ≠ 9 → zU σ 9 0 1 (69069 * σ 9 0 1 + 12345) k i j = σ k i j := fun k i j hk => zU_k hk
  obtain ⟨σ1, e1, k1, f1⟩ := e_carryC (σ := zU σ 9 0 1 (69069 * σ 9 0 1 + 12345)) (m := m) hI.1 (by rw [zU_j (by decide)]; exact hI.2.1) (by omega) (by omega) r1 r2 (c1.c (fun q _ => g0 _ _ _ (by decide)) (fun q _ _ c _ => g0 _ _ _ (by decide))) (c2.c (fun q _ => g0 _ _ _ (by decide)) (fun q _ _ c _ => g0 _ _ _ (by decide))) (by omega)
  have g1 : ∀ k i j, 19 ≤ k → σ1 k i j = σ k i j := fun k i j hk => by rw [f1 k i j (by omega) (by omega), g0 k i j (by omega)]
  have h19 : σ1 21 0 19 = σ 9 0 1 := by rw [g1 21 0 19 (by decide)]; exact hI.2.2.2.1
  have h27 : σ1 27 0 = σ 27 0 := funext fun j => g1 27 0 j (by decide)
  have g3 : ∀ k i j, 19 ≤ k → k ≠ 21 → zU σ1 21 0 19 (69069 * σ 9 0 1 + 12345) k i j = σ k i j := fun k i j hk hk2 => by rw [zU_k hk2, g1 k i j hk]
  have g21 : ∀ j, j ≠ 19 → zU σ1 21 0 19 (69069 * σ 9 0 1 + 12345) 21 0 j = σ 21 0 j := fun j hj => by rw [zU_j hj, g1 21 0 j (by decide)]
  obtain ⟨t, σ2, e2, e3, k2, f2⟩ := e_carryM (σ := zU σ1 21 0 19 (69069 * σ 9 0 1 + 12345)) (x := lkX op (σ 27 0) a) (m := m) hI.1 (by rw [g21 12 (by decide)]; exact hI.2.2.1) hX3 hi hj n2 (by rw [g3 28 0 _ (by decide) (by decide)]; exact b3) r1 r2 (m1.c n2 (g3 29 0 _ (by decide) (by decide)) (fun j' _ _ => g3 30 0 j' (by decide) (by decide))) (m2.c n2 (g3 29 0 _ (by decide) (by decide)) (fun j' _ _ => g3 30 0 j' (by decide) (by decide))) (by omega)
  have g2 : ∀ k i j, k < 29 → k ≠ 21 → σ2 k i j = σ1 k i j := fun k i j hk hk2 => by rw [f2 k i j (by omega) (by omega) (by omega) (by omega), zU_k hk2]
  refine ⟨nI m, σ1, σ2, ?_, ?_, ⟨p, op, s, ?_⟩, ?_⟩
  · rw [u8]
    unfold fX0_nextDrawn
    rw [zB_s, zGd_t (by decide), zU_s, em, zCi_s, e1, zCi_s]
  · unfold fX9_draw
    rw [agn_1 hop (by rw [g1 21 0 14 (by decide)]; exact h14) (by rw [h27]; exact hX) hi hj, zCi_s, if_neg hij, if_pos rfl, zB_s, zGd_t (by decide), zU_s, h19, em, zB_s, e_place hop (by rw [g21 14 (by decide)]; exact h14), show (zU σ1 21 0 19 (69069 * σ 9 0 1 + 12345)) 27 0 = σ 27 0 from funext fun j => g3 27 0 j (by decide) (by decide), if_pos hX, zCi_s, e2, zCv_s, e3, zCi_s]
  · refine I3_mix hI hX hj b3 n2 (nx_Rf hI.1 r2 (mv_V (by omega) r1 m)) (k1.c (fun q _ => g2 _ _ _ (by decide) (by decide)) (fun q _ _ c _ => g2 _ _ _ (by decide) (by decide))) k2 ?_ ?_
    · rw [f2 21 0 19 (by omega) (by omega) (by omega) (by omega), zU_s, g2 9 0 1 (by decide) (by decide), f1 9 0 1 (by omega) (by omega), zU_s]
    · intro k' i' j' z1 z2 z3 z4 z5 z6 z7 z8
      rw [f2 k' i' j' z1 z2 z7 z8, zU_ap, if_neg (by omega), f1 k' i' j' z5 z6, zU_ap, if_neg (by omega)]
  · intro k' i' j' hk
    rw [f2 k' i' j' (by omega) (by omega) (by omega) (by omega), zU_ap, if_neg (by omega), f1 k' i' j' (by omega) (by omega), zU_k (by omega)]
/-! which mixes are new -/
section NW
variable {p n : Nat} {led led2 : Nat → Bool} {M M2 : Nat → Nat → Int}
/-- a row less what a node has of it, before it is made small -/
def lu (S : List Nat) (M : Nat → Nat → Int) (v : Nat → Int) (c : Nat) : Int := v c - sm S (fun q => v q * M q c)
theorem lu_lo (S : List Nat) (v : Nat → Int) (c : Nat) : lo p S M v c = lu S M v c % p := rfl
theorem sm_lin (S : List Nat) (d : Int) (u v w : Nat → Int) : sm S (fun q => (d * u q + v q) * w q) = d * sm S (fun q => u q * w q) + sm S (fun q => v q * w q) := by
  induction S with
  | nil => show (0 : Int) = d * 0 + 0; omega
  | cons a as ih =>
    show (d * u a + v a) * w a + sm as _ = d * (u a * w a + sm as _) + (v a * w a + sm as _)
    rw [ih]; grind
theorem lu_lin (S : List Nat) (d : Int) (u v : Nat → Int) (c : Nat) : lu S M (fun c => d * u c + v c) c = d * lu S M u c + lu S M v c := by
  unfold lu
  rw [sm_lin S d u v (fun q => M q c)]
  grind
theorem lu_cg {S : List Nat} {u v : Nat → Int} (h : ∀ c, cg p (u c) (v c)) (c : Nat) : cg p (lu S M u c) (lu S M v c) := (h c).sub (sm_cg (fun q _ => (h q).mul (cg.r _)))
theorem isN_f {v : Nat → Int} : isN p led2 M2 v = false ↔ ∀ c, c < 5 → cg p (lu (Sl led2 5) M2 v c) 0 := by
  unfold isN
  rw [decide_eq_false_iff_not]
  constructor
  · intro h c hc
    have := fl_le (lo p (Sl led2 5) M2 v) 5
    have h0 := fl_0 (lo p (Sl led2 5) M2 v) 5 c (by omega)
    exact cg.of (by rw [← lu_lo, h0]; rfl)
  · intro h z
    refine fl_n _ 5 z ?_
    rw [lu_lo, (h _ z).e]; rfl
theorem ms_nn : ∀ {S : List Nat} (m : Nat), (∀ r q, S[r]? = some q → m / p ^ r % p = 0 ∨ isN p led2 M2 (M q) = false) → ∀ c, c < 5 → cg p (lu (Sl led2 5) M2 (ms p M S m) c) 0
  | [], m, _, c, hc => by
    show cg p (lu (Sl led2 5) M2 (fun _ => 0) c) 0
    unfold lu
    rw [sm_0 (fun q _ => by rw [Int.zero_mul])]
    exact cg.r _
  | a :: as, m, h, c, hc => by
    show cg p (lu (Sl led2 5) M2 (fun c => ((m % p : Nat) : Int) * M a c + ms p M as (m / p) c) c) 0
    rw [lu_lin]
    have ih := ms_nn (S := as) (m / p) (fun r q hr => by
      rw [Nat.div_div_eq_div_mul, ← Nat.pow_succ']
      exact h (r + 1) q hr) c hc
    rcases h 0 a rfl with h0 | h0
    · rw [Nat.pow_zero, Nat.div_one] at h0
      rw [h0]
      have := (cg.r (p := p) (((0 : Nat) : Int) * lu (Sl led2 5) M2 (M a) c)).add ih
      refine this.t ?_
      exact ⟨0, by simp⟩
    · have := ((cg.r (p := p) ((m % p : Nat) : Int)).mul (isN_f.1 h0 c hc)).add ih
      refine this.t ⟨0, by simp⟩
theorem ms_z (S : List Nat) (c : Nat) : ms p M S 0 c = 0 := by
  induction S with
  | nil => rfl
  | cons a as ih =>
    show ((0 % p : Nat) : Int) * M a c + ms p M as (0 / p) c = 0
    rw [Nat.zero_mod, Nat.zero_div, ih]; simp
theorem ms_pow (hp : 2 ≤ p) : ∀ {S : List Nat} {r q : Nat} (c : Nat), S[r]? = some q → ms p M S (p ^ r) c = M q c
  | [], r, q, c, h => by simp at h
  | a :: as, 0, q, c, h => by
    have : a = q := by simpa using h
    subst this
    show ((p ^ 0 % p : Nat) : Int) * M a c + ms p M as (p ^ 0 / p) c = M a c
    rw [Nat.pow_zero, Nat.mod_eq_of_lt (by omega), Nat.div_eq_of_lt (by omega), ms_z]; simp
  | a :: as, r + 1, q, c, h => by
    show ((p ^ (r + 1) % p : Nat) : Int) * M a c + ms p M as (p ^ (r + 1) / p) c = M q c
    rw [Nat.pow_succ, Nat.mul_mod_left, Nat.mul_div_cancel _ (by omega), ms_pow hp c (by simpa using h)]; simp
theorem mv_pow (hp : 2 ≤ p) (hR : Rf p n led M) {r q : Nat} (h : (Sl led 5)[r]? = some q) : mv p M (Sl led 5) (p ^ r) = M q := by
  funext c
  obtain ⟨q1, q2⟩ := Sl_mem.1 (get_in h).2
  have := (hR q q1 q2).2.1 c
  unfold mv
  rw [ms_pow hp c h]
  exact Int.emod_eq_of_lt this.1 this.2
theorem mv_nn {m : Nat} (h : ∀ r q, (Sl led 5)[r]? = some q → m / p ^ r % p = 0 ∨ isN p led2 M2 (M q) = false) : isN p led2 M2 (mv p M (Sl led 5) m) = false := by
  refine isN_f.2 (fun c hc => ?_)
  exact (lu_cg (fun c => cg.m _) c).t (ms_nn m h c hc)
theorem fx_lt {g : Nat → Bool} : ∀ {S : List Nat} {r q : Nat}, S[r]? = some q → r < fx g S → g q = false
  | [], r, q, h, _ => by simp at h
  | a :: as, r, q, h, hr => by
    unfold fx at hr
    by_cases ha : g a = true
    · rw [if_pos ha] at hr; omega
    · rw [if_neg ha] at hr
      cases r with
      | zero =>
        have : a = q := by simpa using h
        subst this
        simpa using ha
      | succ r => exact fx_lt (by simpa using h) (by omega)
theorem fx_at {g : Nat → Bool} : ∀ {S : List Nat}, fx g S < S.length → ∃ q, S[fx g S]? = some q ∧ g q = true
  | [], h => by simp [fx] at h
  | a :: as, h => by
    unfold fx at h ⊢
    by_cases ha : g a = true
    · rw [if_pos ha]; exact ⟨a, rfl, ha⟩
    · rw [if_neg ha] at h ⊢
      obtain ⟨q, h1, h2⟩ := fx_at (g := g) (S := as) (by rw [List.length_cons] at h; omega)
      exact ⟨q, by simpa using h1, h2⟩
theorem lsN_lo (hp : pp p) {m : Nat} (hm : m < p ^ lsN p led M led2 M2) : isN p led2 M2 (mv p M (Sl led 5) m) = false := by
  have hpb := hp.b
  refine mv_nn (fun r q hr => ?_)
  rcases Nat.lt_or_ge r (lsN p led M led2 M2) with h | h
  · exact Or.inr (fx_lt (g := fun q => isN p led2 M2 (M q)) hr h)
  · left
    rw [Nat.div_eq_of_lt (Nat.lt_of_lt_of_le hm (Nat.pow_le_pow_right (by omega) h))]
    exact Nat.zero_mod _
theorem lsN_hi (hp : pp p) (hR : Rf p n led M) (h : lsN p led M led2 M2 < (Sl led 5).length) : isN p led2 M2 (mv p M (Sl led 5) (p ^ lsN p led M led2 M2)) = true := by
  have hpb := hp.b
  obtain ⟨q, h1, h2⟩ := fx_at (g := fun q => isN p led2 M2 (M q)) h
  unfold lsN
  rw [mv_pow hpb.1 hR h1]
  exact h2
theorem fx_le (g : Nat → Bool) : ∀ S : List Nat, fx g S ≤ S.length
  | [] => Nat.le_refl _
  | a :: as => by
    unfold fx
    have := fx_le g as
    split
    · omega
    · rw [List.length_cons]; omega
end NW
theorem e_freshOf {p n x a b : Nat} {led led2 : Nat → Bool} {M M2 : Nat → Nat → Int} {σ : zS} (hp : pp p) (h12 : σ 21 0 12 = nI p) (hx : x < 3) (ha : a < 4) (hb : b < 4) (hn : n ≤ 5) (h28 : σ 28 0 x = nI n) (hR : Rf p n led M) (hR2 : Rf p n led2 M2) (h : mN σ (4 * x + a) n led M) (h2 : mN σ (4 * x + b) n led2 M2) : ∃ σ', fX9_freshOf (nI x) (nI a) (nI b) σ = some (if lsN p led M led2 M2 < (Sl led 5).length then nI (p ^ lsN p led M led2 M2) else -9, σ') ∧ ∀ k i j, k ≠ 34 → k ≠ 35 → σ' k i j = σ k i j := by
  have hpb := hp.b
  have hlen := Sl_len led 5
  have hpl := p_lt hp hlen
  have := zloopE (β := zS) (L := fun t m w => fX9_freshOf_3 (nI x) (nI a) (nI b) (fun y => some ((-9 : Int32), y)) t (nI m) w) (fun m w => m ≤ p ^ lsN p led M led2 M2 ∧ ∀ k i j, k ≠ 34 → k ≠ 35 → w k i j = σ k i j) (p ^ (Sl led 5).length) (fun w => some (-9, w)) (fun o => lsN p led M led2 M2 < (Sl led 5).length ∧ ∃ w : zS, o = some (nI (p ^ lsN p led M led2 M2), w) ∧ ∀ k i j, k ≠ 34 → k ≠ 35 → w k i j = σ k i j) (by
    rintro t m w hm ⟨hle, hf⟩
    have k1 : mN w (4 * x + a) n led M := h.c hn (hf _ _ _ (by decide) (by decide)) (fun j _ _ => hf _ _ _ (by decide) (by decide))
    have k12 : w 21 0 12 = nI p := by rw [hf _ _ _ (by decide) (by decide)]; exact h12
    have k28 : w 28 0 x = nI n := by rw [hf _ _ _ (by decide) (by decide)]; exact h28
    obtain ⟨w1, e1, m1, f1⟩ := e_mixes (m := m) hp k12 hx ha hn k28 hR k1 (by omega)
    obtain ⟨w2, e2, m2, f2⟩ := e_isNewTo (σ := w1) hp (by rw [f1 _ _ _ (by decide)]; exact k12) hx hb hn (by rw [f1 _ _ _ (by decide)]; exact k28) hR2 (h2.c hn (by rw [f1 _ _ _ (by decide), hf _ _ _ (by decide) (by decide)]) (fun j _ _ => by rw [f1 _ _ _ (by decide), hf _ _ _ (by decide) (by decide)])) (mv_V (by omega) hR m) m1
    have hf2 : ∀ k i j, k ≠ 34 → k ≠ 35 → w2 k i j = σ k i j := fun k i j q1 q2 => by rw [f2 k i j q2, f1 k i j q1, hf k i j q1 q2]
    have hst : fX9_freshOf_3 (nI x) (nI a) (nI b) (fun y => some ((-9 : Int32), y)) (t + 1) (nI m) w = if isN p led2 M2 (mv p M (Sl led 5) m) = true then some (nI m, w2) else fX9_freshOf_3 (nI x) (nI a) (nI b) (fun y => some ((-9 : Int32), y)) t (nI (m + 1)) w2 := by
      show zCi (fX9_mixesOf (nI x) (nI a) w) _ = _
      rw [e_mixesOf hp k12 hx ha k1, zCi_s, if_neg (nI_ge hm (by omega)), e1, zCv_s, e2, zCi_s, zB_s, nI_1]
      by_cases hN : isN p led2 M2 (mv p M (Sl led 5) m) = true
      · rw [if_pos hN, if_pos hN, if_neg (by decide)]
      · rw [if_neg hN, if_neg hN, if_pos rfl]
    rcases Nat.lt_or_ge m (p ^ lsN p led M led2 M2) with q | q
    · refine Or.inl ⟨w2, ⟨by omega, hf2⟩, ?_⟩
      rw [hst, if_neg (by rw [lsN_lo hp q]; decide)]
    · have hme : m = p ^ lsN p led M led2 M2 := by omega
      have hlt : lsN p led M led2 M2 < (Sl led 5).length := by
        rcases Nat.lt_or_ge (lsN p led M led2 M2) (Sl led 5).length with z | z
        · exact z
        · have := Nat.pow_le_pow_right (show 0 < p by omega) z; omega
      refine Or.inr ⟨hlt, w2, ?_, hf2⟩
      rw [hst, hme, if_pos (lsN_hi hp hR hlt)]) (by
    rintro t w ⟨_, hf⟩
    show zCi (fX9_mixesOf (nI x) (nI a) w) _ = _
    rw [e_mixesOf hp (by rw [hf _ _ _ (by decide) (by decide)]; exact h12) hx ha (h.c hn (hf _ _ _ (by decide) (by decide)) (fun j _ _ => hf _ _ _ (by decide) (by decide))), zCi_s, if_pos (nI_le (Nat.le_refl _) (by omega))]) (p ^ (Sl led 5).length) 0 σ zN (by omega) ⟨by omega, fun _ _ _ _ _ => rfl⟩ (Nat.lt_of_le_of_lt hpl (by decide))
  rcases this with ⟨w, ⟨h1, hf⟩, e⟩ | ⟨hlt, w, e, hf⟩
  · refine ⟨w, ?_, hf⟩
    rw [if_neg (fun z => by
      have := Nat.pow_lt_pow_right (show 1 < p by omega) z
      omega)]
    exact e
  · exact ⟨w, by rw [if_pos hlt]; exact e, hf⟩
theorem c_fresh (a b c : Int32) (σ : zS) (h : J3 σ) : Cs3 σ (fX8_fresh a b c) (fX9_fresh a b c) := by
  obtain ⟨p, op, s, hI⟩ := id h
  rcases two_cases hI a b c with ⟨q1, q2⟩ | ⟨hX, i, j, hi, hj, rfl, rfl⟩
  · refine Cs3.same h (r := -1) ?_ (by unfold fX9_fresh; rw [q1, zCi_s, if_neg (by decide)])
    unfold fX8_fresh
    exact two_none hI q2
  have hop : op ≤ 3 := hI.2.2.2.2.1
  have h14 : σ 21 0 14 = nI op := hI.2.2.2.2.2.2.1
  have hX3 : lkX op (σ 27 0) a < 3 := by omega
  have hs := s_lt hI hX3
  have u8 : fX8_fresh a (nI i) (nI j) σ = if nI i = nI j then some ((-3 : Int32), σ) else zCi (fX2_leastNew (4 * s (lkX op (σ 27 0) a) + i) (4 * s (lkX op (σ 27 0) a) + j) σ) (fun x11 s10 => some (x11, s10)) := by
    unfold fX8_fresh
    rw [node_1 hI hX hi, zCq_s, zGd_t (by omega), node_1 hI hX hj, zCq_s, zGd_t (by omega)]
  by_cases hij : i = j
  · refine Cs3.same h (r := -3) (by rw [u8, hij, if_pos rfl]) ?_
    unfold fX9_fresh
    rw [agn_1 hop h14 hX hi hj, zCi_s, if_pos hij, if_neg (by decide)]
  rw [if_neg (by rw [zn_eq (by omega) (by omega)]; exact hij)] at u8
  obtain ⟨n, n1, n2, b1, b2, b3, hN⟩ := hI.2.2.2.2.2.2.2.2.2.2 _ hX
  obtain ⟨led1, M1, r1, c1, m1⟩ := hN i hi
  obtain ⟨led2, M2, r2, c2, m2⟩ := hN j hj
  obtain ⟨w, e, f⟩ := e_freshOf hI.1 hI.2.2.1 hX3 hi hj n2 b3 r1 r2 m1 m2
  refine ⟨_, σ, w, by rw [u8, e_leastNew hI.1 hI.2.1 (by omega) (by omega) r1 c1 r2 c2, zCi_s], ?_, ⟨p, op, s, hI.c (fun k i j hk => f k i j (by omega) (by omega))⟩, fun k i j hk => f k i j (by omega) (by omega)⟩
  unfold fX9_fresh
  rw [agn_1 hop h14 hX hi hj, zCi_s, if_neg hij, if_pos rfl, place_1 hI hX, zCi_s, e, zCi_s]
