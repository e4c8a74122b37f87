/-! numbers of the field -/
def iI (z : Int) : Int32 := Int32.ofInt z
theorem iI_n (n : Nat) : nI n = iI (n : Int) := by
  unfold iI
  rw [Int32.ofInt_eq_ofNat]; rfl
theorem iI_add (a b : Int) : iI a + iI b = iI (a + b) := (Int32.ofInt_add a b).symm
theorem iI_sub (a b : Int) : iI a - iI b = iI (a - b) := (Int32.ofInt_sub a b).symm
theorem iI_mul (a b : Int) : iI a * iI b = iI (a * b) := (Int32.ofInt_mul a b).symm
theorem iI_neg (a : Int) : -iI a = iI (-a) := (Int32.ofInt_neg a).symm
theorem iI_toInt {z : Int} (h1 : -2147483648 ≤ z) (h2 : z < 2147483648) : (iI z).toInt = z := Int32.toInt_ofInt_of_le h1 h2
theorem iI_inj {a b : Int} (h1 : -2147483648 ≤ a) (h2 : a < 2147483648) (h3 : -2147483648 ≤ b) (h4 : b < 2147483648) : (iI a = iI b) = (a = b) := by
  apply propext
  constructor
  · intro h
    have := congrArg Int32.toInt h
    rwa [iI_toInt h1 h2, iI_toInt h3 h4] at this
  · rintro rfl; rfl
theorem iI_0 : (0 : Int32) = iI 0 := rfl
theorem iI_1 : (1 : Int32) = iI 1 := rfl
theorem iI_z {a : Int} (h1 : -2147483648 ≤ a) (h2 : a < 2147483648) : (iI a = 0) = (a = 0) := by rw [iI_0, iI_inj h1 h2 (by decide) (by decide)]
theorem iI_rem {z : Int} {p : Nat} (h1 : -2147483648 ≤ z) (h2 : z < 2147483648) (hp : p < 2 ^ 31) : iI z - iI z / nI p * nI p = iI (z.tmod p) := by
  rw [iI_n]
  show Int32.ofInt z - Int32.ofInt z / Int32.ofInt p * Int32.ofInt p = Int32.ofInt (z.tmod p)
  have e1 : Int32.minValue.toInt = -2147483648 := rfl
  have e2 : Int32.maxValue.toInt = 2147483647 := rfl
  rw [← Int32.ofInt_tdiv (by rw [e1]; omega) (by rw [e2]; omega) (by rw [e1]; omega) (by rw [e2]; omega), ← Int32.ofInt_mul, ← Int32.ofInt_sub]
  congr 1
  have := Int.tmod_add_mul_tdiv z p
  have h3 : z.tdiv p * p = p * z.tdiv p := Int.mul_comm _ _
  omega
theorem iI_mod {z : Int} {p : Nat} (h1 : 0 ≤ z) (h2 : z < 2147483648) (hp : p < 2 ^ 31) : iI z - iI z / nI p * nI p = iI (z % p) := by
  rw [iI_rem (by omega) h2 hp, Int.tmod_eq_emod_of_nonneg h1]
theorem iI_div {z : Int} {p : Nat} (h1 : 0 ≤ z) (h2 : z < 2147483648) (hp : p < 2 ^ 31) : iI z / nI p = iI (z / p) := by
  rw [iI_n]
  show Int32.ofInt z / Int32.ofInt p = Int32.ofInt (z / p)
  have e1 : Int32.minValue.toInt = -2147483648 := rfl
  have e2 : Int32.maxValue.toInt = 2147483647 := rfl
  rw [← Int32.ofInt_tdiv (by rw [e1]; omega) (by rw [e2]; omega) (by rw [e1]; omega) (by rw [e2]; omega), Int.tdiv_eq_ediv_of_nonneg h1]
theorem i_sgn (x y : Int32) (hy : 0 ≤ y.toInt) : (0 ≤ x ^^^ y) = (0 ≤ x.toInt) := by
  apply propext
  rw [Int32.le_iff_toInt_le]
  have e0 : (0 : Int32).toInt = 0 := rfl
  rw [e0]
  have h1 := BitVec.msb_eq_toInt (x := x.toBitVec)
  have h2 := BitVec.msb_eq_toInt (x := y.toBitVec)
  have h3 := BitVec.msb_eq_toInt (x := (x ^^^ y).toBitVec)
  rw [Int32.toBitVec_xor, BitVec.msb_xor, h1, h2] at h3
  have h4 : ((x ^^^ y).toBitVec).toInt = (x ^^^ y).toInt := rfl
  have h5 : (x.toBitVec).toInt = x.toInt := rfl
  have h6 : (y.toBitVec).toInt = y.toInt := rfl
  rw [← Int32.toBitVec_xor, h4, h5, h6] at h3
  rw [decide_eq_false (by omega : ¬ y.toInt < 0)] at h3
  simp only [Bool.xor_false, decide_eq_decide] at h3
  omega
/-- the primes of the four words -/
def pp (p : Nat) : Prop := p = 2 ∨ p = 3 ∨ p = 5 ∨ p = 7
theorem pp.b {p : Nat} (h : pp p) : 2 ≤ p ∧ p ≤ 7 := by unfold pp at h; omega
theorem e_left {p : Nat} {σ : zS} {z : Int} (hp : pp p) (hσ : σ 9 0 0 = nI p) (h1 : -1000000 ≤ z) (h2 : z < 1000000) : fX0_left (iI z) σ = some (iI (z % p), σ) := by
  obtain ⟨p1, p2⟩ := hp.b
  unfold fX0_left
  rw [hσ, if_pos (by show nI 2 ≤ nI p; exact nI_le p1 (by omega))]
  unfold fJ9_floorMod_7cf53
  rw [zGd_t (by show ¬ nI p = nI 0; rw [zn_eq (by omega) (by decide)]; omega), zB_s, iI_rem (by omega) (by omega) (by omega)]
  simp only [i_sgn (iI z) (nI p) (by rw [nI_toInt (by omega)]; omega), iI_toInt (show -2147483648 ≤ z by omega) (by omega)]
  have hb : (-(p:Int)) < z.tmod p ∧ z.tmod p < p := by
    refine ⟨?_, Int.tmod_lt_of_pos z (by omega)⟩
    have := Int.lt_tmod_of_pos z (show (0:Int) < p by omega)
    omega
  simp only [iI_z (show -2147483648 ≤ z.tmod p by omega) (by omega)]
  by_cases h0 : 0 ≤ z
  · rw [if_pos h0, zCi_s, Int.tmod_eq_emod_of_nonneg h0]
  · rw [if_neg h0]
    have e : z.tmod p % p = z % p := by rw [Int.tmod_def]; exact Int.sub_mul_emod_self_left ..
    have hn : z.tmod p ≤ 0 := by
      have := Int.tmod_nonneg (a := -z) p (by omega)
      rw [Int.neg_tmod] at this; omega
    by_cases hz : z.tmod p = 0
    · rw [if_pos hz, zCi_s]
      rw [hz] at e ⊢
      rw [← e]; rfl
    · rw [if_neg hz, zCi_s, iI_n p, iI_add]
      congr 3
      rw [← e, ← Int.add_emod_right]
      exact (Int.emod_eq_of_lt (by omega) (by omega)).symm
/-! congruence -/
def cg (p : Nat) (a b : Int) : Prop := ∃ k : Int, a = b + p * k
theorem cg.r {p : Nat} (a : Int) : cg p a a := ⟨0, by omega⟩
theorem cg.s {p : Nat} {a b : Int} (h : cg p a b) : cg p b a := by obtain ⟨k, h⟩ := h; exact ⟨-k, by grind⟩
theorem cg.t {p : Nat} {a b c : Int} (h1 : cg p a b) (h2 : cg p b c) : cg p a c := by obtain ⟨k, h1⟩ := h1; obtain ⟨l, h2⟩ := h2; exact ⟨k + l, by grind⟩
theorem cg.add {p : Nat} {a b c d : Int} (h1 : cg p a b) (h2 : cg p c d) : cg p (a + c) (b + d) := by obtain ⟨k, h1⟩ := h1; obtain ⟨l, h2⟩ := h2; exact ⟨k + l, by grind⟩
theorem cg.sub {p : Nat} {a b c d : Int} (h1 : cg p a b) (h2 : cg p c d) : cg p (a - c) (b - d) := by obtain ⟨k, h1⟩ := h1; obtain ⟨l, h2⟩ := h2; exact ⟨k - l, by grind⟩
theorem cg.mul {p : Nat} {a b c d : Int} (h1 : cg p a b) (h2 : cg p c d) : cg p (a * c) (b * d) := by obtain ⟨k, h1⟩ := h1; obtain ⟨l, h2⟩ := h2; exact ⟨b * l + k * d + p * k * l, by grind⟩
theorem cg.m {p : Nat} (a : Int) : cg p (a % p) a := ⟨-(a / p), by have := Int.emod_add_mul_ediv a p; grind⟩
theorem cg.e {p : Nat} {a b : Int} (h : cg p a b) : a % p = b % p := by obtain ⟨k, h⟩ := h; rw [h]; exact Int.add_mul_emod_self_left ..
theorem cg.of {p : Nat} {a b : Int} (h : a % p = b % p) : cg p a b := (cg.m a).s.t (h ▸ cg.m b)
theorem cg.eq {p : Nat} {a b : Int} (h : cg p a b) (h1 : 0 ≤ a) (h2 : a < p) (h3 : 0 ≤ b) (h4 : b < p) : a = b := by
  have := h.e
  rwa [Int.emod_eq_of_lt h1 h2, Int.emod_eq_of_lt h3 h4] at this
theorem md_0 {p : Nat} {a : Int} (hp : 0 < p) : 0 ≤ a % p := Int.emod_nonneg _ (by omega)
theorem md_l {p : Nat} {a : Int} (hp : 0 < p) : a % p < p := Int.emod_lt_of_pos _ (by omega)
/-- a sum over a list -/
def sm : List Nat → (Nat → Int) → Int
  | [], _ => 0
  | q :: qs, f => f q + sm qs f
theorem sm_app (l1 l2 : List Nat) (f : Nat → Int) : sm (l1 ++ l2) f = sm l1 f + sm l2 f := by
  induction l1 with
  | nil => show _ = 0 + _; rw [Int.zero_add]; rfl
  | cons q qs ih => show f q + sm (qs ++ l2) f = f q + sm qs f + sm l2 f; rw [ih]; omega
theorem sm_1 (q : Nat) (f : Nat → Int) : sm [q] f = f q := by show f q + 0 = _; omega
theorem sm_cg {p : Nat} {l : List Nat} {f g : Nat → Int} (h : ∀ q ∈ l, cg p (f q) (g q)) : cg p (sm l f) (sm l g) := by
  induction l with
  | nil => exact cg.r _
  | cons q qs ih => exact (h q (by simp)).add (ih (fun a b => h a (by simp [b])))
theorem sm_0 {l : List Nat} {f : Nat → Int} (h : ∀ q ∈ l, f q = 0) : sm l f = 0 := by
  induction l with
  | nil => rfl
  | cons q qs ih => show f q + sm qs f = 0; rw [h q (by simp), ih (fun a b => h a (by simp [b]))]; rfl
theorem sm_ex {l : List Nat} {f g : Nat → Int} (h : ∀ q ∈ l, f q = g q) : sm l f = sm l g := by
  induction l with
  | nil => rfl
  | cons q qs ih => show f q + sm qs f = g q + sm qs g; rw [h q (by simp), ih (fun a b => h a (by simp [b]))]
theorem sm_b {l : List Nat} {f : Nat → Int} {B : Int} (h : ∀ q ∈ l, 0 ≤ f q ∧ f q ≤ B) : 0 ≤ sm l f ∧ sm l f ≤ l.length * B := by
  induction l with
  | nil => exact ⟨Int.le_refl 0, by show (0:Int) ≤ (0:Nat) * B; simp⟩
  | cons q qs ih =>
    have h1 := h q (by simp)
    have h2 := ih (fun a b => h a (by simp [b]))
    refine ⟨by show 0 ≤ f q + sm qs f; omega, ?_⟩
    show f q + sm qs f ≤ ((qs.length + 1 : Nat) : Int) * B
    rw [Int.natCast_add, Int.add_mul]
    show f q + sm qs f ≤ qs.length * B + (1:Int) * B
    omega
/-- sum over one that alone is not 0 -/
theorem sm_only {l : List Nat} {f : Nat → Int} {q : Nat} (hd : l.Nodup) (hq : q ∈ l) (h : ∀ a ∈ l, a ≠ q → f a = 0) : sm l f = f q := by
  induction l with
  | nil => exact absurd hq (by simp)
  | cons a as ih =>
    rw [List.nodup_cons] at hd
    show f a + sm as f = f q
    by_cases ha : a = q
    · subst ha
      rw [sm_0 (fun b hb => h b (by simp [hb]) (fun z => hd.1 (z ▸ hb)))]; omega
    · rw [h a (by simp) ha, ih hd.2 (by simpa [Ne.symm ha] using hq) (fun b hb => h b (by simp [hb]))]; omega
