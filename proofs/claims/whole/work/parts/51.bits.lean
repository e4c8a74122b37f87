/-! bits -/
theorem zs_l : ∀ n, n < 32 → ((nI n &&& 31).toBitVec.smod 32).toNat = n := by decide +kernel
theorem zn_and (a b : Nat) : nI a &&& nI b = nI (a &&& b) := by
  apply Int32.toBitVec_inj.mp
  rw [Int32.toBitVec_and]
  show BitVec.ofNat 32 a &&& BitVec.ofNat 32 b = BitVec.ofNat 32 (a &&& b)
  apply BitVec.eq_of_toNat_eq
  simp [BitVec.toNat_and, Nat.and_mod_two_pow]
theorem zn_or (a b : Nat) : nI a ||| nI b = nI (a ||| b) := by
  apply Int32.toBitVec_inj.mp
  rw [Int32.toBitVec_or]
  show BitVec.ofNat 32 a ||| BitVec.ofNat 32 b = BitVec.ofNat 32 (a ||| b)
  apply BitVec.eq_of_toNat_eq
  simp [BitVec.toNat_or, Nat.or_mod_two_pow]
theorem zn_xor (a b : Nat) : nI a ^^^ nI b = nI (a ^^^ b) := by
  apply Int32.toBitVec_inj.mp
  rw [Int32.toBitVec_xor]
  show BitVec.ofNat 32 a ^^^ BitVec.ofNat 32 b = BitVec.ofNat 32 (a ^^^ b)
  apply BitVec.eq_of_toNat_eq
  simp [BitVec.toNat_xor, Nat.xor_mod_two_pow]
theorem zn_m1 : (-1 : Int32) = nI 4294967295 := by decide
theorem zn_of (x : Int32) : ∃ n, n < 2 ^ 32 ∧ x = nI n := by
  refine ⟨x.toBitVec.toNat, x.toBitVec.isLt, ?_⟩
  apply Int32.toBitVec_inj.mp
  show x.toBitVec = BitVec.ofNat 32 x.toBitVec.toNat
  simp
/-- a without b -/
def lk (a b : Nat) : Nat := a &&& (b ^^^ 4294967295)
theorem zn_lk (a b : Nat) : nI a &&& (nI b ^^^ (-1)) = nI (lk a b) := by rw [zn_m1, zn_xor, zn_and]; rfl
theorem lk_bit {a b j : Nat} (hj : j < 32) : (lk a b).testBit j = (a.testBit j && !b.testBit j) := by
  unfold lk
  rw [Nat.testBit_and, Nat.testBit_xor]
  have : Nat.testBit 4294967295 j = true := by
    have h := Nat.testBit_two_pow_sub_one 32 j
    rw [show (2 : Nat) ^ 32 - 1 = 4294967295 from rfl] at h
    rw [h]; simpa using hj
  rw [this]
  cases a.testBit j <;> cases b.testBit j <;> rfl
theorem lk_le (a b : Nat) : lk a b ≤ a := Nat.and_le_left
theorem zbit_big {a k j : Nat} (h : a < 2 ^ k) (hj : k ≤ j) : a.testBit j = false := Nat.testBit_lt_two_pow (Nat.lt_of_lt_of_le h (Nat.pow_le_pow_right (by decide) hj))
theorem zbit_ext {a b : Nat} (ha : a < 2 ^ 32) (hb : b < 2 ^ 32) (h : ∀ j, j < 32 → a.testBit j = b.testBit j) : a = b := by
  apply Nat.eq_of_testBit_eq
  intro j
  by_cases hj : j < 32
  · exact h j hj
  · rw [zbit_big ha (by omega), zbit_big hb (by omega)]
/-- the bit that the programs test -/
theorem zn_bit {a l : Nat} (ha : a < 2 ^ 31) (hl : l < 32) : (nI a >>> (nI l &&& 31)) &&& 1 = nI (a / 2 ^ l % 2) := by
  rw [pk_shrN ha _ l (zs_l l hl)]
  have := pk_andN (n := a / 2 ^ l) (Nat.lt_of_le_of_lt (Nat.div_le_self _ _) (by omega)) (m := 1) 1 (by decide)
  rw [this]
theorem zn_bit1 {a l : Nat} (ha : a < 2 ^ 31) (hl : l < 32) : ((nI a >>> (nI l &&& 31)) &&& 1 = 1) = (a.testBit l = true) := by
  rw [zn_bit ha hl, Nat.testBit_eq_decide_div_mod_eq, decide_eq_true_eq]
  rcases (show a / 2 ^ l % 2 = 0 ∨ a / 2 ^ l % 2 = 1 by omega) with h | h <;> rw [h] <;> simp <;> decide
theorem zn_shl : ∀ l, l < 31 → (1 : Int32) <<< (nI l &&& 31) = nI (2 ^ l) := by decide +kernel
theorem zpow_bit {l j : Nat} : (2 ^ l).testBit j = decide (l = j) := Nat.testBit_two_pow
theorem zpow_lt {l : Nat} (h : l < 10) : 2 ^ l < 1024 := by
  have : 2 ^ l < 2 ^ 10 := Nat.pow_lt_pow_right (by decide) h
  exact this
theorem zor_lt {a b : Nat} (ha : a < 1024) (hb : b < 1024) : a ||| b < 1024 := Nat.or_lt_two_pow (n := 10) ha hb
/-! how many bits -/
def bcI (x : Int32) : Int32 :=
  let a := x - ((x.toUInt32 >>> ((1 : Int32).toUInt32 &&& Int32.toUInt32 31)).toInt32 &&& 1431655765)
  let b := (a &&& 858993459) + ((a.toUInt32 >>> ((2 : Int32).toUInt32 &&& Int32.toUInt32 31)).toInt32 &&& 858993459)
  let c := (b + (b.toUInt32 >>> ((4 : Int32).toUInt32 &&& Int32.toUInt32 31)).toInt32) &&& 252645135
  let d := c + (c.toUInt32 >>> ((8 : Int32).toUInt32 &&& Int32.toUInt32 31)).toInt32
  let e := d + (d.toUInt32 >>> ((16 : Int32).toUInt32 &&& Int32.toUInt32 31)).toInt32
  e &&& 63
theorem e_bitCount (x : Int32) (σ : zS) : fJ6_bitCount_0f7a4 x σ = some (bcI x, σ) := rfl
def szI (x : Int32) : Int32 := 0 + ((x >>> (nI 0 &&& 31)) &&& 1) + ((x >>> (nI 1 &&& 31)) &&& 1) + ((x >>> (nI 2 &&& 31)) &&& 1) + ((x >>> (nI 3 &&& 31)) &&& 1) + ((x >>> (nI 4 &&& 31)) &&& 1) + ((x >>> (nI 5 &&& 31)) &&& 1) + ((x >>> (nI 6 &&& 31)) &&& 1) + ((x >>> (nI 7 &&& 31)) &&& 1) + ((x >>> (nI 8 &&& 31)) &&& 1) + ((x >>> (nI 9 &&& 31)) &&& 1)
theorem e_size (x : Int32) (σ : zS) : fX9_size x σ = some (szI x, σ) := rfl
def rbI (x : Int32) : Int32 := if bcI x = 1 then bcI (x - 1) else -9
theorem rb_dec : ∀ y, y < 1024 → szI (nI y) = bcI (nI y) := by decide +kernel
theorem rb_bits : ∀ y, y < 1024 → bcI (nI y) = 1 → ∃ l, l < 10 ∧ y = 2 ^ l ∧ bcI (nI y - 1) = nI l := by decide +kernel
theorem rb_pow : ∀ l, l < 10 → rbI (nI (2 ^ l)) = nI l := by decide +kernel
theorem e_readBy {σ : zS} {s x h : Nat} (hs : s < 8) (hh : σ 3 0 s = nI h) : fX6_readBy (nI s) (nI x) σ = some (rbI (nI (lk x h)), σ) := by
  unfold fX6_readBy
  rw [zIx_nI hs (by decide), zB_s, nI_clamp (by omega), hh, zn_lk, e_bitCount, zCi_s]
  unfold rbI
  split
  · rw [e_bitCount]; rfl
  · rfl
theorem e_isIn {a l : Nat} {σ : zS} (ha : a < 2 ^ 31) (hl : l < 32) : fX9_isIn (nI a) (nI l) σ = some (if a.testBit l then 1 else 0, σ) := by
  unfold fX9_isIn
  simp only [zn_bit1 ha hl]
  split <;> rfl
theorem e_readByM {σ : zS} {s x h : Nat} (hs : s < 8) (hx : x < 1024) (hh : σ 23 0 s = nI h) : fX9_readBy (nI s) (nI x) σ = some (rbI (nI (lk x h)), σ) := by
  have hy : lk x h < 1024 := Nat.lt_of_le_of_lt (lk_le _ _) hx
  unfold fX9_readBy
  rw [zIx_nI hs (by decide), zB_s, nI_clamp (by omega), hh, zn_lk, e_size, zCi_s, rb_dec _ hy]
  unfold rbI
  by_cases hb : bcI (nI (lk x h)) = 1
  · rw [if_pos hb, if_pos hb]
    obtain ⟨l, hl, e, e2⟩ := rb_bits _ hy hb
    rw [e2, e]
    obtain ⟨b', hI, e3⟩ := zloop (β := Unit) (L := fun n i _ => fX9_readBy_25 (nI (2 ^ l)) (fun u y => some (u, y)) n (nI i) σ) (fun _ _ => True) l (fun _ => some (nI l, σ)) (fun n i b hi _ => ⟨(), trivial, by
      show zCi (fX9_isIn (nI (2 ^ l)) (nI i) σ) _ = _
      rw [e_isIn (Nat.lt_trans (zpow_lt hl) (by decide)) (by omega), zpow_bit]
      rw [decide_eq_false (by omega), zCi_s]
      rw [if_pos (by decide), zB_s, nI_1]⟩) (fun n b _ => by
      show zCi (fX9_isIn (nI (2 ^ l)) (nI l) σ) _ = _
      rw [e_isIn (Nat.lt_trans (zpow_lt hl) (by decide)) (by omega), zpow_bit, decide_eq_true rfl, zCi_s]
      rfl) l 0 () zN (by omega) trivial (Nat.lt_trans hl (by decide))
    exact e3
  · rw [if_neg hb, if_neg hb]
