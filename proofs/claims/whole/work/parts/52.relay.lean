/-! the relay: what holds between the class's cells and the reference's -/
def iA (T : Nat) (σ : zS) : Prop := T < 1024 ∧ σ 1 0 3 = nI T ∧ σ 21 0 0 = nI T
def iB (σ : zS) : Prop := σ 21 0 6 = σ 1 0 4 ∧ (∃ a, a < 256 ∧ σ 1 0 4 = nI a) ∧ σ 21 0 7 = σ 1 0 5 ∧ σ 21 0 8 = σ 1 0 6 ∧ σ 21 0 9 = σ 1 0 7
def iC (σ : zS) : Prop := ∀ l, l < 10 → σ 22 0 l = σ 2 0 l ∧ ∃ v, v < 256 ∧ σ 2 0 l = nI v
def iD (T : Nat) (Hd : Nat → Nat) (σ : zS) : Prop := ∀ s, s < 8 → σ 3 0 s = nI (Hd s) ∧ σ 23 0 s = nI (Hd s) ∧ Hd s < 1024 ∧ lk (Hd s) T = 0
/-- the queue in two rows and a number -/
def qR (n : Int32) (f g : Nat → Int32) (Q : List (Nat × Nat)) : Prop := n = nI Q.length ∧ ∀ k q, Q[k]? = some q → f k = nI q.1 ∧ g k = nI q.2
def qV (T : Nat) (Q : List (Nat × Nat)) : Prop := Q.length ≤ 16 ∧ Q.Nodup ∧ ∀ q ∈ Q, q.1 < 10 ∧ q.2 < 8 ∧ T.testBit q.1 = true
def iE (T : Nat) (Q : List (Nat × Nat)) (σ : zS) : Prop := qV T Q ∧ qR (σ 4 0 2) (σ 5 0) (σ 6 0) Q ∧ qR (σ 21 0 3) (σ 24 0) (σ 25 0) Q
def I1 (T : Nat) (Hd : Nat → Nat) (Q : List (Nat × Nat)) (σ : zS) : Prop := iA T σ ∧ iB σ ∧ iC σ ∧ iD T Hd σ ∧ iE T Q σ
def J1 (σ : zS) : Prop := ∃ T Hd Q, I1 T Hd Q σ
theorem iA.c {T : Nat} {σ σ' : zS} (h : iA T σ) (h1 : σ' 1 0 3 = σ 1 0 3) (h2 : σ' 21 0 0 = σ 21 0 0) : iA T σ' := ⟨h.1, h1.trans h.2.1, h2.trans h.2.2⟩
theorem iB.c {σ σ' : zS} (h : iB σ) (h1 : ∀ j, j = 4 ∨ j = 5 ∨ j = 6 ∨ j = 7 → σ' 1 0 j = σ 1 0 j) (h2 : ∀ j, j = 6 ∨ j = 7 ∨ j = 8 ∨ j = 9 → σ' 21 0 j = σ 21 0 j) : iB σ' := by
  obtain ⟨a, b, c, d, e⟩ := h
  unfold iB
  rw [h1 4 (by omega), h1 5 (by omega), h1 6 (by omega), h1 7 (by omega), h2 6 (by omega), h2 7 (by omega), h2 8 (by omega), h2 9 (by omega)]
  exact ⟨a, b, c, d, e⟩
theorem iC.c {σ σ' : zS} (h : iC σ) (h1 : ∀ j, σ' 2 0 j = σ 2 0 j) (h2 : ∀ j, σ' 22 0 j = σ 22 0 j) : iC σ' := by
  intro l hl
  rw [h1, h2]
  exact h l hl
theorem iD.c {T : Nat} {Hd : Nat → Nat} {σ σ' : zS} (h : iD T Hd σ) (h1 : ∀ j, σ' 3 0 j = σ 3 0 j) (h2 : ∀ j, σ' 23 0 j = σ 23 0 j) : iD T Hd σ' := by
  intro l hl
  rw [h1, h2]
  exact h l hl
theorem iE.c {T : Nat} {Q : List (Nat × Nat)} {σ σ' : zS} (h : iE T Q σ) (h1 : σ' 4 0 2 = σ 4 0 2) (h2 : σ' 21 0 3 = σ 21 0 3) (h5 : ∀ j, σ' 5 0 j = σ 5 0 j) (h6 : ∀ j, σ' 6 0 j = σ 6 0 j) (h7 : ∀ j, σ' 24 0 j = σ 24 0 j) (h8 : ∀ j, σ' 25 0 j = σ 25 0 j) : iE T Q σ' := by
  obtain ⟨a, b, c⟩ := h
  unfold iE
  rw [h1, h2, show σ' 5 0 = σ 5 0 from funext h5, show σ' 6 0 = σ 6 0 from funext h6, show σ' 24 0 = σ 24 0 from funext h7, show σ' 25 0 = σ 25 0 from funext h8]
  exact ⟨a, b, c⟩
/-- what a call of the relay leaves as it was -/
def Ch1 (σ σ' : zS) : Prop := ∀ k i j, (k = 0 ∨ (7 ≤ k ∧ k ≤ 20) ∨ 26 ≤ k ∨ (k = 21 ∧ ¬ (j = 0 ∨ j = 3 ∨ j = 6 ∨ j = 7 ∨ j = 8 ∨ j = 9))) → σ' k i j = σ k i j
theorem Ch1.r (σ : zS) : Ch1 σ σ := fun _ _ _ _ => rfl
theorem Ch1.t {a b c : zS} (h1 : Ch1 a b) (h2 : Ch1 b c) : Ch1 a c := fun k i j h => (h2 k i j h).trans (h1 k i j h)
theorem Ch1.U {σ σ' : zS} (h : Ch1 σ σ') {k i j : Nat} {v : Int32} (hk : ¬ (k = 0 ∨ (7 ≤ k ∧ k ≤ 20) ∨ 26 ≤ k ∨ (k = 21 ∧ ¬ (j = 0 ∨ j = 3 ∨ j = 6 ∨ j = 7 ∨ j = 8 ∨ j = 9)))) : Ch1 σ (zU σ' k i j v) := by
  intro a b c hab
  rw [zU_ap, if_neg (by rintro ⟨rfl, rfl, rfl⟩; exact hk hab)]
  exact h a b c hab
/-- a case of the law: both answer alike, and the relay's invariant stands -/
def Cs1 (σ : zS) (f g : zS → Option (Int32 × zS)) : Prop := ∃ r σ1 σ2, f σ = some (r, σ1) ∧ g σ1 = some (r, σ2) ∧ J1 σ2 ∧ Ch1 σ σ2
theorem Cs1.same {σ : zS} {f g : zS → Option (Int32 × zS)} {r : Int32} (hI : J1 σ) (h1 : f σ = some (r, σ)) (h2 : g σ = some (r, σ)) : Cs1 σ f g := ⟨r, σ, σ, h1, h2, hI, Ch1.r σ⟩
/-! refusals by ranges -/
theorem e_within {a lo hi : Int32} {σ : zS} : fX9_within a lo hi σ = some (if a < lo then 0 else if hi < a then 0 else 1, σ) := by
  unfold fX9_within
  split
  · rfl
  · split <;> rfl
theorem zle255 {a : Int32} (h0 : ¬ a < 0) : (a ≤ 255) = ¬ (255 : Int32) < a := by
  apply propext
  rw [Int32.le_iff_toInt_le, Int32.lt_iff_toInt_lt]
  omega
theorem zle_lt (a b : Int32) : (a ≤ b) = ¬ b < a := by
  apply propext
  rw [Int32.le_iff_toInt_le, Int32.lt_iff_toInt_lt]
  omega
theorem zlt_le (a b : Int32) : (a < b) = ¬ b ≤ a := by
  apply propext
  rw [Int32.le_iff_toInt_le, Int32.lt_iff_toInt_lt]
  omega
theorem zlt_1 {a : Int32} {n : Nat} (hn : n + 1 < 2 ^ 31) : (a < nI (n + 1)) = ¬ nI n < a := by
  apply propext
  rw [Int32.lt_iff_toInt_lt, Int32.lt_iff_toInt_lt, nI_toInt hn, nI_toInt (by omega)]
  omega
theorem c_air (a : Int32) (σ : zS) (h : J1 σ) : Cs1 σ (fX8_air a) (fX9_air a) := by
  by_cases h1 : a < 0
  · exact Cs1.same h (r := -2) (by unfold fX8_air; rw [if_pos h1]) (by unfold fX9_air; rw [e_within, if_pos h1]; rfl)
  by_cases h2 : (255 : Int32) < a
  · exact Cs1.same h (r := -2) (by unfold fX8_air; rw [if_neg h1, if_neg (by rw [zle_lt]; exact fun q => q h2)]) (by unfold fX9_air; rw [e_within, if_neg h1, if_pos h2]; rfl)
  obtain ⟨T, Hd, Q, hA, hB, hC, hD, hE⟩ := h
  refine ⟨σ 1 0 4, zU σ 1 0 4 a, zU (zU σ 1 0 4 a) 21 0 6 a, ?_, ?_, ⟨T, Hd, Q, ?_, ?_, ?_, ?_, ?_⟩, ?_⟩
  · unfold fX8_air; rw [if_neg h1, if_pos (by rw [zle_lt]; exact h2)]; rfl
  · unfold fX9_air; rw [e_within, if_neg h1, if_neg h2, zCi_s, if_neg (by decide)]
    show some ((zU σ 1 0 4 a) 21 0 6, _) = _
    rw [zU_k (by decide), hB.1]
  · exact hA.c (by rw [zU_k (by decide), zU_j (by decide)]) (by rw [zU_j (by decide), zU_k (by decide)])
  · obtain ⟨b1, b2, b3, b4, b5⟩ := hB
    rcases zcase a 256 (by decide) with q | q | ⟨j, hj, rfl⟩
    · exact absurd q h1
    · exact absurd q (by rw [← zlt_le, zlt_1 (n := 255) (by decide)]; exact h2)
    · refine ⟨?_, ⟨j, hj, ?_⟩, ?_, ?_, ?_⟩
      · rw [zU_s, zU_k (by decide), zU_s]
      · rw [zU_k (by decide), zU_s]
      · rw [zU_j (by decide), zU_k (by decide), zU_k (by decide), zU_j (by decide)]; exact b3
      · rw [zU_j (by decide), zU_k (by decide), zU_k (by decide), zU_j (by decide)]; exact b4
      · rw [zU_j (by decide), zU_k (by decide), zU_k (by decide), zU_j (by decide)]; exact b5
  · exact hC.c (fun j => by rw [zU_k (by decide), zU_k (by decide)]) (fun j => by rw [zU_k (by decide), zU_k (by decide)])
  · exact hD.c (fun j => by rw [zU_k (by decide), zU_k (by decide)]) (fun j => by rw [zU_k (by decide), zU_k (by decide)])
  · exact hE.c (by rw [zU_k (by decide), zU_k (by decide)]) (by rw [zU_j (by decide), zU_k (by decide)]) (fun j => by rw [zU_k (by decide), zU_k (by decide)]) (fun j => by rw [zU_k (by decide), zU_k (by decide)]) (fun j => by rw [zU_k (by decide), zU_k (by decide)]) (fun j => by rw [zU_k (by decide), zU_k (by decide)])
  · exact ((Ch1.r σ).U (by omega)).U (by omega)
theorem c_most (a : Int32) (σ : zS) (h : J1 σ) : Cs1 σ (fX8_most a) (fX9_most a) := by
  by_cases h1 : a < 1
  · exact Cs1.same h (r := -2) (by unfold fX8_most; rw [if_pos h1]) (by unfold fX9_most; rw [e_within, if_pos h1]; rfl)
  by_cases h2 : (10 : Int32) < a
  · exact Cs1.same h (r := -2) (by unfold fX8_most; rw [if_neg h1, if_neg (by rw [zle_lt]; exact fun q => q h2)]) (by unfold fX9_most; rw [e_within, if_neg h1, if_pos h2]; rfl)
  obtain ⟨T, Hd, Q, hA, hB, hC, hD, hE⟩ := h
  refine ⟨σ 1 0 5, zU σ 1 0 5 a, zU (zU σ 1 0 5 a) 21 0 7 a, ?_, ?_, ⟨T, Hd, Q, ?_, ?_, ?_, ?_, ?_⟩, ?_⟩
  · unfold fX8_most; rw [if_neg h1, if_pos (by rw [zle_lt]; exact h2)]; rfl
  · unfold fX9_most; rw [e_within, if_neg h1, if_neg h2, zCi_s, if_neg (by decide)]
    show some ((zU σ 1 0 5 a) 21 0 7, _) = _
    rw [zU_k (by decide), hB.2.2.1]
  · exact hA.c (by rw [zU_k (by decide), zU_j (by decide)]) (by rw [zU_j (by decide), zU_k (by decide)])
  · obtain ⟨b1, ⟨x, hx, b2⟩, b3, b4, b5⟩ := hB
    refine ⟨?_, ⟨x, hx, ?_⟩, ?_, ?_, ?_⟩
    · rw [zU_j (by decide), zU_k (by decide), zU_k (by decide), zU_j (by decide)]; exact b1
    · rw [zU_k (by decide), zU_j (by decide)]; exact b2
    · rw [zU_s, zU_k (by decide), zU_s]
    · rw [zU_j (by decide), zU_k (by decide), zU_k (by decide), zU_j (by decide)]; exact b4
    · rw [zU_j (by decide), zU_k (by decide), zU_k (by decide), zU_j (by decide)]; exact b5
  · exact hC.c (fun j => by rw [zU_k (by decide), zU_k (by decide)]) (fun j => by rw [zU_k (by decide), zU_k (by decide)])
  · exact hD.c (fun j => by rw [zU_k (by decide), zU_k (by decide)]) (fun j => by rw [zU_k (by decide), zU_k (by decide)])
  · exact hE.c (by rw [zU_k (by decide), zU_k (by decide)]) (by rw [zU_j (by decide), zU_k (by decide)]) (fun j => by rw [zU_k (by decide), zU_k (by decide)]) (fun j => by rw [zU_k (by decide), zU_k (by decide)]) (fun j => by rw [zU_k (by decide), zU_k (by decide)]) (fun j => by rw [zU_k (by decide), zU_k (by decide)])
  · exact ((Ch1.r σ).U (by omega)).U (by omega)
