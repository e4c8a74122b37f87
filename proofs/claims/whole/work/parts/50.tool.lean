/-! the pure part: tools -/
theorem zIx_in {α : Type} {i : Int32} {n : Nat} {o : Option α} (h : vp_in i n) : zIx i n o = o := if_neg h
theorem zIx_nI {α : Type} {i n : Nat} {o : Option α} (h : i < n) (hn : n < 2 ^ 31) : zIx (nI i) n o = o := zIx_in (vp_in_nI h hn)
theorem zGd_t {α : Type} {c : Prop} [Decidable c] {o : Option α} (h : c) : zGd c o = o := if_pos h
theorem zCi_s {α β : Type} {r : α} {σ : zS} {k : α → zS → Option β} : zCi (some (r, σ)) k = k r σ := rfl
theorem zCv_s {α β : Type} {r : α} {σ : zS} {k : zS → Option β} : zCv (some (r, σ)) k = k σ := rfl
theorem zB_s {α β : Type} {x : α} {k : α → Option β} : zB x k = k x := rfl
theorem zU_ap (σ : zS) (k i j : Nat) (v : Int32) (a b c : Nat) : zU σ k i j v a b c = if a = k ∧ b = i ∧ c = j then v else σ a b c := by
  unfold zU
  by_cases h : a = k ∧ b = i
  · rw [if_pos h]
    unfold upd
    by_cases hc : c = j
    · rw [if_pos hc, if_pos ⟨h.1, h.2, hc⟩]
    · rw [if_neg hc, if_neg (fun q => hc q.2.2)]
  · rw [if_neg h, if_neg (fun q => h ⟨q.1, q.2.1⟩)]
theorem zU_s {σ : zS} {k i j : Nat} {v : Int32} : zU σ k i j v k i j = v := by rw [zU_ap, if_pos ⟨rfl, rfl, rfl⟩]
theorem zU_k {σ : zS} {k i j : Nat} {v : Int32} {a b c : Nat} (h : a ≠ k) : zU σ k i j v a b c = σ a b c := by rw [zU_ap, if_neg (fun q => h q.1)]
theorem zU_i {σ : zS} {k i j : Nat} {v : Int32} {a b c : Nat} (h : b ≠ i) : zU σ k i j v a b c = σ a b c := by rw [zU_ap, if_neg (fun q => h q.2.1)]
theorem zU_j {σ : zS} {k i j : Nat} {v : Int32} {a b c : Nat} (h : c ≠ j) : zU σ k i j v a b c = σ a b c := by rw [zU_ap, if_neg (fun q => h q.2.2)]
/-- a loop that runs to its end -/
theorem zloop {β R : Type} (L : Nat → Nat → β → Option R) (I : Nat → β → Prop) (N : Nat) (out : β → Option R) (hs : ∀ n i b, i < N → I i b → ∃ b', I (i + 1) b' ∧ L (n + 1) i b = L n (i + 1) b') (he : ∀ n b, I N b → L (n + 1) N b = out b) : ∀ (d i : Nat) (b : β) (n : Nat), i + d = N → I i b → d < n → ∃ b', I N b' ∧ L n i b = out b' := by
  intro d
  induction d with
  | zero =>
    intro i b n hi hI hn
    obtain ⟨n, rfl⟩ : ∃ m, n = m + 1 := ⟨n - 1, by omega⟩
    have : i = N := by omega
    subst this
    exact ⟨b, hI, he n b hI⟩
  | succ d ih =>
    intro i b n hi hI hn
    obtain ⟨n, rfl⟩ : ∃ m, n = m + 1 := ⟨n - 1, by omega⟩
    obtain ⟨b', hI', e⟩ := hs n i b (by omega) hI
    obtain ⟨b2, h2, e2⟩ := ih (i + 1) b' n (by omega) hI' (by omega)
    exact ⟨b2, h2, e.trans e2⟩
/-- a loop that may end early, with what P says -/
theorem zloopE {β R : Type} (L : Nat → Nat → β → Option R) (I : Nat → β → Prop) (N : Nat) (out : β → Option R) (P : Option R → Prop) (hs : ∀ n i b, i < N → I i b → (∃ b', I (i + 1) b' ∧ L (n + 1) i b = L n (i + 1) b') ∨ P (L (n + 1) i b)) (he : ∀ n b, I N b → L (n + 1) N b = out b) : ∀ (d i : Nat) (b : β) (n : Nat), i + d = N → I i b → d < n → (∃ b', I N b' ∧ L n i b = out b') ∨ P (L n i b) := by
  intro d
  induction d with
  | zero =>
    intro i b n hi hI hn
    obtain ⟨n, rfl⟩ : ∃ m, n = m + 1 := ⟨n - 1, by omega⟩
    have : i = N := by omega
    subst this
    exact Or.inl ⟨b, hI, he n b hI⟩
  | succ d ih =>
    intro i b n hi hI hn
    obtain ⟨n, rfl⟩ : ∃ m, n = m + 1 := ⟨n - 1, by omega⟩
    rcases hs n i b (by omega) hI with ⟨b', hI', e⟩ | h
    · rcases ih (i + 1) b' n (by omega) hI' (by omega) with ⟨b2, h2, e2⟩ | h2
      · exact Or.inl ⟨b2, h2, e.trans e2⟩
      · exact Or.inr (by rw [e]; exact h2)
    · exact Or.inr h
/-! ints -/
theorem zn_le {a b : Nat} (ha : a < 2 ^ 31) (hb : b < 2 ^ 31) : (nI a ≤ nI b) = (a ≤ b) := propext (nI_leI ha hb)
theorem zn_lt {a b : Nat} (ha : a < 2 ^ 31) (hb : b < 2 ^ 31) : (nI a < nI b) = (a < b) := propext (nI_ltI ha hb)
theorem zn_eq {a b : Nat} (ha : a < 2 ^ 31) (hb : b < 2 ^ 31) : (nI a = nI b) = (a = b) := propext (nI_eq ha hb)
theorem zlit (n : Nat) : (OfNat.ofNat n : Int32) = nI n := rfl
/-- an int is below 0, at least n, or a number below n -/
theorem zcase (x : Int32) (n : Nat) (hn : n < 2 ^ 31) : x < 0 ∨ nI n ≤ x ∨ ∃ j, j < n ∧ x = nI j := pk_ix x hn
theorem zneg {x : Int32} (h : x < 0) (n : Nat) (hn : n < 2 ^ 31) : ¬ nI n ≤ x := fun q => by
  rw [Int32.le_iff_toInt_le, nI_toInt hn] at q
  rw [Int32.lt_iff_toInt_lt] at h
  have : (0 : Int32).toInt = 0 := rfl
  omega
theorem zbig {x : Int32} {n : Nat} (h : nI n ≤ x) (hn : n < 2 ^ 31) : ¬ x < 0 := fun q => zneg q n hn h
theorem zand1 (x : Int32) : x &&& 1 = 0 ∨ x &&& 1 = 1 := by
  obtain ⟨j, hj, e⟩ := pk_andE x (m := 1) 1 (by decide)
  rcases (show j = 0 ∨ j = 1 by omega) with rfl | rfl
  · exact Or.inl e
  · exact Or.inr e
/-! what a method that only asks answers -/
theorem zf_bool {c : Prop} [Decidable c] {σ : zS} : (if c then some ((1 : Int32), σ) else some ((0 : Int32), σ)) = some (if c then (1 : Int32) else 0, σ) := by split <;> rfl
