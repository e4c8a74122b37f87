/-! rows in their least form -/
def Sl (led : Nat → Bool) (i : Nat) : List Nat := (List.range i).filter led
theorem Sl_s (led : Nat → Bool) (i : Nat) : Sl led (i + 1) = if led i = true then Sl led i ++ [i] else Sl led i := by
  unfold Sl
  rw [List.range_succ, List.filter_append]
  by_cases h : led i = true
  · rw [if_pos h]; simp [h]
  · rw [if_neg h]; simp [h]
theorem Sl_mem {led : Nat → Bool} {i q : Nat} : q ∈ Sl led i ↔ q < i ∧ led q = true := by
  unfold Sl; rw [List.mem_filter, List.mem_range]
theorem Sl_nd (led : Nat → Bool) (i : Nat) : (Sl led i).Nodup := List.Pairwise.filter _ List.nodup_range
theorem Sl_len (led : Nat → Bool) (i : Nat) : (Sl led i).length ≤ i := by
  have := List.length_filter_le led (List.range i)
  rwa [List.length_range] at this
theorem Sl_len2 {led : Nat → Bool} {n : Nat} (h : ∀ q, led q = true → q < 5 → q < n) : (Sl led 5).length ≤ n := by
  by_cases h5 : 5 ≤ n
  · have := Sl_len led 5; omega
  have e : Sl led 5 = Sl led n := by
    have : ∀ d, n + d ≤ 5 → Sl led (n + d) = Sl led n := by
      intro d
      induction d with
      | zero => intro _; rfl
      | succ d ih =>
        intro hd
        rw [← Nat.add_assoc, Sl_s, if_neg (fun z => by have := h _ z (by omega); omega), ih (by omega)]
    have h2 := this (5 - n) (by omega)
    rwa [show n + (5 - n) = 5 by omega] at h2
  rw [e]; exact Sl_len led n
def Rf (p n : Nat) (led : Nat → Bool) (M : Nat → Nat → Int) : Prop := ∀ q, q < 5 → led q = true → q < n ∧ (∀ c, 0 ≤ M q c ∧ M q c < p) ∧ M q q = 1 ∧ (∀ c, c < q → M q c = 0) ∧ (∀ r, r < 5 → led r = true → r ≠ q → M q r = 0) ∧ (∀ c, n ≤ c → c < 5 → M q c = 0)
def Vc (p n : Nat) (v : Nat → Int) : Prop := (∀ c, 0 ≤ v c ∧ v c < p) ∧ ∀ c, n ≤ c → c < 5 → v c = 0
def lo (p : Nat) (S : List Nat) (M : Nat → Nat → Int) (v : Nat → Int) (c : Nat) : Int := (v c - sm S (fun q => v q * M q c)) % p
/-- the first place below n where f is not 0; n: there is none -/
def fl (f : Nat → Int) : Nat → Nat
  | 0 => 0
  | n + 1 => if fl f n < n then fl f n else if f n = 0 then n + 1 else n
theorem fl_le (f : Nat → Int) : ∀ n, fl f n ≤ n
  | 0 => Nat.le_refl _
  | n + 1 => by
    have := fl_le f n
    unfold fl
    split
    · omega
    · split <;> omega
theorem fl_0 (f : Nat → Int) : ∀ n j, j < fl f n → f j = 0
  | 0, j, h => absurd h (by show ¬ j < 0; omega)
  | n + 1, j, h => by
    have h1 := fl_le f n
    unfold fl at h
    split at h
    · exact fl_0 f n j h
    · by_cases hj : j < n
      · exact fl_0 f n j (by omega)
      · split at h
        · rename_i h3
          have : j = n := by omega
          rw [this]; exact h3
        · omega
theorem fl_n (f : Nat → Int) : ∀ n, fl f n < n → f (fl f n) ≠ 0
  | 0, h => absurd h (by show ¬ fl f 0 < 0; omega)
  | n + 1, h => by
    unfold fl at h ⊢
    split
    · rename_i h1; exact fl_n f n h1
    · rename_i h1
      rw [if_neg h1] at h
      split
      · rename_i h2; rw [if_pos h2] at h; omega
      · assumption
theorem fl_u {f : Nat → Int} {n i : Nat} (hi : i ≤ n) (h0 : ∀ j, j < i → f j = 0) (h1 : i < n → f i ≠ 0) : fl f n = i := by
  have a := fl_le f n
  rcases Nat.lt_trichotomy (fl f n) i with h | h | h
  · exact absurd (h0 _ h) (fl_n f n (by omega))
  · exact h
  · exact absurd (fl_0 f n i h) (h1 (by omega))
theorem fl_ex {f g : Nat → Int} {n : Nat} (h : ∀ j, j < n → f j = g j) : fl f n = fl g n := by
  refine fl_u (fl_le g n) (fun j hj => ?_) (fun h1 => ?_)
  · have := fl_le g n
    rw [h j (by omega)]; exact fl_0 g n j hj
  · rw [h _ h1]; exact fl_n g n h1
section LO
variable {p n : Nat} {led : Nat → Bool} {M : Nat → Nat → Int} {v : Nat → Int}
theorem lo_b (hp : 0 < p) (S : List Nat) (c : Nat) : 0 ≤ lo p S M v c ∧ lo p S M v c < p := ⟨md_0 hp, md_l hp⟩
theorem lo_led (h : Rf p n led M) {q : Nat} (hq : q < 5) (hl : led q = true) : lo p (Sl led 5) M v q = 0 := by
  unfold lo
  rw [sm_only (q := q) (Sl_nd led 5) (Sl_mem.2 ⟨hq, hl⟩) (fun a ha hne => by
    obtain ⟨a1, a2⟩ := Sl_mem.1 ha
    rw [(h a a1 a2).2.2.2.2.1 q hq hl (Ne.symm hne), Int.mul_zero]), (h q hq hl).2.2.1, Int.mul_one, Int.sub_self]
  rfl
theorem lo_n (h : Rf p n led M) (hv : Vc p n v) {c : Nat} (h1 : n ≤ c) (h2 : c < 5) : lo p (Sl led 5) M v c = 0 := by
  unfold lo
  rw [sm_0 (fun a ha => by
    obtain ⟨a1, a2⟩ := Sl_mem.1 ha
    rw [(h a a1 a2).2.2.2.2.2 c h1 h2, Int.mul_zero]), hv.2 c h1 h2]
  rfl
/-- a part of the leads leaves the number at another lead as it was -/
theorem lo_part (h : Rf p n led M) (hv : Vc p n v) {S : List Nat} (hS : ∀ a ∈ S, a < 5 ∧ led a = true) {q : Nat} (hq : q < 5) (hl : led q = true) (hn : q ∉ S) : lo p S M v q = v q := by
  unfold lo
  rw [sm_0 (fun a ha => by
    obtain ⟨a1, a2⟩ := hS a ha
    rw [(h a a1 a2).2.2.2.2.1 q hq hl (fun z => hn (z ▸ ha)), Int.mul_zero]), Int.sub_zero]
  exact Int.emod_eq_of_lt (hv.1 q).1 (hv.1 q).2
theorem lo_step (S : List Nat) (q c : Nat) {t : Int} (ht : t = v q) : (lo p S M v c + (p - t) * M q c) % p = lo p (S ++ [q]) M v c := by
  subst ht
  unfold lo
  refine cg.e ?_
  rw [sm_app, sm_1]
  refine ((cg.m _).add (cg.r _)).t ⟨M q c, by grind⟩
theorem lo_nil (hv : Vc p n v) (c : Nat) : lo p [] M v c = v c := by
  unfold lo
  rw [show sm [] (fun q => v q * M q c) = 0 from rfl, Int.sub_zero]
  exact Int.emod_eq_of_lt (hv.1 c).1 (hv.1 c).2
end LO
/-! a row that comes -/
def adL (led : Nat → Bool) (l : Nat) : Nat → Bool := fun q => q == l || led q
def adM (p : Nat) (M : Nat → Nat → Int) (l : Nat) (w : Nat → Int) : Nat → Nat → Int := fun q c => if q = l then w c else (M q c - M q l * w c) % p
theorem ad_Rf {p n : Nat} {led : Nat → Bool} {M : Nat → Nat → Int} {w : Nat → Int} {l : Nat} (hp : 2 ≤ p) (h : Rf p n led M) (hl : led l = false) (hn : l < n) (hb : ∀ c, 0 ≤ w c ∧ w c < p) (h1 : w l = 1) (h0 : ∀ c, c < l → w c = 0) (hL : ∀ q, q < 5 → led q = true → w q = 0) (hN : ∀ c, n ≤ c → c < 5 → w c = 0) : Rf p n (adL led l) (adM p M l w) := by
  intro q hq hlq
  unfold adM
  by_cases hql : q = l
  · subst hql
    simp only [if_pos]
    refine ⟨hn, hb, h1, h0, fun r hr hlr hne => hL r hr ?_, hN⟩
    unfold adL at hlr
    simpa [hne] using hlr
  · simp only [if_neg hql]
    have hlq' : led q = true := by unfold adL at hlq; simpa [hql] using hlq
    obtain ⟨a1, a2, a3, a4, a5, a6⟩ := h q hq hlq'
    refine ⟨a1, fun c => ⟨md_0 (by omega), md_l (by omega)⟩, ?_, ?_, ?_, ?_⟩
    · rw [a3, hL q hq hlq', Int.mul_zero, Int.sub_zero]
      exact Int.emod_eq_of_lt (by decide) (by omega)
    · intro c hc
      rw [a4 c hc]
      by_cases hlq2 : l < q
      · rw [a4 l hlq2, Int.zero_mul]; rfl
      · rw [h0 c (by omega), Int.mul_zero]; rfl
    · intro r hr hlr hne
      by_cases hrl : r = l
      · subst hrl
        rw [h1, Int.mul_one, Int.sub_self]; rfl
      · have hlr' : led r = true := by unfold adL at hlr; simpa [hrl] using hlr
        rw [a5 r hr hlr' hne, hL r hr hlr', Int.mul_zero]; rfl
    · intro c hc1 hc2
      rw [a6 c hc1 hc2, hN c hc1 hc2, Int.mul_zero]; rfl
theorem rng_split : ∀ l, l < 5 → List.range 5 = List.range l ++ l :: List.range' (l + 1) (4 - l) := by decide
theorem Sl_split {led : Nat → Bool} {l : Nat} (hl : l < 5) (h : led l = false) : ∃ B, Sl led 5 = Sl led l ++ B ∧ Sl (adL led l) 5 = Sl led l ++ l :: B := by
  refine ⟨(List.range' (l + 1) (4 - l)).filter led, ?_, ?_⟩
  · unfold Sl
    rw [rng_split l hl, List.filter_append, List.filter_cons, if_neg (by simp [h])]
  · unfold Sl
    rw [rng_split l hl, List.filter_append, List.filter_cons, if_pos (by unfold adL; simp)]
    congr 1
    · apply List.filter_congr
      intro x hx
      unfold adL
      rw [List.mem_range] at hx
      rw [show (x == l) = false by simp; omega]; rfl
    · congr 1
      apply List.filter_congr
      intro x hx
      unfold adL
      rw [List.mem_range'_1] at hx
      rw [show (x == l) = false by simp; omega]; rfl
/-- the inverse -/
abbrev ivP (p v k : Nat) : Prop := 1 ≤ k ∧ k < p ∧ (k * v) % p = 1 ∧ ∀ j, j < k → 1 ≤ j → (j * v) % p ≠ 1
theorem iv_ex {p v : Nat} (hp : pp p) (h1 : 1 ≤ v) (h2 : v < p) : ∃ k, ivP p v k := by
  rcases hp with rfl | rfl | rfl | rfl
  · have : v = 1 := by omega
    subst this
    exact ⟨1, by decide⟩
  · rcases (show v = 1 ∨ v = 2 by omega) with rfl | rfl
    · exact ⟨1, by decide⟩
    · exact ⟨2, by decide⟩
  · rcases (show v = 1 ∨ v = 2 ∨ v = 3 ∨ v = 4 by omega) with rfl | rfl | rfl | rfl
    · exact ⟨1, by decide⟩
    · exact ⟨3, by decide⟩
    · exact ⟨2, by decide⟩
    · exact ⟨4, by decide⟩
  · rcases (show v = 1 ∨ v = 2 ∨ v = 3 ∨ v = 4 ∨ v = 5 ∨ v = 6 by omega) with rfl | rfl | rfl | rfl | rfl | rfl
    · exact ⟨1, by decide⟩
    · exact ⟨4, by decide⟩
    · exact ⟨5, by decide⟩
    · exact ⟨2, by decide⟩
    · exact ⟨3, by decide⟩
    · exact ⟨6, by decide⟩
/-! columns -/
def cm (n i : Nat) : Nat := if i < n then i else i - n + 5
theorem cm_l {n i : Nat} (h : i < n) : cm n i = i := if_pos h
theorem cm_b {n i : Nat} (hn : n ≤ 5) (h : i < n + 3) : cm n i < 8 := by unfold cm; split <;> omega
