/-! more rows -/
theorem zlt {a b : Nat} (h : Nat.ble (a + 1) b = true) : a < b := Nat.le_of_ble_eq_true h
def zN : Nat := 20000
def zFg : List Bool → List (Option Value) → List (Option Value)
  | b :: bs, x :: xs => (if b then x else none) :: zFg bs xs
  | [], xs => xs
  | _ :: _, [] => []
theorem zFg_len : ∀ (bs : List Bool) (xs : List (Option Value)), (zFg bs xs).length = xs.length
  | [], _ => rfl
  | _ :: _, [] => rfl
  | b :: bs, x :: xs => by
    show (zFg bs xs).length + 1 = xs.length + 1
    rw [zFg_len bs xs]
theorem zFg_at : ∀ (bs : List Bool) (xs : List (Option Value)) (i : Nat) (v : Value), (zFg bs xs)[i]? = some (some v) → xs[i]? = some (some v)
  | [], _, _, _, h => h
  | _ :: _, [], _, _, h => h
  | b :: bs, x :: xs, 0, v, h => by
    cases b with
    | true => exact h
    | false => cases h
  | b :: bs, x :: xs, i + 1, v, h => zFg_at bs xs i v h
theorem zL.forget {ls : Array Slot} {nL : Nat} {lv : List (Option Value)} (h : zL ls nL lv) (bs : List Bool) : zL ls nL (zFg bs lv) := ⟨h.1, h.2.1, fun i v q => h.2.2.1 i v (zFg_at bs lv i v q), (zFg_len bs lv).trans h.2.2.2.1, fun i v q => h.2.2.2.2 i v (zFg_at bs lv i v q)⟩
theorem zcat {vs : List Value} (h : vs.map Value.category = List.replicate vs.length 1) : ∀ v ∈ vs, v.category = 1 := by
  intro v hv
  have h1 : v.category ∈ vs.map Value.category := List.mem_map.mpr ⟨v, hv, rfl⟩
  rw [h] at h1
  exact (List.mem_replicate.mp h1).2
theorem zNarB {x : Int32} (h : x = 0 ∨ x = 1) : narrow .boolean (.int x) = .int x := by
  rcases h with rfl | rfl <;> decide
theorem zTab {x : Int32} (n : Nat) (h : ∀ j : Nat, j ≤ n → ¬ x = nI j) : x.toInt < 0 ∨ (n : Int) < x.toInt := by
  by_cases h0 : x.toInt < 0
  · exact Or.inl h0
  · refine Or.inr (Int.not_le.mp fun hle => ?_)
    obtain ⟨j, hj, hx⟩ := nI_of (x := x) (fun q => h0 (by have := Int32.lt_iff_toInt_lt.mp q; simpa using this))
    subst hx
    rw [nI_toInt hj] at hle
    exact h j (by omega) rfl
section ZR5
variable {K : zX} {α : Type} {t : α} {pc : Nat} {lv : List (Option Value)} {st : List Value} {σ : zS} {o o1 o2 : Option α} {cc : ByteArray} {own : String} {ret : Option FieldType}
theorem z_wk (bs : List Bool) {lv' : List (Option Value)} (h : zFg bs lv = lv') (kk : ZO K t pc lv' st σ o) : ZO K t pc lv st σ o := by
  subst h
  obtain ⟨p, l, e, R, s, m, args, below, meth, c, Q, g, A, nL, nc, ns⟩ := K
  intro ho H locs ls hP hS hl
  exact kk ho H locs ls hP hS (hl.forget bs)
theorem z_sp {q : Prop} [Decidable q] (kt : q → ZO K t pc lv st σ o1) (kf : ¬ q → ZO K t pc lv st σ o2) : ZO K t pc lv st σ (if q then o1 else o2) := by
  by_cases h : q
  · rw [if_pos h]; exact kt h
  · rw [if_neg h]; exact kf h
theorem z_Bi {x : Int32} {k : Int32 → Option α} (kk : ∀ y, ZO K t pc lv (.int y :: st) σ (k y)) : ZO K t pc lv (.int x :: st) σ (zB x k) := kk x
theorem z_Br {kd x : Nat} {k : Nat → Option α} (kk : ∀ y, ZO K t pc lv (.ref (zad K kd y) :: st) σ (k y)) : ZO K t pc lv (.ref (zad K kd x) :: st) σ (zB x k) := kk x
theorem z_iincB (F : zF K cc own ret) {i : Nat} {n : Int} {x v : Int32} {lv' : Int32 → List (Option Value)} {k : Int32 → Option α} (d : decode cc pc = .ok (.iinc i n, 3)) (h : lv[i]? = some (some (.int x))) (hv : x + Int32.ofInt n = v) (hs : ∀ y, lv.set i (some (.int y)) = lv' y) (kk : ∀ y, ZO K t (pc + 3) (lv' y) st σ (k y)) : ZO K t pc lv st σ (zB v k) := z_iinc F v d h hv (hs v) (kk v)
theorem z_ldcw (F : zF K cc own ret) {index : Nat} {v : Int32} (hw : Cond.constant own index v ∈ zT) (d : decode cc pc = .ok (.ldc_w index, 3)) (kk : ZO K t (pc + 3) lv (.int v :: st) σ o) : ZO K t pc lv st σ o := by
  obtain ⟨p, l, e, R, s, m, args, below, meth, c, Q, g, A, nL, nc, ns⟩ := K
  intro ho H locs ls hP hS hl
  exact lv_ldcw F.1 F.2.1 F.2.2.2.1 (F.2.2.2.2.1 _ hw) d (kk ho H locs ls hP hS hl)
theorem z_astore_nN (F : zF K cc own ret) {k : Fin 4} {lv' : List (Option Value)} (d : decode cc pc = .ok (.astore_n k, 1)) (hn : (k : Nat) < lv.length) (hs : lv.set (k : Nat) (some .null) = lv') (kk : ZO K t (pc + 1) lv' st σ o) : ZO K t pc lv (.null :: st) σ o := by
  obtain ⟨p, l, e, R, s, m, args, below, meth, c, Q, g, A, nL, nc, ns⟩ := K
  intro ho H locs ls hP hS hl
  exact lv_astore_nN F.1 F.2.1 d rfl hl.has (by rw [← hl.2.2.2.1]; exact hn) rfl (fun ls' h' => kk ho H locs ls' hP hS (hl.store rfl (by rw [← hl.2.2.2.1]; exact hn) hs h'))
theorem z_astoreN (F : zF K cc own ret) {i : Nat} {lv' : List (Option Value)} (d : decode cc pc = .ok (.astore i, 2)) (hn : i < lv.length) (hs : lv.set i (some .null) = lv') (kk : ZO K t (pc + 2) lv' st σ o) : ZO K t pc lv (.null :: st) σ o := by
  obtain ⟨p, l, e, R, s, m, args, below, meth, c, Q, g, A, nL, nc, ns⟩ := K
  intro ho H locs ls hP hS hl
  exact lv_astoreN F.1 F.2.1 d hl.has (by rw [← hl.2.2.2.1]; exact hn) rfl (fun ls' h' => kk ho H locs ls' hP hS (hl.store rfl (by rw [← hl.2.2.2.1]; exact hn) hs h'))
end ZR5
