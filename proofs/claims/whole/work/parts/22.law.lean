/-! the law: its script, a call whose answer is known, its end -/
def zScr (K : zX) (b L : Nat) (xs : Nat → Int32) : Prop := match K with
  | (_, _, _, _, s, _, _, _, _, _, _, _, A, _, _, _) => va_X b L xs s s.heap ∧ b < s.heap.size ∧ ¬ A b
theorem z_eq1 {K : zX} {α : Type} {t : α} {pc : Nat} {lv : List (Option Value)} {st : List Value} {σ : zS} {o o' : Option α} (h : o = o') (kk : ZO K t pc lv st σ o) : ZO K t pc lv st σ o' := h ▸ kk
theorem z_sld {K : zX} {α : Type} {t : α} {pc : Nat} {lv : List (Option Value)} {st : List Value} {σ : zS} {o : Option α} {cc : ByteArray} {own : String} {ret : Option FieldType} (F : zF K cc own ret) {b L : Nat} {xs : Nat → Int32} (S : zScr K b L xs) {i : Int32} (hin : vp_in i L) (d : decode cc pc = .ok (.iaload, 1)) (kk : ZO K t (pc + 1) lv (.int (xs i.toNatClampNeg) :: st) σ o) : ZO K t pc lv (.int i :: .ref b :: st) σ o := by
  obtain ⟨p, l, e, R, s, m, args, below, meth, c, Q, g, A, nL, nc, ns⟩ := K
  intro ho H locs ls hP hS hl
  exact va_sld F.1 F.2.1 S.1 S.2.1 S.2.2 hS hin d (kk ho H locs ls hP hS hl)
theorem z_slen {K : zX} {α : Type} {t : α} {pc : Nat} {lv : List (Option Value)} {st : List Value} {σ : zS} {o : Option α} {cc : ByteArray} {own : String} {ret : Option FieldType} (F : zF K cc own ret) {b L : Nat} {xs : Nat → Int32} (S : zScr K b L xs) (d : decode cc pc = .ok (.arraylength, 1)) (kk : ZO K t (pc + 1) lv (.int (nI L) :: st) σ o) : ZO K t pc lv (.ref b :: st) σ o := by
  obtain ⟨p, l, e, R, s, m, args, below, meth, c, Q, g, A, nL, nc, ns⟩ := K
  intro ho H locs ls hP hS hl
  exact va_slen F.1 F.2.1 S.1 S.2.1 S.2.2 hS d (kk ho H locs ls hP hS hl)
theorem z_sldn {K : zX} {α : Type} {t : α} {pc : Nat} {lv : List (Option Value)} {st : List Value} {σ : zS} {o : Option α} {cc : ByteArray} {own : String} {ret : Option FieldType} (F : zF K cc own ret) {b L : Nat} {xs : Nat → Int32} (S : zScr K b L xs) (n j : Nat) {x : Int32} (hx : x = nI j) (hj : n + j < L) (hL : L ≤ 2560) (d : decode cc pc = .ok (.iaload, 1)) (kk : ZO K t (pc + 1) lv (.int (xs (n + j)) :: st) σ o) : ZO K t pc lv (.int (nI n + x) :: .ref b :: st) σ o := by
  subst hx
  have h1 : nI n + nI j = nI (n + j) := nI_add n j
  rw [h1]
  refine z_sld F S (vp_in_nI hj (by omega)) d ?_
  rw [nI_clamp (by omega)]
  exact kk
theorem z_callE {K : zX} {α : Type} {t : α} {pc : Nat} {lv : List (Option Value)} {st st0 : List Value} {σ : zS} {cc cy : ByteArray} {own : String} {ret rty : Option FieldType} {y : MethodName} {index maxL n ci N : Nat} {T : u_T} {rm : Room} {av : (Nat → Nat → Nat) → List Value} {oc : Option (Int32 × zS)} {o : Option α} {r : Int32} {σ1 : zS} (F : zF K cc own ret) (k i : Nat) (As : List Value) (hL : zLkV own index y cy maxL rty n) (hM : zMi (zln K) y cy maxL rty rm av σ oc) (hav : av (zad K) = .ref (zad K k i) :: As) (hi : i < zLim k) (hc : ∀ g, ∃ fs, zC g (σ k i) k i = .inr (ci, fs)) (hcl : vwCl[ci]? = some (y.cls, T, N)) (hrm : rm.cells = 0 ∧ rm.slots = 0 ∧ rm.frames + 1 ≤ (zrm K).frames ∧ 8 + (maxL + 11) + rm.locals ≤ (zrm K).locals) (hn : As.length = n) (hst : st0 = As.reverse ++ .ref (zad K k i) :: st) (hW : (st.map fun v => v.category).sum ≤ 8) (d : decode cc pc = .ok (.invokevirtual index, 3)) (hoc : oc = some (r, σ1)) (kk : ZO K t (pc + 3) lv (.int r :: st) σ1 o) : ZO K t pc lv st0 σ o := by
  have h := z_callVi (ok := fun r' σ' => @ite _ (r' = r ∧ σ' = σ1) (Classical.propDecidable _) o none) F k i As hL hM hav hi hc hcl hrm hn hst hW d (fun r' σ' => by
    by_cases q : r' = r ∧ σ' = σ1
    · rw [if_pos q, q.1, q.2]; exact kk
    · rw [if_neg q]; exact z_none)
  rw [hoc] at h
  have h2 : zCi (some (r, σ1)) (fun r' σ' => @ite _ (r' = r ∧ σ' = σ1) (Classical.propDecidable _) o none) = o := by
    show @ite _ (r = r ∧ σ1 = σ1) (Classical.propDecidable _) o none = o
    rw [if_pos ⟨rfl, rfl⟩]
  rw [h2] at h
  exact h
theorem z_callEs {K : zX} {α : Type} {t : α} {pc : Nat} {lv : List (Option Value)} {st st0 : List Value} {σ : zS} {cc cy : ByteArray} {own : String} {ret rty : Option FieldType} {y : MethodName} {index maxL n ci N : Nat} {T : u_T} {rm : Room} {av : (Nat → Nat → Nat) → List Value} {oc : Option (Int32 × zS)} {o : Option α} {r : Int32} {σ1 : zS} (F : zF K cc own ret) (St : zStr K) (k i : Nat) (As : List Value) (hL : zLkV own index y cy maxL rty n) (hM : zMs (zln K) y cy maxL rty rm av σ oc) (hav : av (zad K) = .ref (zad K k i) :: As) (hi : i < zLim k) (hc : ∀ g, ∃ fs, zC g (σ k i) k i = .inr (ci, fs)) (hcl : vwCl[ci]? = some (y.cls, T, N)) (hrm : rm.cells = 0 ∧ rm.slots = 0 ∧ rm.frames + 1 ≤ (zrm K).frames ∧ 8 + (maxL + 11) + rm.locals ≤ (zrm K).locals) (hn : As.length = n) (hst : st0 = As.reverse ++ .ref (zad K k i) :: st) (hW : (st.map fun v => v.category).sum ≤ 8) (d : decode cc pc = .ok (.invokevirtual index, 3)) (hoc : oc = some (r, σ1)) (kk : ZO K t (pc + 3) lv (.int r :: st) σ1 o) : ZO K t pc lv st0 σ o := by
  have h := z_callVsi (ok := fun r' σ' => @ite _ (r' = r ∧ σ' = σ1) (Classical.propDecidable _) o none) F St k i As hL hM hav hi hc hcl hrm hn hst hW d (fun r' σ' => by
    by_cases q : r' = r ∧ σ' = σ1
    · rw [if_pos q, q.1, q.2]; exact kk
    · rw [if_neg q]; exact z_none)
  rw [hoc] at h
  have h2 : zCi (some (r, σ1)) (fun r' σ' => @ite _ (r' = r ∧ σ' = σ1) (Classical.propDecidable _) o none) = o := by
    show @ite _ (r = r ∧ σ1 = σ1) (Classical.propDecidable _) o none = o
    rw [if_pos ⟨rfl, rfl⟩]
  rw [h2] at h
  exact h
theorem cl_RL_13 : zLkV RL 13 yX8_letter cX8_letter 3 (some .int) 2 := zLkV.mk (zTin (zm1 (List.mem_of_getElem? (i := 214) rfl)) rfl) (zTin (zm1 (List.mem_of_getElem? (i := 215) rfl)) rfl) (zTin (zm1 (List.mem_of_getElem? (i := 216) rfl)) rfl) (zTin (zm1 (List.mem_of_getElem? (i := 1) rfl)) rfl) (zTin (zm1 (List.mem_of_getElem? (i := 217) rfl)) rfl) (by decide +kernel)
theorem cl_RL_17 : zLkV RL 17 yX9_letter cX9_letter 4 (some .int) 2 := zLkV.mk (zTin (zm4 (List.mem_of_getElem? (i := 14) rfl)) rfl) (zTin (zm4 (List.mem_of_getElem? (i := 15) rfl)) rfl) (zTin (zm4 (List.mem_of_getElem? (i := 16) rfl)) rfl) (zTin (zm1 (List.mem_of_getElem? (i := 10) rfl)) rfl) (zTin (zm4 (List.mem_of_getElem? (i := 17) rfl)) rfl) (by decide +kernel)
theorem cl_RL_18 : zLkV RL 18 yX8_drop cX8_drop 2 (some .int) 1 := zLkV.mk (zTin (zm1 (List.mem_of_getElem? (i := 226) rfl)) rfl) (zTin (zm1 (List.mem_of_getElem? (i := 227) rfl)) rfl) (zTin (zm1 (List.mem_of_getElem? (i := 228) rfl)) rfl) (zTin (zm1 (List.mem_of_getElem? (i := 1) rfl)) rfl) (zTin (zm1 (List.mem_of_getElem? (i := 229) rfl)) rfl) (by decide +kernel)
theorem cl_RL_22 : zLkV RL 22 yX9_drop cX9_drop 3 (some .int) 1 := zLkV.mk (zTin (zm4 (List.mem_of_getElem? (i := 21) rfl)) rfl) (zTin (zm4 (List.mem_of_getElem? (i := 22) rfl)) rfl) (zTin (zm4 (List.mem_of_getElem? (i := 23) rfl)) rfl) (zTin (zm1 (List.mem_of_getElem? (i := 10) rfl)) rfl) (zTin (zm4 (List.mem_of_getElem? (i := 24) rfl)) rfl) (by decide +kernel)
theorem cl_RL_23 : zLkV RL 23 yX8_has cX8_has 5 (some .int) 3 := zLkV.mk (zTin (zm2 (List.mem_of_getElem? (i := 3) rfl)) rfl) (zTin (zm2 (List.mem_of_getElem? (i := 4) rfl)) rfl) (zTin (zm2 (List.mem_of_getElem? (i := 5) rfl)) rfl) (zTin (zm1 (List.mem_of_getElem? (i := 1) rfl)) rfl) (zTin (zm2 (List.mem_of_getElem? (i := 6) rfl)) rfl) (by decide +kernel)
theorem cl_RL_27 : zLkV RL 27 yX9_has cX9_has 5 (some .int) 3 := zLkV.mk (zTin (zm4 (List.mem_of_getElem? (i := 36) rfl)) rfl) (zTin (zm4 (List.mem_of_getElem? (i := 37) rfl)) rfl) (zTin (zm4 (List.mem_of_getElem? (i := 38) rfl)) rfl) (zTin (zm1 (List.mem_of_getElem? (i := 10) rfl)) rfl) (zTin (zm4 (List.mem_of_getElem? (i := 39) rfl)) rfl) (by decide +kernel)
theorem cl_RL_28 : zLkV RL 28 yX8_want cX8_want 3 (some .int) 2 := zLkV.mk (zTin (zm2 (List.mem_of_getElem? (i := 27) rfl)) rfl) (zTin (zm2 (List.mem_of_getElem? (i := 28) rfl)) rfl) (zTin (zm2 (List.mem_of_getElem? (i := 29) rfl)) rfl) (zTin (zm1 (List.mem_of_getElem? (i := 1) rfl)) rfl) (zTin (zm2 (List.mem_of_getElem? (i := 30) rfl)) rfl) (by decide +kernel)
theorem cl_RL_31 : zLkV RL 31 yX9_want cX9_want 3 (some .int) 2 := zLkV.mk (zTin (zm4 (List.mem_of_getElem? (i := 43) rfl)) rfl) (zTin (zm4 (List.mem_of_getElem? (i := 44) rfl)) rfl) (zTin (zm4 (List.mem_of_getElem? (i := 45) rfl)) rfl) (zTin (zm1 (List.mem_of_getElem? (i := 10) rfl)) rfl) (zTin (zm4 (List.mem_of_getElem? (i := 46) rfl)) rfl) (by decide +kernel)
theorem cl_RL_32 : zLkV RL 32 yX8_air cX8_air 3 (some .int) 1 := zLkV.mk (zTin (zm2 (List.mem_of_getElem? (i := 36) rfl)) rfl) (zTin (zm2 (List.mem_of_getElem? (i := 37) rfl)) rfl) (zTin (zm2 (List.mem_of_getElem? (i := 38) rfl)) rfl) (zTin (zm1 (List.mem_of_getElem? (i := 1) rfl)) rfl) (zTin (zm2 (List.mem_of_getElem? (i := 39) rfl)) rfl) (by decide +kernel)
theorem cl_RL_35 : zLkV RL 35 yX9_air cX9_air 3 (some .int) 1 := zLkV.mk (zTin (zm4 (List.mem_of_getElem? (i := 51) rfl)) rfl) (zTin (zm4 (List.mem_of_getElem? (i := 52) rfl)) rfl) (zTin (zm4 (List.mem_of_getElem? (i := 53) rfl)) rfl) (zTin (zm1 (List.mem_of_getElem? (i := 10) rfl)) rfl) (zTin (zm4 (List.mem_of_getElem? (i := 54) rfl)) rfl) (by decide +kernel)
theorem cl_RL_36 : zLkV RL 36 yX8_most cX8_most 3 (some .int) 1 := zLkV.mk (zTin (zm2 (List.mem_of_getElem? (i := 40) rfl)) rfl) (zTin (zm2 (List.mem_of_getElem? (i := 41) rfl)) rfl) (zTin (zm2 (List.mem_of_getElem? (i := 42) rfl)) rfl) (zTin (zm1 (List.mem_of_getElem? (i := 1) rfl)) rfl) (zTin (zm2 (List.mem_of_getElem? (i := 43) rfl)) rfl) (by decide +kernel)
theorem cl_RL_39 : zLkV RL 39 yX9_most cX9_most 3 (some .int) 1 := zLkV.mk (zTin (zm4 (List.mem_of_getElem? (i := 55) rfl)) rfl) (zTin (zm4 (List.mem_of_getElem? (i := 56) rfl)) rfl) (zTin (zm4 (List.mem_of_getElem? (i := 57) rfl)) rfl) (zTin (zm1 (List.mem_of_getElem? (i := 10) rfl)) rfl) (zTin (zm4 (List.mem_of_getElem? (i := 58) rfl)) rfl) (by decide +kernel)
theorem cl_RL_40 : zLkV RL 40 yX8_anew cX8_anew 2 (some .int) 0 := zLkV.mk (zTin (zm2 (List.mem_of_getElem? (i := 44) rfl)) rfl) (zTin (zm2 (List.mem_of_getElem? (i := 45) rfl)) rfl) (zTin (zm2 (List.mem_of_getElem? (i := 46) rfl)) rfl) (zTin (zm1 (List.mem_of_getElem? (i := 1) rfl)) rfl) (zTin (zm2 (List.mem_of_getElem? (i := 47) rfl)) rfl) (by decide +kernel)
theorem cl_RL_44 : zLkV RL 44 yX9_anew cX9_anew 3 (some .int) 0 := zLkV.mk (zTin (zm4 (List.mem_of_getElem? (i := 59) rfl)) rfl) (zTin (zm4 (List.mem_of_getElem? (i := 60) rfl)) rfl) (zTin (zm4 (List.mem_of_getElem? (i := 61) rfl)) rfl) (zTin (zm1 (List.mem_of_getElem? (i := 10) rfl)) rfl) (zTin (zm4 (List.mem_of_getElem? (i := 62) rfl)) rfl) (by decide +kernel)
theorem cl_RL_45 : zLkV RL 45 yX8_entry cX8_entry 3 (some .int) 2 := zLkV.mk (zTin (zm2 (List.mem_of_getElem? (i := 52) rfl)) rfl) (zTin (zm2 (List.mem_of_getElem? (i := 53) rfl)) rfl) (zTin (zm2 (List.mem_of_getElem? (i := 54) rfl)) rfl) (zTin (zm1 (List.mem_of_getElem? (i := 1) rfl)) rfl) (zTin (zm2 (List.mem_of_getElem? (i := 55) rfl)) rfl) (by decide +kernel)
theorem cl_RL_48 : zLkV RL 48 yX9_entry cX9_entry 3 (some .int) 2 := zLkV.mk (zTin (zm4 (List.mem_of_getElem? (i := 63) rfl)) rfl) (zTin (zm4 (List.mem_of_getElem? (i := 64) rfl)) rfl) (zTin (zm4 (List.mem_of_getElem? (i := 65) rfl)) rfl) (zTin (zm1 (List.mem_of_getElem? (i := 10) rfl)) rfl) (zTin (zm4 (List.mem_of_getElem? (i := 66) rfl)) rfl) (by decide +kernel)
theorem cl_RL_49 : zLkV RL 49 yX8_having cX8_having 2 (some .int) 1 := zLkV.mk (zTin (zm2 (List.mem_of_getElem? (i := 56) rfl)) rfl) (zTin (zm2 (List.mem_of_getElem? (i := 57) rfl)) rfl) (zTin (zm2 (List.mem_of_getElem? (i := 58) rfl)) rfl) (zTin (zm1 (List.mem_of_getElem? (i := 1) rfl)) rfl) (zTin (zm2 (List.mem_of_getElem? (i := 59) rfl)) rfl) (by decide +kernel)
theorem cl_RL_52 : zLkV RL 52 yX9_having cX9_having 2 (some .int) 1 := zLkV.mk (zTin (zm4 (List.mem_of_getElem? (i := 67) rfl)) rfl) (zTin (zm4 (List.mem_of_getElem? (i := 68) rfl)) rfl) (zTin (zm4 (List.mem_of_getElem? (i := 69) rfl)) rfl) (zTin (zm1 (List.mem_of_getElem? (i := 10) rfl)) rfl) (zTin (zm4 (List.mem_of_getElem? (i := 70) rfl)) rfl) (by decide +kernel)
theorem cl_RL_53 : zLkV RL 53 yX8_reads cX8_reads 3 (some .int) 2 := zLkV.mk (zTin (zm2 (List.mem_of_getElem? (i := 60) rfl)) rfl) (zTin (zm2 (List.mem_of_getElem? (i := 61) rfl)) rfl) (zTin (zm2 (List.mem_of_getElem? (i := 62) rfl)) rfl) (zTin (zm1 (List.mem_of_getElem? (i := 1) rfl)) rfl) (zTin (zm2 (List.mem_of_getElem? (i := 63) rfl)) rfl) (by decide +kernel)
theorem cl_RL_56 : zLkV RL 56 yX9_reads cX9_reads 3 (some .int) 2 := zLkV.mk (zTin (zm4 (List.mem_of_getElem? (i := 71) rfl)) rfl) (zTin (zm4 (List.mem_of_getElem? (i := 72) rfl)) rfl) (zTin (zm4 (List.mem_of_getElem? (i := 73) rfl)) rfl) (zTin (zm1 (List.mem_of_getElem? (i := 10) rfl)) rfl) (zTin (zm4 (List.mem_of_getElem? (i := 74) rfl)) rfl) (by decide +kernel)
theorem cl_RL_57 : zLkV RL 57 yX8_sum cX8_sum 3 (some .int) 2 := zLkV.mk (zTin (zm2 (List.mem_of_getElem? (i := 78) rfl)) rfl) (zTin (zm2 (List.mem_of_getElem? (i := 79) rfl)) rfl) (zTin (zm2 (List.mem_of_getElem? (i := 80) rfl)) rfl) (zTin (zm1 (List.mem_of_getElem? (i := 1) rfl)) rfl) (zTin (zm2 (List.mem_of_getElem? (i := 81) rfl)) rfl) (by decide +kernel)
theorem cl_RL_60 : zLkV RL 60 yX9_sum cX9_sum 3 (some .int) 2 := zLkV.mk (zTin (zm4 (List.mem_of_getElem? (i := 86) rfl)) rfl) (zTin (zm4 (List.mem_of_getElem? (i := 87) rfl)) rfl) (zTin (zm4 (List.mem_of_getElem? (i := 88) rfl)) rfl) (zTin (zm1 (List.mem_of_getElem? (i := 10) rfl)) rfl) (zTin (zm4 (List.mem_of_getElem? (i := 89) rfl)) rfl) (by decide +kernel)
theorem cl_RL_61 : zLkV RL 61 yX8_best cX8_best 1 (some .int) 0 := zLkV.mk (zTin (zm2 (List.mem_of_getElem? (i := 99) rfl)) rfl) (zTin (zm2 (List.mem_of_getElem? (i := 100) rfl)) rfl) (zTin (zm2 (List.mem_of_getElem? (i := 101) rfl)) rfl) (zTin (zm1 (List.mem_of_getElem? (i := 1) rfl)) rfl) (zTin (zm2 (List.mem_of_getElem? (i := 102) rfl)) rfl) (by decide +kernel)
theorem cl_RL_64 : zLkV RL 64 yX9_best cX9_best 1 (some .int) 0 := zLkV.mk (zTin (zm4 (List.mem_of_getElem? (i := 106) rfl)) rfl) (zTin (zm4 (List.mem_of_getElem? (i := 107) rfl)) rfl) (zTin (zm4 (List.mem_of_getElem? (i := 108) rfl)) rfl) (zTin (zm1 (List.mem_of_getElem? (i := 10) rfl)) rfl) (zTin (zm4 (List.mem_of_getElem? (i := 109) rfl)) rfl) (by decide +kernel)
theorem cl_RL_65 : zLkV RL 65 yX8_send cX8_send 2 (some .int) 1 := zLkV.mk (zTin (zm2 (List.mem_of_getElem? (i := 112) rfl)) rfl) (zTin (zm2 (List.mem_of_getElem? (i := 113) rfl)) rfl) (zTin (zm2 (List.mem_of_getElem? (i := 114) rfl)) rfl) (zTin (zm1 (List.mem_of_getElem? (i := 1) rfl)) rfl) (zTin (zm2 (List.mem_of_getElem? (i := 115) rfl)) rfl) (by decide +kernel)
theorem cl_RL_68 : zLkV RL 68 yX9_send cX9_send 2 (some .int) 1 := zLkV.mk (zTin (zm4 (List.mem_of_getElem? (i := 118) rfl)) rfl) (zTin (zm4 (List.mem_of_getElem? (i := 119) rfl)) rfl) (zTin (zm4 (List.mem_of_getElem? (i := 120) rfl)) rfl) (zTin (zm1 (List.mem_of_getElem? (i := 10) rfl)) rfl) (zTin (zm4 (List.mem_of_getElem? (i := 121) rfl)) rfl) (by decide +kernel)
theorem cl_RL_69 : zLkV RL 69 yX8_serve cX8_serve 4 (some .int) 1 := zLkV.mk (zTin (zm2 (List.mem_of_getElem? (i := 121) rfl)) rfl) (zTin (zm2 (List.mem_of_getElem? (i := 122) rfl)) rfl) (zTin (zm2 (List.mem_of_getElem? (i := 123) rfl)) rfl) (zTin (zm1 (List.mem_of_getElem? (i := 1) rfl)) rfl) (zTin (zm2 (List.mem_of_getElem? (i := 124) rfl)) rfl) (by decide +kernel)
theorem cl_RL_72 : zLkV RL 72 yX9_serve cX9_serve 4 (some .int) 1 := zLkV.mk (zTin (zm4 (List.mem_of_getElem? (i := 126) rfl)) rfl) (zTin (zm4 (List.mem_of_getElem? (i := 127) rfl)) rfl) (zTin (zm4 (List.mem_of_getElem? (i := 128) rfl)) rfl) (zTin (zm1 (List.mem_of_getElem? (i := 10) rfl)) rfl) (zTin (zm4 (List.mem_of_getElem? (i := 129) rfl)) rfl) (by decide +kernel)
theorem cl_RL_73 : zLkV RL 73 yX8_key cX8_key 2 (some .int) 1 := zLkV.mk (zTin (zm2 (List.mem_of_getElem? (i := 125) rfl)) rfl) (zTin (zm2 (List.mem_of_getElem? (i := 126) rfl)) rfl) (zTin (zm2 (List.mem_of_getElem? (i := 127) rfl)) rfl) (zTin (zm1 (List.mem_of_getElem? (i := 1) rfl)) rfl) (zTin (zm2 (List.mem_of_getElem? (i := 128) rfl)) rfl) (by decide +kernel)
theorem cl_RL_76 : zLkV RL 76 yX9_key cX9_key 2 (some .int) 1 := zLkV.mk (zTin (zm4 (List.mem_of_getElem? (i := 130) rfl)) rfl) (zTin (zm4 (List.mem_of_getElem? (i := 131) rfl)) rfl) (zTin (zm4 (List.mem_of_getElem? (i := 132) rfl)) rfl) (zTin (zm1 (List.mem_of_getElem? (i := 10) rfl)) rfl) (zTin (zm4 (List.mem_of_getElem? (i := 133) rfl)) rfl) (by decide +kernel)
theorem cl_RL_77 : zLkV RL 77 yX8_wipe cX8_wipe 2 (some .int) 0 := zLkV.mk (zTin (zm2 (List.mem_of_getElem? (i := 133) rfl)) rfl) (zTin (zm2 (List.mem_of_getElem? (i := 134) rfl)) rfl) (zTin (zm2 (List.mem_of_getElem? (i := 135) rfl)) rfl) (zTin (zm1 (List.mem_of_getElem? (i := 1) rfl)) rfl) (zTin (zm2 (List.mem_of_getElem? (i := 136) rfl)) rfl) (by decide +kernel)
theorem cl_RL_80 : zLkV RL 80 yX9_wipe cX9_wipe 2 (some .int) 0 := zLkV.mk (zTin (zm4 (List.mem_of_getElem? (i := 134) rfl)) rfl) (zTin (zm4 (List.mem_of_getElem? (i := 135) rfl)) rfl) (zTin (zm4 (List.mem_of_getElem? (i := 136) rfl)) rfl) (zTin (zm1 (List.mem_of_getElem? (i := 10) rfl)) rfl) (zTin (zm4 (List.mem_of_getElem? (i := 137) rfl)) rfl) (by decide +kernel)
theorem cl_RL_81 : zLkV RL 81 yX8_word cX8_word 2 (some .int) 0 := zLkV.mk (zTin (zm2 (List.mem_of_getElem? (i := 137) rfl)) rfl) (zTin (zm2 (List.mem_of_getElem? (i := 138) rfl)) rfl) (zTin (zm2 (List.mem_of_getElem? (i := 139) rfl)) rfl) (zTin (zm1 (List.mem_of_getElem? (i := 1) rfl)) rfl) (zTin (zm2 (List.mem_of_getElem? (i := 140) rfl)) rfl) (by decide +kernel)
theorem cl_RL_84 : zLkV RL 84 yX9_word cX9_word 2 (some .int) 0 := zLkV.mk (zTin (zm4 (List.mem_of_getElem? (i := 138) rfl)) rfl) (zTin (zm4 (List.mem_of_getElem? (i := 139) rfl)) rfl) (zTin (zm4 (List.mem_of_getElem? (i := 140) rfl)) rfl) (zTin (zm1 (List.mem_of_getElem? (i := 10) rfl)) rfl) (zTin (zm4 (List.mem_of_getElem? (i := 141) rfl)) rfl) (by decide +kernel)
theorem cl_RL_85 : zLkV RL 85 yX8_open cX8_open 3 (some .int) 2 := zLkV.mk (zTin (zm2 (List.mem_of_getElem? (i := 206) rfl)) rfl) (zTin (zm2 (List.mem_of_getElem? (i := 207) rfl)) rfl) (zTin (zm2 (List.mem_of_getElem? (i := 208) rfl)) rfl) (zTin (zm1 (List.mem_of_getElem? (i := 1) rfl)) rfl) (zTin (zm2 (List.mem_of_getElem? (i := 209) rfl)) rfl) (by decide +kernel)
theorem cl_RL_88 : zLkV RL 88 yX9_open cX9_open 7 (some .int) 2 := zLkV.mk (zTin (zm4 (List.mem_of_getElem? (i := 146) rfl)) rfl) (zTin (zm4 (List.mem_of_getElem? (i := 147) rfl)) rfl) (zTin (zm4 (List.mem_of_getElem? (i := 148) rfl)) rfl) (zTin (zm1 (List.mem_of_getElem? (i := 10) rfl)) rfl) (zTin (zm4 (List.mem_of_getElem? (i := 149) rfl)) rfl) (by decide +kernel)
theorem cl_RL_89 : zLkV RL 89 yX8_rank cX8_rank 4 (some .int) 2 := zLkV.mk (zTin (zm3 (List.mem_of_getElem? (i := 14) rfl)) rfl) (zTin (zm3 (List.mem_of_getElem? (i := 15) rfl)) rfl) (zTin (zm3 (List.mem_of_getElem? (i := 16) rfl)) rfl) (zTin (zm1 (List.mem_of_getElem? (i := 1) rfl)) rfl) (zTin (zm3 (List.mem_of_getElem? (i := 17) rfl)) rfl) (by decide +kernel)
theorem cl_RL_92 : zLkV RL 92 yX9_rank cX9_rank 4 (some .int) 2 := zLkV.mk (zTin (zm4 (List.mem_of_getElem? (i := 153) rfl)) rfl) (zTin (zm4 (List.mem_of_getElem? (i := 154) rfl)) rfl) (zTin (zm4 (List.mem_of_getElem? (i := 155) rfl)) rfl) (zTin (zm1 (List.mem_of_getElem? (i := 10) rfl)) rfl) (zTin (zm4 (List.mem_of_getElem? (i := 156) rfl)) rfl) (by decide +kernel)
theorem cl_RL_93 : zLkV RL 93 yX8_row cX8_row 8 (some .int) 4 := zLkV.mk (zTin (zm3 (List.mem_of_getElem? (i := 30) rfl)) rfl) (zTin (zm3 (List.mem_of_getElem? (i := 31) rfl)) rfl) (zTin (zm3 (List.mem_of_getElem? (i := 32) rfl)) rfl) (zTin (zm1 (List.mem_of_getElem? (i := 1) rfl)) rfl) (zTin (zm3 (List.mem_of_getElem? (i := 33) rfl)) rfl) (by decide +kernel)
theorem cl_RL_97 : zLkV RL 97 yX9_row cX9_row 6 (some .int) 4 := zLkV.mk (zTin (zm4 (List.mem_of_getElem? (i := 168) rfl)) rfl) (zTin (zm4 (List.mem_of_getElem? (i := 169) rfl)) rfl) (zTin (zm4 (List.mem_of_getElem? (i := 170) rfl)) rfl) (zTin (zm1 (List.mem_of_getElem? (i := 10) rfl)) rfl) (zTin (zm4 (List.mem_of_getElem? (i := 171) rfl)) rfl) (by decide +kernel)
theorem cl_RL_98 : zLkV RL 98 yX8_read cX8_read 7 (some .int) 4 := zLkV.mk (zTin (zm3 (List.mem_of_getElem? (i := 43) rfl)) rfl) (zTin (zm3 (List.mem_of_getElem? (i := 44) rfl)) rfl) (zTin (zm3 (List.mem_of_getElem? (i := 45) rfl)) rfl) (zTin (zm1 (List.mem_of_getElem? (i := 1) rfl)) rfl) (zTin (zm3 (List.mem_of_getElem? (i := 46) rfl)) rfl) (by decide +kernel)
theorem cl_RL_101 : zLkV RL 101 yX9_read cX9_read 7 (some .int) 4 := zLkV.mk (zTin (zm4 (List.mem_of_getElem? (i := 172) rfl)) rfl) (zTin (zm4 (List.mem_of_getElem? (i := 173) rfl)) rfl) (zTin (zm4 (List.mem_of_getElem? (i := 174) rfl)) rfl) (zTin (zm1 (List.mem_of_getElem? (i := 10) rfl)) rfl) (zTin (zm4 (List.mem_of_getElem? (i := 175) rfl)) rfl) (by decide +kernel)
theorem cl_RL_102 : zLkV RL 102 yX8_mix cX8_mix 7 (some .int) 4 := zLkV.mk (zTin (zm3 (List.mem_of_getElem? (i := 51) rfl)) rfl) (zTin (zm3 (List.mem_of_getElem? (i := 52) rfl)) rfl) (zTin (zm3 (List.mem_of_getElem? (i := 53) rfl)) rfl) (zTin (zm1 (List.mem_of_getElem? (i := 1) rfl)) rfl) (zTin (zm3 (List.mem_of_getElem? (i := 54) rfl)) rfl) (by decide +kernel)
theorem cl_RL_105 : zLkV RL 105 yX9_mix cX9_mix 7 (some .int) 4 := zLkV.mk (zTin (zm4 (List.mem_of_getElem? (i := 180) rfl)) rfl) (zTin (zm4 (List.mem_of_getElem? (i := 181) rfl)) rfl) (zTin (zm4 (List.mem_of_getElem? (i := 182) rfl)) rfl) (zTin (zm1 (List.mem_of_getElem? (i := 10) rfl)) rfl) (zTin (zm4 (List.mem_of_getElem? (i := 183) rfl)) rfl) (by decide +kernel)
theorem cl_RL_106 : zLkV RL 106 yX8_draw cX8_draw 7 (some .int) 3 := zLkV.mk (zTin (zm3 (List.mem_of_getElem? (i := 67) rfl)) rfl) (zTin (zm3 (List.mem_of_getElem? (i := 68) rfl)) rfl) (zTin (zm3 (List.mem_of_getElem? (i := 69) rfl)) rfl) (zTin (zm1 (List.mem_of_getElem? (i := 1) rfl)) rfl) (zTin (zm3 (List.mem_of_getElem? (i := 70) rfl)) rfl) (by decide +kernel)
theorem cl_RL_109 : zLkV RL 109 yX9_draw cX9_draw 7 (some .int) 3 := zLkV.mk (zTin (zm4 (List.mem_of_getElem? (i := 208) rfl)) rfl) (zTin (zm4 (List.mem_of_getElem? (i := 209) rfl)) rfl) (zTin (zm4 (List.mem_of_getElem? (i := 210) rfl)) rfl) (zTin (zm1 (List.mem_of_getElem? (i := 10) rfl)) rfl) (zTin (zm4 (List.mem_of_getElem? (i := 211) rfl)) rfl) (by decide +kernel)
theorem cl_RL_110 : zLkV RL 110 yX8_fresh cX8_fresh 6 (some .int) 3 := zLkV.mk (zTin (zm3 (List.mem_of_getElem? (i := 76) rfl)) rfl) (zTin (zm3 (List.mem_of_getElem? (i := 77) rfl)) rfl) (zTin (zm3 (List.mem_of_getElem? (i := 78) rfl)) rfl) (zTin (zm1 (List.mem_of_getElem? (i := 1) rfl)) rfl) (zTin (zm3 (List.mem_of_getElem? (i := 79) rfl)) rfl) (by decide +kernel)
theorem cl_RL_113 : zLkV RL 113 yX9_fresh cX9_fresh 5 (some .int) 3 := zLkV.mk (zTin (zm4 (List.mem_of_getElem? (i := 213) rfl)) rfl) (zTin (zm4 (List.mem_of_getElem? (i := 214) rfl)) rfl) (zTin (zm4 (List.mem_of_getElem? (i := 215) rfl)) rfl) (zTin (zm1 (List.mem_of_getElem? (i := 10) rfl)) rfl) (zTin (zm4 (List.mem_of_getElem? (i := 216) rfl)) rfl) (by decide +kernel)
theorem cl_RL_114 : zLkV RL 114 yX8_forAll cX8_forAll 4 (some .int) 2 := zLkV.mk (zTin (zm3 (List.mem_of_getElem? (i := 85) rfl)) rfl) (zTin (zm3 (List.mem_of_getElem? (i := 86) rfl)) rfl) (zTin (zm3 (List.mem_of_getElem? (i := 87) rfl)) rfl) (zTin (zm1 (List.mem_of_getElem? (i := 1) rfl)) rfl) (zTin (zm3 (List.mem_of_getElem? (i := 88) rfl)) rfl) (by decide +kernel)
theorem cl_RL_117 : zLkV RL 117 yX9_forAll cX9_forAll 6 (some .int) 2 := zLkV.mk (zTin (zm4 (List.mem_of_getElem? (i := 225) rfl)) rfl) (zTin (zm4 (List.mem_of_getElem? (i := 226) rfl)) rfl) (zTin (zm4 (List.mem_of_getElem? (i := 227) rfl)) rfl) (zTin (zm1 (List.mem_of_getElem? (i := 10) rfl)) rfl) (zTin (zm4 (List.mem_of_getElem? (i := 228) rfl)) rfl) (by decide +kernel)
theorem cl_RL_118 : zLkV RL 118 yX8_sweep cX8_sweep 1 (some .int) 0 := zLkV.mk (zTin (zm3 (List.mem_of_getElem? (i := 106) rfl)) rfl) (zTin (zm3 (List.mem_of_getElem? (i := 107) rfl)) rfl) (zTin (zm3 (List.mem_of_getElem? (i := 108) rfl)) rfl) (zTin (zm1 (List.mem_of_getElem? (i := 1) rfl)) rfl) (zTin (zm3 (List.mem_of_getElem? (i := 109) rfl)) rfl) (by decide +kernel)
theorem cl_RL_121 : zLkV RL 121 yX9_sweep cX9_sweep 3 (some .int) 0 := zLkV.mk (zTin (zm4 (List.mem_of_getElem? (i := 233) rfl)) rfl) (zTin (zm4 (List.mem_of_getElem? (i := 234) rfl)) rfl) (zTin (zm4 (List.mem_of_getElem? (i := 235) rfl)) rfl) (zTin (zm1 (List.mem_of_getElem? (i := 10) rfl)) rfl) (zTin (zm4 (List.mem_of_getElem? (i := 236) rfl)) rfl) (by decide +kernel)
theorem cl_RL_122 : zLkV RL 122 yX8_opened cX8_opened 2 (some .int) 1 := zLkV.mk (zTin (zm3 (List.mem_of_getElem? (i := 119) rfl)) rfl) (zTin (zm3 (List.mem_of_getElem? (i := 120) rfl)) rfl) (zTin (zm3 (List.mem_of_getElem? (i := 121) rfl)) rfl) (zTin (zm1 (List.mem_of_getElem? (i := 1) rfl)) rfl) (zTin (zm3 (List.mem_of_getElem? (i := 122) rfl)) rfl) (by decide +kernel)
theorem cl_RL_125 : zLkV RL 125 yX9_opened cX9_opened 2 (some .int) 1 := zLkV.mk (zTin (zm5 (List.mem_of_getElem? (i := 5) rfl)) rfl) (zTin (zm5 (List.mem_of_getElem? (i := 6) rfl)) rfl) (zTin (zm5 (List.mem_of_getElem? (i := 7) rfl)) rfl) (zTin (zm1 (List.mem_of_getElem? (i := 10) rfl)) rfl) (zTin (zm5 (List.mem_of_getElem? (i := 8) rfl)) rfl) (by decide +kernel)
theorem cl_RL_126 : zLkV RL 126 yX8_text cX8_text 3 (some .int) 2 := zLkV.mk (zTin (zm3 (List.mem_of_getElem? (i := 123) rfl)) rfl) (zTin (zm3 (List.mem_of_getElem? (i := 124) rfl)) rfl) (zTin (zm3 (List.mem_of_getElem? (i := 125) rfl)) rfl) (zTin (zm1 (List.mem_of_getElem? (i := 1) rfl)) rfl) (zTin (zm3 (List.mem_of_getElem? (i := 126) rfl)) rfl) (by decide +kernel)
theorem cl_RL_129 : zLkV RL 129 yX9_text cX9_text 4 (some .int) 2 := zLkV.mk (zTin (zm5 (List.mem_of_getElem? (i := 9) rfl)) rfl) (zTin (zm5 (List.mem_of_getElem? (i := 10) rfl)) rfl) (zTin (zm5 (List.mem_of_getElem? (i := 11) rfl)) rfl) (zTin (zm1 (List.mem_of_getElem? (i := 10) rfl)) rfl) (zTin (zm5 (List.mem_of_getElem? (i := 12) rfl)) rfl) (by decide +kernel)
theorem cl_RL_130 : zLkV RL 130 yX8_rows cX8_rows 6 (some .int) 3 := zLkV.mk (zTin (zm3 (List.mem_of_getElem? (i := 147) rfl)) rfl) (zTin (zm3 (List.mem_of_getElem? (i := 148) rfl)) rfl) (zTin (zm3 (List.mem_of_getElem? (i := 149) rfl)) rfl) (zTin (zm1 (List.mem_of_getElem? (i := 1) rfl)) rfl) (zTin (zm3 (List.mem_of_getElem? (i := 150) rfl)) rfl) (by decide +kernel)
theorem cl_RL_133 : zLkV RL 133 yX9_rows cX9_rows 7 (some .int) 3 := zLkV.mk (zTin (zm5 (List.mem_of_getElem? (i := 25) rfl)) rfl) (zTin (zm5 (List.mem_of_getElem? (i := 26) rfl)) rfl) (zTin (zm5 (List.mem_of_getElem? (i := 27) rfl)) rfl) (zTin (zm1 (List.mem_of_getElem? (i := 10) rfl)) rfl) (zTin (zm5 (List.mem_of_getElem? (i := 28) rfl)) rfl) (by decide +kernel)
theorem cl_RL_134 : zLkV RL 134 yX8_many cX8_many 2 (some .int) 1 := zLkV.mk (zTin (zm3 (List.mem_of_getElem? (i := 160) rfl)) rfl) (zTin (zm3 (List.mem_of_getElem? (i := 161) rfl)) rfl) (zTin (zm3 (List.mem_of_getElem? (i := 162) rfl)) rfl) (zTin (zm1 (List.mem_of_getElem? (i := 1) rfl)) rfl) (zTin (zm3 (List.mem_of_getElem? (i := 163) rfl)) rfl) (by decide +kernel)
theorem cl_RL_137 : zLkV RL 137 yX9_many cX9_many 2 (some .int) 1 := zLkV.mk (zTin (zm5 (List.mem_of_getElem? (i := 29) rfl)) rfl) (zTin (zm5 (List.mem_of_getElem? (i := 30) rfl)) rfl) (zTin (zm5 (List.mem_of_getElem? (i := 31) rfl)) rfl) (zTin (zm1 (List.mem_of_getElem? (i := 10) rfl)) rfl) (zTin (zm5 (List.mem_of_getElem? (i := 32) rfl)) rfl) (by decide +kernel)
theorem lc_0 {K : zX} (F : zF K cL_law RL (some .boolean)) (hR : zrm K = room_1) {b L : Nat} {xs : Nat → Int32} (S : zScr K b L xs) (St : zStr K) {Inv : zS → Prop} (n : Nat) (hn : n + 5 ≤ L) (hL : L ≤ 2560) (σ : zS) (hC : ∃ r σ1 σ2, fX8_letter (xs (n + 1)) (xs (n + 2)) σ = some (r, σ1) ∧ fX9_letter (xs (n + 1)) (xs (n + 2)) σ1 = some (r, σ2) ∧ Inv σ2) (kk : ∀ σ2, Inv σ2 → ZO K () 1068 [some (.ref b), some (.ref (zad K 0 0)), some (.ref (zad K 21 0)), some (.int (nI n))] [] σ2 (some ())) : ZO K () 168 [some (.ref b), some (.ref (zad K 0 0)), some (.ref (zad K 21 0)), some (.int (nI n))] [] σ (some ()) := by
  obtain ⟨r, σ1, σ2, h1, h2, hI⟩ := hC
  refine z_aload_n (pc := 168) F dL_law_168 rfl ?_
  refine z_aload_n (pc := 169) F dL_law_169 rfl ?_
  refine z_iload_n (pc := 170) F dL_law_170 rfl ?_
  refine z_iconst (pc := 171) F (v := 1) dL_law_171 (by decide) ?_
  refine z_iadd (pc := 172) F dL_law_172 ?_
  refine z_sldn (pc := 173) F S n 1 rfl (by omega) hL dL_law_173 ?_
  refine z_aload_n (pc := 174) F dL_law_174 rfl ?_
  refine z_iload_n (pc := 175) F dL_law_175 rfl ?_
  refine z_iconst (pc := 176) F (v := 2) dL_law_176 (by decide) ?_
  refine z_iadd (pc := 177) F dL_law_177 ?_
  refine z_sldn (pc := 178) F S n 2 rfl (by omega) hL dL_law_178 ?_
  refine z_callE (pc := 179) (st := []) F 0 0 [.int (xs (n + 1)), .int (xs (n + 2))] cl_RL_13 (tX8_letter (zln K) σ (xs (n + 1)) (xs (n + 2))) rfl (by decide) (fun _ => ⟨_, rfl⟩) rfl (by rw [hR]; exact ⟨rfl, rfl, Nat.le_of_ble_eq_true rfl, Nat.le_of_ble_eq_true rfl⟩) rfl rfl (Nat.le_of_ble_eq_true rfl) dL_law_179 h1 ?_
  refine z_aload_n (pc := 182) F dL_law_182 rfl ?_
  refine z_aload_n (pc := 183) F dL_law_183 rfl ?_
  refine z_iload_n (pc := 184) F dL_law_184 rfl ?_
  refine z_iconst (pc := 185) F (v := 1) dL_law_185 (by decide) ?_
  refine z_iadd (pc := 186) F dL_law_186 ?_
  refine z_sldn (pc := 187) F S n 1 rfl (by omega) hL dL_law_187 ?_
  refine z_aload_n (pc := 188) F dL_law_188 rfl ?_
  refine z_iload_n (pc := 189) F dL_law_189 rfl ?_
  refine z_iconst (pc := 190) F (v := 2) dL_law_190 (by decide) ?_
  refine z_iadd (pc := 191) F dL_law_191 ?_
  refine z_sldn (pc := 192) F S n 2 rfl (by omega) hL dL_law_192 ?_
  refine z_callE (pc := 193) (st := [.int r]) F 21 0 [.int (xs (n + 1)), .int (xs (n + 2))] cl_RL_17 (tX9_letter (zln K) σ1 (xs (n + 1)) (xs (n + 2))) rfl (by decide) (fun _ => ⟨_, rfl⟩) rfl (by rw [hR]; exact ⟨rfl, rfl, Nat.le_of_ble_eq_true rfl, Nat.le_of_ble_eq_true rfl⟩) rfl rfl (Nat.le_of_ble_eq_true rfl) dL_law_193 h2 ?_
  refine z_eq1 (o := if r = r then some () else none) (if_pos rfl) ?_
  refine z_icmp_eq (o1 := some ()) (o2 := none) (pc := 196) F 1068 dL_law_196 (by decide) (fun _ => kk σ2 hI) (fun h => absurd rfl h)
theorem lc_1 {K : zX} (F : zF K cL_law RL (some .boolean)) (hR : zrm K = room_1) {b L : Nat} {xs : Nat → Int32} (S : zScr K b L xs) (St : zStr K) {Inv : zS → Prop} (n : Nat) (hn : n + 5 ≤ L) (hL : L ≤ 2560) (σ : zS) (hC : ∃ r σ1 σ2, fX8_drop (xs (n + 1)) σ = some (r, σ1) ∧ fX9_drop (xs (n + 1)) σ1 = some (r, σ2) ∧ Inv σ2) (kk : ∀ σ2, Inv σ2 → ZO K () 1068 [some (.ref b), some (.ref (zad K 0 0)), some (.ref (zad K 21 0)), some (.int (nI n))] [] σ2 (some ())) : ZO K () 201 [some (.ref b), some (.ref (zad K 0 0)), some (.ref (zad K 21 0)), some (.int (nI n))] [] σ (some ()) := by
  obtain ⟨r, σ1, σ2, h1, h2, hI⟩ := hC
  refine z_aload_n (pc := 201) F dL_law_201 rfl ?_
  refine z_aload_n (pc := 202) F dL_law_202 rfl ?_
  refine z_iload_n (pc := 203) F dL_law_203 rfl ?_
  refine z_iconst (pc := 204) F (v := 1) dL_law_204 (by decide) ?_
  refine z_iadd (pc := 205) F dL_law_205 ?_
  refine z_sldn (pc := 206) F S n 1 rfl (by omega) hL dL_law_206 ?_
  refine z_callE (pc := 207) (st := []) F 0 0 [.int (xs (n + 1))] cl_RL_18 (tX8_drop (zln K) σ (xs (n + 1))) rfl (by decide) (fun _ => ⟨_, rfl⟩) rfl (by rw [hR]; exact ⟨rfl, rfl, Nat.le_of_ble_eq_true rfl, Nat.le_of_ble_eq_true rfl⟩) rfl rfl (Nat.le_of_ble_eq_true rfl) dL_law_207 h1 ?_
  refine z_aload_n (pc := 210) F dL_law_210 rfl ?_
  refine z_aload_n (pc := 211) F dL_law_211 rfl ?_
  refine z_iload_n (pc := 212) F dL_law_212 rfl ?_
  refine z_iconst (pc := 213) F (v := 1) dL_law_213 (by decide) ?_
  refine z_iadd (pc := 214) F dL_law_214 ?_
  refine z_sldn (pc := 215) F S n 1 rfl (by omega) hL dL_law_215 ?_
  refine z_callE (pc := 216) (st := [.int r]) F 21 0 [.int (xs (n + 1))] cl_RL_22 (tX9_drop (zln K) σ1 (xs (n + 1))) rfl (by decide) (fun _ => ⟨_, rfl⟩) rfl (by rw [hR]; exact ⟨rfl, rfl, Nat.le_of_ble_eq_true rfl, Nat.le_of_ble_eq_true rfl⟩) rfl rfl (Nat.le_of_ble_eq_true rfl) dL_law_216 h2 ?_
  refine z_eq1 (o := if r = r then some () else none) (if_pos rfl) ?_
  refine z_icmp_eq (o1 := some ()) (o2 := none) (pc := 219) F 1068 dL_law_219 (by decide) (fun _ => kk σ2 hI) (fun h => absurd rfl h)
theorem lc_2 {K : zX} (F : zF K cL_law RL (some .boolean)) (hR : zrm K = room_1) {b L : Nat} {xs : Nat → Int32} (S : zScr K b L xs) (St : zStr K) {Inv : zS → Prop} (n : Nat) (hn : n + 5 ≤ L) (hL : L ≤ 2560) (σ : zS) (hC : ∃ r σ1 σ2, fX8_has (xs (n + 1)) (xs (n + 2)) (xs (n + 3)) σ = some (r, σ1) ∧ fX9_has (xs (n + 1)) (xs (n + 2)) (xs (n + 3)) σ1 = some (r, σ2) ∧ Inv σ2) (kk : ∀ σ2, Inv σ2 → ZO K () 1068 [some (.ref b), some (.ref (zad K 0 0)), some (.ref (zad K 21 0)), some (.int (nI n))] [] σ2 (some ())) : ZO K () 224 [some (.ref b), some (.ref (zad K 0 0)), some (.ref (zad K 21 0)), some (.int (nI n))] [] σ (some ()) := by
  obtain ⟨r, σ1, σ2, h1, h2, hI⟩ := hC
  refine z_aload_n (pc := 224) F dL_law_224 rfl ?_
  refine z_aload_n (pc := 225) F dL_law_225 rfl ?_
  refine z_iload_n (pc := 226) F dL_law_226 rfl ?_
  refine z_iconst (pc := 227) F (v := 1) dL_law_227 (by decide) ?_
  refine z_iadd (pc := 228) F dL_law_228 ?_
  refine z_sldn (pc := 229) F S n 1 rfl (by omega) hL dL_law_229 ?_
  refine z_aload_n (pc := 230) F dL_law_230 rfl ?_
  refine z_iload_n (pc := 231) F dL_law_231 rfl ?_
  refine z_iconst (pc := 232) F (v := 2) dL_law_232 (by decide) ?_
  refine z_iadd (pc := 233) F dL_law_233 ?_
  refine z_sldn (pc := 234) F S n 2 rfl (by omega) hL dL_law_234 ?_
  refine z_aload_n (pc := 235) F dL_law_235 rfl ?_
  refine z_iload_n (pc := 236) F dL_law_236 rfl ?_
  refine z_iconst (pc := 237) F (v := 3) dL_law_237 (by decide) ?_
  refine z_iadd (pc := 238) F dL_law_238 ?_
  refine z_sldn (pc := 239) F S n 3 rfl (by omega) hL dL_law_239 ?_
  refine z_callE (pc := 240) (st := []) F 0 0 [.int (xs (n + 1)), .int (xs (n + 2)), .int (xs (n + 3))] cl_RL_23 (tX8_has (zln K) σ (xs (n + 1)) (xs (n + 2)) (xs (n + 3))) rfl (by decide) (fun _ => ⟨_, rfl⟩) rfl (by rw [hR]; exact ⟨rfl, rfl, Nat.le_of_ble_eq_true rfl, Nat.le_of_ble_eq_true rfl⟩) rfl rfl (Nat.le_of_ble_eq_true rfl) dL_law_240 h1 ?_
  refine z_aload_n (pc := 243) F dL_law_243 rfl ?_
  refine z_aload_n (pc := 244) F dL_law_244 rfl ?_
  refine z_iload_n (pc := 245) F dL_law_245 rfl ?_
  refine z_iconst (pc := 246) F (v := 1) dL_law_246 (by decide) ?_
  refine z_iadd (pc := 247) F dL_law_247 ?_
  refine z_sldn (pc := 248) F S n 1 rfl (by omega) hL dL_law_248 ?_
  refine z_aload_n (pc := 249) F dL_law_249 rfl ?_
  refine z_iload_n (pc := 250) F dL_law_250 rfl ?_
  refine z_iconst (pc := 251) F (v := 2) dL_law_251 (by decide) ?_
  refine z_iadd (pc := 252) F dL_law_252 ?_
  refine z_sldn (pc := 253) F S n 2 rfl (by omega) hL dL_law_253 ?_
  refine z_aload_n (pc := 254) F dL_law_254 rfl ?_
  refine z_iload_n (pc := 255) F dL_law_255 rfl ?_
  refine z_iconst (pc := 256) F (v := 3) dL_law_256 (by decide) ?_
  refine z_iadd (pc := 257) F dL_law_257 ?_
  refine z_sldn (pc := 258) F S n 3 rfl (by omega) hL dL_law_258 ?_
  refine z_callE (pc := 259) (st := [.int r]) F 21 0 [.int (xs (n + 1)), .int (xs (n + 2)), .int (xs (n + 3))] cl_RL_27 (tX9_has (zln K) σ1 (xs (n + 1)) (xs (n + 2)) (xs (n + 3))) rfl (by decide) (fun _ => ⟨_, rfl⟩) rfl (by rw [hR]; exact ⟨rfl, rfl, Nat.le_of_ble_eq_true rfl, Nat.le_of_ble_eq_true rfl⟩) rfl rfl (Nat.le_of_ble_eq_true rfl) dL_law_259 h2 ?_
  refine z_eq1 (o := if r = r then some () else none) (if_pos rfl) ?_
  refine z_icmp_eq (o1 := some ()) (o2 := none) (pc := 262) F 1068 dL_law_262 (by decide) (fun _ => kk σ2 hI) (fun h => absurd rfl h)
theorem lc_3 {K : zX} (F : zF K cL_law RL (some .boolean)) (hR : zrm K = room_1) {b L : Nat} {xs : Nat → Int32} (S : zScr K b L xs) (St : zStr K) {Inv : zS → Prop} (n : Nat) (hn : n + 5 ≤ L) (hL : L ≤ 2560) (σ : zS) (hC : ∃ r σ1 σ2, fX8_want (xs (n + 1)) (xs (n + 2)) σ = some (r, σ1) ∧ fX9_want (xs (n + 1)) (xs (n + 2)) σ1 = some (r, σ2) ∧ Inv σ2) (kk : ∀ σ2, Inv σ2 → ZO K () 1068 [some (.ref b), some (.ref (zad K 0 0)), some (.ref (zad K 21 0)), some (.int (nI n))] [] σ2 (some ())) : ZO K () 267 [some (.ref b), some (.ref (zad K 0 0)), some (.ref (zad K 21 0)), some (.int (nI n))] [] σ (some ()) := by
  obtain ⟨r, σ1, σ2, h1, h2, hI⟩ := hC
  refine z_aload_n (pc := 267) F dL_law_267 rfl ?_
  refine z_aload_n (pc := 268) F dL_law_268 rfl ?_
  refine z_iload_n (pc := 269) F dL_law_269 rfl ?_
  refine z_iconst (pc := 270) F (v := 1) dL_law_270 (by decide) ?_
  refine z_iadd (pc := 271) F dL_law_271 ?_
  refine z_sldn (pc := 272) F S n 1 rfl (by omega) hL dL_law_272 ?_
  refine z_aload_n (pc := 273) F dL_law_273 rfl ?_
  refine z_iload_n (pc := 274) F dL_law_274 rfl ?_
  refine z_iconst (pc := 275) F (v := 2) dL_law_275 (by decide) ?_
  refine z_iadd (pc := 276) F dL_law_276 ?_
  refine z_sldn (pc := 277) F S n 2 rfl (by omega) hL dL_law_277 ?_
  refine z_callE (pc := 278) (st := []) F 0 0 [.int (xs (n + 1)), .int (xs (n + 2))] cl_RL_28 (tX8_want (zln K) σ (xs (n + 1)) (xs (n + 2))) rfl (by decide) (fun _ => ⟨_, rfl⟩) rfl (by rw [hR]; exact ⟨rfl, rfl, Nat.le_of_ble_eq_true rfl, Nat.le_of_ble_eq_true rfl⟩) rfl rfl (Nat.le_of_ble_eq_true rfl) dL_law_278 h1 ?_
  refine z_aload_n (pc := 281) F dL_law_281 rfl ?_
  refine z_aload_n (pc := 282) F dL_law_282 rfl ?_
  refine z_iload_n (pc := 283) F dL_law_283 rfl ?_
  refine z_iconst (pc := 284) F (v := 1) dL_law_284 (by decide) ?_
  refine z_iadd (pc := 285) F dL_law_285 ?_
  refine z_sldn (pc := 286) F S n 1 rfl (by omega) hL dL_law_286 ?_
  refine z_aload_n (pc := 287) F dL_law_287 rfl ?_
  refine z_iload_n (pc := 288) F dL_law_288 rfl ?_
  refine z_iconst (pc := 289) F (v := 2) dL_law_289 (by decide) ?_
  refine z_iadd (pc := 290) F dL_law_290 ?_
  refine z_sldn (pc := 291) F S n 2 rfl (by omega) hL dL_law_291 ?_
  refine z_callE (pc := 292) (st := [.int r]) F 21 0 [.int (xs (n + 1)), .int (xs (n + 2))] cl_RL_31 (tX9_want (zln K) σ1 (xs (n + 1)) (xs (n + 2))) rfl (by decide) (fun _ => ⟨_, rfl⟩) rfl (by rw [hR]; exact ⟨rfl, rfl, Nat.le_of_ble_eq_true rfl, Nat.le_of_ble_eq_true rfl⟩) rfl rfl (Nat.le_of_ble_eq_true rfl) dL_law_292 h2 ?_
  refine z_eq1 (o := if r = r then some () else none) (if_pos rfl) ?_
  refine z_icmp_eq (o1 := some ()) (o2 := none) (pc := 295) F 1068 dL_law_295 (by decide) (fun _ => kk σ2 hI) (fun h => absurd rfl h)
theorem lc_4 {K : zX} (F : zF K cL_law RL (some .boolean)) (hR : zrm K = room_1) {b L : Nat} {xs : Nat → Int32} (S : zScr K b L xs) (St : zStr K) {Inv : zS → Prop} (n : Nat) (hn : n + 5 ≤ L) (hL : L ≤ 2560) (σ : zS) (hC : ∃ r σ1 σ2, fX8_air (xs (n + 1)) σ = some (r, σ1) ∧ fX9_air (xs (n + 1)) σ1 = some (r, σ2) ∧ Inv σ2) (kk : ∀ σ2, Inv σ2 → ZO K () 1068 [some (.ref b), some (.ref (zad K 0 0)), some (.ref (zad K 21 0)), some (.int (nI n))] [] σ2 (some ())) : ZO K () 300 [some (.ref b), some (.ref (zad K 0 0)), some (.ref (zad K 21 0)), some (.int (nI n))] [] σ (some ()) := by
  obtain ⟨r, σ1, σ2, h1, h2, hI⟩ := hC
  refine z_aload_n (pc := 300) F dL_law_300 rfl ?_
  refine z_aload_n (pc := 301) F dL_law_301 rfl ?_
  refine z_iload_n (pc := 302) F dL_law_302 rfl ?_
  refine z_iconst (pc := 303) F (v := 1) dL_law_303 (by decide) ?_
  refine z_iadd (pc := 304) F dL_law_304 ?_
  refine z_sldn (pc := 305) F S n 1 rfl (by omega) hL dL_law_305 ?_
  refine z_callE (pc := 306) (st := []) F 0 0 [.int (xs (n + 1))] cl_RL_32 (tX8_air (zln K) σ (xs (n + 1))) rfl (by decide) (fun _ => ⟨_, rfl⟩) rfl (by rw [hR]; exact ⟨rfl, rfl, Nat.le_of_ble_eq_true rfl, Nat.le_of_ble_eq_true rfl⟩) rfl rfl (Nat.le_of_ble_eq_true rfl) dL_law_306 h1 ?_
  refine z_aload_n (pc := 309) F dL_law_309 rfl ?_
  refine z_aload_n (pc := 310) F dL_law_310 rfl ?_
  refine z_iload_n (pc := 311) F dL_law_311 rfl ?_
  refine z_iconst (pc := 312) F (v := 1) dL_law_312 (by decide) ?_
  refine z_iadd (pc := 313) F dL_law_313 ?_
  refine z_sldn (pc := 314) F S n 1 rfl (by omega) hL dL_law_314 ?_
  refine z_callE (pc := 315) (st := [.int r]) F 21 0 [.int (xs (n + 1))] cl_RL_35 (tX9_air (zln K) σ1 (xs (n + 1))) rfl (by decide) (fun _ => ⟨_, rfl⟩) rfl (by rw [hR]; exact ⟨rfl, rfl, Nat.le_of_ble_eq_true rfl, Nat.le_of_ble_eq_true rfl⟩) rfl rfl (Nat.le_of_ble_eq_true rfl) dL_law_315 h2 ?_
  refine z_eq1 (o := if r = r then some () else none) (if_pos rfl) ?_
  refine z_icmp_eq (o1 := some ()) (o2 := none) (pc := 318) F 1068 dL_law_318 (by decide) (fun _ => kk σ2 hI) (fun h => absurd rfl h)
theorem lc_5 {K : zX} (F : zF K cL_law RL (some .boolean)) (hR : zrm K = room_1) {b L : Nat} {xs : Nat → Int32} (S : zScr K b L xs) (St : zStr K) {Inv : zS → Prop} (n : Nat) (hn : n + 5 ≤ L) (hL : L ≤ 2560) (σ : zS) (hC : ∃ r σ1 σ2, fX8_most (xs (n + 1)) σ = some (r, σ1) ∧ fX9_most (xs (n + 1)) σ1 = some (r, σ2) ∧ Inv σ2) (kk : ∀ σ2, Inv σ2 → ZO K () 1068 [some (.ref b), some (.ref (zad K 0 0)), some (.ref (zad K 21 0)), some (.int (nI n))] [] σ2 (some ())) : ZO K () 323 [some (.ref b), some (.ref (zad K 0 0)), some (.ref (zad K 21 0)), some (.int (nI n))] [] σ (some ()) := by
  obtain ⟨r, σ1, σ2, h1, h2, hI⟩ := hC
  refine z_aload_n (pc := 323) F dL_law_323 rfl ?_
  refine z_aload_n (pc := 324) F dL_law_324 rfl ?_
  refine z_iload_n (pc := 325) F dL_law_325 rfl ?_
  refine z_iconst (pc := 326) F (v := 1) dL_law_326 (by decide) ?_
  refine z_iadd (pc := 327) F dL_law_327 ?_
  refine z_sldn (pc := 328) F S n 1 rfl (by omega) hL dL_law_328 ?_
  refine z_callE (pc := 329) (st := []) F 0 0 [.int (xs (n + 1))] cl_RL_36 (tX8_most (zln K) σ (xs (n + 1))) rfl (by decide) (fun _ => ⟨_, rfl⟩) rfl (by rw [hR]; exact ⟨rfl, rfl, Nat.le_of_ble_eq_true rfl, Nat.le_of_ble_eq_true rfl⟩) rfl rfl (Nat.le_of_ble_eq_true rfl) dL_law_329 h1 ?_
  refine z_aload_n (pc := 332) F dL_law_332 rfl ?_
  refine z_aload_n (pc := 333) F dL_law_333 rfl ?_
  refine z_iload_n (pc := 334) F dL_law_334 rfl ?_
  refine z_iconst (pc := 335) F (v := 1) dL_law_335 (by decide) ?_
  refine z_iadd (pc := 336) F dL_law_336 ?_
  refine z_sldn (pc := 337) F S n 1 rfl (by omega) hL dL_law_337 ?_
  refine z_callE (pc := 338) (st := [.int r]) F 21 0 [.int (xs (n + 1))] cl_RL_39 (tX9_most (zln K) σ1 (xs (n + 1))) rfl (by decide) (fun _ => ⟨_, rfl⟩) rfl (by rw [hR]; exact ⟨rfl, rfl, Nat.le_of_ble_eq_true rfl, Nat.le_of_ble_eq_true rfl⟩) rfl rfl (Nat.le_of_ble_eq_true rfl) dL_law_338 h2 ?_
  refine z_eq1 (o := if r = r then some () else none) (if_pos rfl) ?_
  refine z_icmp_eq (o1 := some ()) (o2 := none) (pc := 341) F 1068 dL_law_341 (by decide) (fun _ => kk σ2 hI) (fun h => absurd rfl h)
theorem lc_6 {K : zX} (F : zF K cL_law RL (some .boolean)) (hR : zrm K = room_1) {b L : Nat} {xs : Nat → Int32} (S : zScr K b L xs) (St : zStr K) {Inv : zS → Prop} (n : Nat) (hn : n + 5 ≤ L) (hL : L ≤ 2560) (σ : zS) (hC : ∃ r σ1 σ2, fX8_anew σ = some (r, σ1) ∧ fX9_anew σ1 = some (r, σ2) ∧ Inv σ2) (kk : ∀ σ2, Inv σ2 → ZO K () 1068 [some (.ref b), some (.ref (zad K 0 0)), some (.ref (zad K 21 0)), some (.int (nI n))] [] σ2 (some ())) : ZO K () 346 [some (.ref b), some (.ref (zad K 0 0)), some (.ref (zad K 21 0)), some (.int (nI n))] [] σ (some ()) := by
  obtain ⟨r, σ1, σ2, h1, h2, hI⟩ := hC
  refine z_aload_n (pc := 346) F dL_law_346 rfl ?_
  refine z_callE (pc := 347) (st := []) F 0 0 [] cl_RL_40 (tX8_anew (zln K) σ ) rfl (by decide) (fun _ => ⟨_, rfl⟩) rfl (by rw [hR]; exact ⟨rfl, rfl, Nat.le_of_ble_eq_true rfl, Nat.le_of_ble_eq_true rfl⟩) rfl rfl (Nat.le_of_ble_eq_true rfl) dL_law_347 h1 ?_
  refine z_aload_n (pc := 350) F dL_law_350 rfl ?_
  refine z_callE (pc := 351) (st := [.int r]) F 21 0 [] cl_RL_44 (tX9_anew (zln K) σ1 ) rfl (by decide) (fun _ => ⟨_, rfl⟩) rfl (by rw [hR]; exact ⟨rfl, rfl, Nat.le_of_ble_eq_true rfl, Nat.le_of_ble_eq_true rfl⟩) rfl rfl (Nat.le_of_ble_eq_true rfl) dL_law_351 h2 ?_
  refine z_eq1 (o := if r = r then some () else none) (if_pos rfl) ?_
  refine z_icmp_eq (o1 := some ()) (o2 := none) (pc := 354) F 1068 dL_law_354 (by decide) (fun _ => kk σ2 hI) (fun h => absurd rfl h)
theorem lc_7 {K : zX} (F : zF K cL_law RL (some .boolean)) (hR : zrm K = room_1) {b L : Nat} {xs : Nat → Int32} (S : zScr K b L xs) (St : zStr K) {Inv : zS → Prop} (n : Nat) (hn : n + 5 ≤ L) (hL : L ≤ 2560) (σ : zS) (hC : ∃ r σ1 σ2, fX8_entry (xs (n + 1)) (xs (n + 2)) σ = some (r, σ1) ∧ fX9_entry (xs (n + 1)) (xs (n + 2)) σ1 = some (r, σ2) ∧ Inv σ2) (kk : ∀ σ2, Inv σ2 → ZO K () 1068 [some (.ref b), some (.ref (zad K 0 0)), some (.ref (zad K 21 0)), some (.int (nI n))] [] σ2 (some ())) : ZO K () 359 [some (.ref b), some (.ref (zad K 0 0)), some (.ref (zad K 21 0)), some (.int (nI n))] [] σ (some ()) := by
  obtain ⟨r, σ1, σ2, h1, h2, hI⟩ := hC
  refine z_aload_n (pc := 359) F dL_law_359 rfl ?_
  refine z_aload_n (pc := 360) F dL_law_360 rfl ?_
  refine z_iload_n (pc := 361) F dL_law_361 rfl ?_
  refine z_iconst (pc := 362) F (v := 1) dL_law_362 (by decide) ?_
  refine z_iadd (pc := 363) F dL_law_363 ?_
  refine z_sldn (pc := 364) F S n 1 rfl (by omega) hL dL_law_364 ?_
  refine z_aload_n (pc := 365) F dL_law_365 rfl ?_
  refine z_iload_n (pc := 366) F dL_law_366 rfl ?_
  refine z_iconst (pc := 367) F (v := 2) dL_law_367 (by decide) ?_
  refine z_iadd (pc := 368) F dL_law_368 ?_
  refine z_sldn (pc := 369) F S n 2 rfl (by omega) hL dL_law_369 ?_
  refine z_callE (pc := 370) (st := []) F 0 0 [.int (xs (n + 1)), .int (xs (n + 2))] cl_RL_45 (tX8_entry (zln K) σ (xs (n + 1)) (xs (n + 2))) rfl (by decide) (fun _ => ⟨_, rfl⟩) rfl (by rw [hR]; exact ⟨rfl, rfl, Nat.le_of_ble_eq_true rfl, Nat.le_of_ble_eq_true rfl⟩) rfl rfl (Nat.le_of_ble_eq_true rfl) dL_law_370 h1 ?_
  refine z_aload_n (pc := 373) F dL_law_373 rfl ?_
  refine z_aload_n (pc := 374) F dL_law_374 rfl ?_
  refine z_iload_n (pc := 375) F dL_law_375 rfl ?_
  refine z_iconst (pc := 376) F (v := 1) dL_law_376 (by decide) ?_
  refine z_iadd (pc := 377) F dL_law_377 ?_
  refine z_sldn (pc := 378) F S n 1 rfl (by omega) hL dL_law_378 ?_
  refine z_aload_n (pc := 379) F dL_law_379 rfl ?_
  refine z_iload_n (pc := 380) F dL_law_380 rfl ?_
  refine z_iconst (pc := 381) F (v := 2) dL_law_381 (by decide) ?_
  refine z_iadd (pc := 382) F dL_law_382 ?_
  refine z_sldn (pc := 383) F S n 2 rfl (by omega) hL dL_law_383 ?_
  refine z_callE (pc := 384) (st := [.int r]) F 21 0 [.int (xs (n + 1)), .int (xs (n + 2))] cl_RL_48 (tX9_entry (zln K) σ1 (xs (n + 1)) (xs (n + 2))) rfl (by decide) (fun _ => ⟨_, rfl⟩) rfl (by rw [hR]; exact ⟨rfl, rfl, Nat.le_of_ble_eq_true rfl, Nat.le_of_ble_eq_true rfl⟩) rfl rfl (Nat.le_of_ble_eq_true rfl) dL_law_384 h2 ?_
  refine z_eq1 (o := if r = r then some () else none) (if_pos rfl) ?_
  refine z_icmp_eq (o1 := some ()) (o2 := none) (pc := 387) F 1068 dL_law_387 (by decide) (fun _ => kk σ2 hI) (fun h => absurd rfl h)
theorem lc_8 {K : zX} (F : zF K cL_law RL (some .boolean)) (hR : zrm K = room_1) {b L : Nat} {xs : Nat → Int32} (S : zScr K b L xs) (St : zStr K) {Inv : zS → Prop} (n : Nat) (hn : n + 5 ≤ L) (hL : L ≤ 2560) (σ : zS) (hC : ∃ r σ1 σ2, fX8_having (xs (n + 1)) σ = some (r, σ1) ∧ fX9_having (xs (n + 1)) σ1 = some (r, σ2) ∧ Inv σ2) (kk : ∀ σ2, Inv σ2 → ZO K () 1068 [some (.ref b), some (.ref (zad K 0 0)), some (.ref (zad K 21 0)), some (.int (nI n))] [] σ2 (some ())) : ZO K () 392 [some (.ref b), some (.ref (zad K 0 0)), some (.ref (zad K 21 0)), some (.int (nI n))] [] σ (some ()) := by
  obtain ⟨r, σ1, σ2, h1, h2, hI⟩ := hC
  refine z_aload_n (pc := 392) F dL_law_392 rfl ?_
  refine z_aload_n (pc := 393) F dL_law_393 rfl ?_
  refine z_iload_n (pc := 394) F dL_law_394 rfl ?_
  refine z_iconst (pc := 395) F (v := 1) dL_law_395 (by decide) ?_
  refine z_iadd (pc := 396) F dL_law_396 ?_
  refine z_sldn (pc := 397) F S n 1 rfl (by omega) hL dL_law_397 ?_
  refine z_callE (pc := 398) (st := []) F 0 0 [.int (xs (n + 1))] cl_RL_49 (tX8_having (zln K) σ (xs (n + 1))) rfl (by decide) (fun _ => ⟨_, rfl⟩) rfl (by rw [hR]; exact ⟨rfl, rfl, Nat.le_of_ble_eq_true rfl, Nat.le_of_ble_eq_true rfl⟩) rfl rfl (Nat.le_of_ble_eq_true rfl) dL_law_398 h1 ?_
  refine z_aload_n (pc := 401) F dL_law_401 rfl ?_
  refine z_aload_n (pc := 402) F dL_law_402 rfl ?_
  refine z_iload_n (pc := 403) F dL_law_403 rfl ?_
  refine z_iconst (pc := 404) F (v := 1) dL_law_404 (by decide) ?_
  refine z_iadd (pc := 405) F dL_law_405 ?_
  refine z_sldn (pc := 406) F S n 1 rfl (by omega) hL dL_law_406 ?_
  refine z_callE (pc := 407) (st := [.int r]) F 21 0 [.int (xs (n + 1))] cl_RL_52 (tX9_having (zln K) σ1 (xs (n + 1))) rfl (by decide) (fun _ => ⟨_, rfl⟩) rfl (by rw [hR]; exact ⟨rfl, rfl, Nat.le_of_ble_eq_true rfl, Nat.le_of_ble_eq_true rfl⟩) rfl rfl (Nat.le_of_ble_eq_true rfl) dL_law_407 h2 ?_
  refine z_eq1 (o := if r = r then some () else none) (if_pos rfl) ?_
  refine z_icmp_eq (o1 := some ()) (o2 := none) (pc := 410) F 1068 dL_law_410 (by decide) (fun _ => kk σ2 hI) (fun h => absurd rfl h)
theorem lc_9 {K : zX} (F : zF K cL_law RL (some .boolean)) (hR : zrm K = room_1) {b L : Nat} {xs : Nat → Int32} (S : zScr K b L xs) (St : zStr K) {Inv : zS → Prop} (n : Nat) (hn : n + 5 ≤ L) (hL : L ≤ 2560) (σ : zS) (hC : ∃ r σ1 σ2, fX8_reads (xs (n + 1)) (xs (n + 2)) σ = some (r, σ1) ∧ fX9_reads (xs (n + 1)) (xs (n + 2)) σ1 = some (r, σ2) ∧ Inv σ2) (kk : ∀ σ2, Inv σ2 → ZO K () 1068 [some (.ref b), some (.ref (zad K 0 0)), some (.ref (zad K 21 0)), some (.int (nI n))] [] σ2 (some ())) : ZO K () 415 [some (.ref b), some (.ref (zad K 0 0)), some (.ref (zad K 21 0)), some (.int (nI n))] [] σ (some ()) := by
  obtain ⟨r, σ1, σ2, h1, h2, hI⟩ := hC
  refine z_aload_n (pc := 415) F dL_law_415 rfl ?_
  refine z_aload_n (pc := 416) F dL_law_416 rfl ?_
  refine z_iload_n (pc := 417) F dL_law_417 rfl ?_
  refine z_iconst (pc := 418) F (v := 1) dL_law_418 (by decide) ?_
  refine z_iadd (pc := 419) F dL_law_419 ?_
  refine z_sldn (pc := 420) F S n 1 rfl (by omega) hL dL_law_420 ?_
  refine z_aload_n (pc := 421) F dL_law_421 rfl ?_
  refine z_iload_n (pc := 422) F dL_law_422 rfl ?_
  refine z_iconst (pc := 423) F (v := 2) dL_law_423 (by decide) ?_
  refine z_iadd (pc := 424) F dL_law_424 ?_
  refine z_sldn (pc := 425) F S n 2 rfl (by omega) hL dL_law_425 ?_
  refine z_callE (pc := 426) (st := []) F 0 0 [.int (xs (n + 1)), .int (xs (n + 2))] cl_RL_53 (tX8_reads (zln K) σ (xs (n + 1)) (xs (n + 2))) rfl (by decide) (fun _ => ⟨_, rfl⟩) rfl (by rw [hR]; exact ⟨rfl, rfl, Nat.le_of_ble_eq_true rfl, Nat.le_of_ble_eq_true rfl⟩) rfl rfl (Nat.le_of_ble_eq_true rfl) dL_law_426 h1 ?_
  refine z_aload_n (pc := 429) F dL_law_429 rfl ?_
  refine z_aload_n (pc := 430) F dL_law_430 rfl ?_
  refine z_iload_n (pc := 431) F dL_law_431 rfl ?_
  refine z_iconst (pc := 432) F (v := 1) dL_law_432 (by decide) ?_
  refine z_iadd (pc := 433) F dL_law_433 ?_
  refine z_sldn (pc := 434) F S n 1 rfl (by omega) hL dL_law_434 ?_
  refine z_aload_n (pc := 435) F dL_law_435 rfl ?_
  refine z_iload_n (pc := 436) F dL_law_436 rfl ?_
  refine z_iconst (pc := 437) F (v := 2) dL_law_437 (by decide) ?_
  refine z_iadd (pc := 438) F dL_law_438 ?_
  refine z_sldn (pc := 439) F S n 2 rfl (by omega) hL dL_law_439 ?_
  refine z_callE (pc := 440) (st := [.int r]) F 21 0 [.int (xs (n + 1)), .int (xs (n + 2))] cl_RL_56 (tX9_reads (zln K) σ1 (xs (n + 1)) (xs (n + 2))) rfl (by decide) (fun _ => ⟨_, rfl⟩) rfl (by rw [hR]; exact ⟨rfl, rfl, Nat.le_of_ble_eq_true rfl, Nat.le_of_ble_eq_true rfl⟩) rfl rfl (Nat.le_of_ble_eq_true rfl) dL_law_440 h2 ?_
  refine z_eq1 (o := if r = r then some () else none) (if_pos rfl) ?_
  refine z_icmp_eq (o1 := some ()) (o2 := none) (pc := 443) F 1068 dL_law_443 (by decide) (fun _ => kk σ2 hI) (fun h => absurd rfl h)
theorem lc_10 {K : zX} (F : zF K cL_law RL (some .boolean)) (hR : zrm K = room_1) {b L : Nat} {xs : Nat → Int32} (S : zScr K b L xs) (St : zStr K) {Inv : zS → Prop} (n : Nat) (hn : n + 5 ≤ L) (hL : L ≤ 2560) (σ : zS) (hC : ∃ r σ1 σ2, fX8_sum (xs (n + 1)) (xs (n + 2)) σ = some (r, σ1) ∧ fX9_sum (xs (n + 1)) (xs (n + 2)) σ1 = some (r, σ2) ∧ Inv σ2) (kk : ∀ σ2, Inv σ2 → ZO K () 1068 [some (.ref b), some (.ref (zad K 0 0)), some (.ref (zad K 21 0)), some (.int (nI n))] [] σ2 (some ())) : ZO K () 448 [some (.ref b), some (.ref (zad K 0 0)), some (.ref (zad K 21 0)), some (.int (nI n))] [] σ (some ()) := by
  obtain ⟨r, σ1, σ2, h1, h2, hI⟩ := hC
  refine z_aload_n (pc := 448) F dL_law_448 rfl ?_
  refine z_aload_n (pc := 449) F dL_law_449 rfl ?_
  refine z_iload_n (pc := 450) F dL_law_450 rfl ?_
  refine z_iconst (pc := 451) F (v := 1) dL_law_451 (by decide) ?_
  refine z_iadd (pc := 452) F dL_law_452 ?_
  refine z_sldn (pc := 453) F S n 1 rfl (by omega) hL dL_law_453 ?_
  refine z_aload_n (pc := 454) F dL_law_454 rfl ?_
  refine z_iload_n (pc := 455) F dL_law_455 rfl ?_
  refine z_iconst (pc := 456) F (v := 2) dL_law_456 (by decide) ?_
  refine z_iadd (pc := 457) F dL_law_457 ?_
  refine z_sldn (pc := 458) F S n 2 rfl (by omega) hL dL_law_458 ?_
  refine z_callE (pc := 459) (st := []) F 0 0 [.int (xs (n + 1)), .int (xs (n + 2))] cl_RL_57 (tX8_sum (zln K) σ (xs (n + 1)) (xs (n + 2))) rfl (by decide) (fun _ => ⟨_, rfl⟩) rfl (by rw [hR]; exact ⟨rfl, rfl, Nat.le_of_ble_eq_true rfl, Nat.le_of_ble_eq_true rfl⟩) rfl rfl (Nat.le_of_ble_eq_true rfl) dL_law_459 h1 ?_
  refine z_aload_n (pc := 462) F dL_law_462 rfl ?_
  refine z_aload_n (pc := 463) F dL_law_463 rfl ?_
  refine z_iload_n (pc := 464) F dL_law_464 rfl ?_
  refine z_iconst (pc := 465) F (v := 1) dL_law_465 (by decide) ?_
  refine z_iadd (pc := 466) F dL_law_466 ?_
  refine z_sldn (pc := 467) F S n 1 rfl (by omega) hL dL_law_467 ?_
  refine z_aload_n (pc := 468) F dL_law_468 rfl ?_
  refine z_iload_n (pc := 469) F dL_law_469 rfl ?_
  refine z_iconst (pc := 470) F (v := 2) dL_law_470 (by decide) ?_
  refine z_iadd (pc := 471) F dL_law_471 ?_
  refine z_sldn (pc := 472) F S n 2 rfl (by omega) hL dL_law_472 ?_
  refine z_callE (pc := 473) (st := [.int r]) F 21 0 [.int (xs (n + 1)), .int (xs (n + 2))] cl_RL_60 (tX9_sum (zln K) σ1 (xs (n + 1)) (xs (n + 2))) rfl (by decide) (fun _ => ⟨_, rfl⟩) rfl (by rw [hR]; exact ⟨rfl, rfl, Nat.le_of_ble_eq_true rfl, Nat.le_of_ble_eq_true rfl⟩) rfl rfl (Nat.le_of_ble_eq_true rfl) dL_law_473 h2 ?_
  refine z_eq1 (o := if r = r then some () else none) (if_pos rfl) ?_
  refine z_icmp_eq (o1 := some ()) (o2 := none) (pc := 476) F 1068 dL_law_476 (by decide) (fun _ => kk σ2 hI) (fun h => absurd rfl h)
theorem lc_11 {K : zX} (F : zF K cL_law RL (some .boolean)) (hR : zrm K = room_1) {b L : Nat} {xs : Nat → Int32} (S : zScr K b L xs) (St : zStr K) {Inv : zS → Prop} (n : Nat) (hn : n + 5 ≤ L) (hL : L ≤ 2560) (σ : zS) (hC : ∃ r σ1 σ2, fX8_best σ = some (r, σ1) ∧ fX9_best σ1 = some (r, σ2) ∧ Inv σ2) (kk : ∀ σ2, Inv σ2 → ZO K () 1068 [some (.ref b), some (.ref (zad K 0 0)), some (.ref (zad K 21 0)), some (.int (nI n))] [] σ2 (some ())) : ZO K () 481 [some (.ref b), some (.ref (zad K 0 0)), some (.ref (zad K 21 0)), some (.int (nI n))] [] σ (some ()) := by
  obtain ⟨r, σ1, σ2, h1, h2, hI⟩ := hC
  refine z_aload_n (pc := 481) F dL_law_481 rfl ?_
  refine z_callE (pc := 482) (st := []) F 0 0 [] cl_RL_61 (tX8_best (zln K) σ ) rfl (by decide) (fun _ => ⟨_, rfl⟩) rfl (by rw [hR]; exact ⟨rfl, rfl, Nat.le_of_ble_eq_true rfl, Nat.le_of_ble_eq_true rfl⟩) rfl rfl (Nat.le_of_ble_eq_true rfl) dL_law_482 h1 ?_
  refine z_aload_n (pc := 485) F dL_law_485 rfl ?_
  refine z_callE (pc := 486) (st := [.int r]) F 21 0 [] cl_RL_64 (tX9_best (zln K) σ1 ) rfl (by decide) (fun _ => ⟨_, rfl⟩) rfl (by rw [hR]; exact ⟨rfl, rfl, Nat.le_of_ble_eq_true rfl, Nat.le_of_ble_eq_true rfl⟩) rfl rfl (Nat.le_of_ble_eq_true rfl) dL_law_486 h2 ?_
  refine z_eq1 (o := if r = r then some () else none) (if_pos rfl) ?_
  refine z_icmp_eq (o1 := some ()) (o2 := none) (pc := 489) F 1068 dL_law_489 (by decide) (fun _ => kk σ2 hI) (fun h => absurd rfl h)
theorem lc_12 {K : zX} (F : zF K cL_law RL (some .boolean)) (hR : zrm K = room_1) {b L : Nat} {xs : Nat → Int32} (S : zScr K b L xs) (St : zStr K) {Inv : zS → Prop} (n : Nat) (hn : n + 5 ≤ L) (hL : L ≤ 2560) (σ : zS) (hC : ∃ r σ1 σ2, fX8_send (xs (n + 1)) σ = some (r, σ1) ∧ fX9_send (xs (n + 1)) σ1 = some (r, σ2) ∧ Inv σ2) (kk : ∀ σ2, Inv σ2 → ZO K () 1068 [some (.ref b), some (.ref (zad K 0 0)), some (.ref (zad K 21 0)), some (.int (nI n))] [] σ2 (some ())) : ZO K () 494 [some (.ref b), some (.ref (zad K 0 0)), some (.ref (zad K 21 0)), some (.int (nI n))] [] σ (some ()) := by
  obtain ⟨r, σ1, σ2, h1, h2, hI⟩ := hC
  refine z_aload_n (pc := 494) F dL_law_494 rfl ?_
  refine z_aload_n (pc := 495) F dL_law_495 rfl ?_
  refine z_iload_n (pc := 496) F dL_law_496 rfl ?_
  refine z_iconst (pc := 497) F (v := 1) dL_law_497 (by decide) ?_
  refine z_iadd (pc := 498) F dL_law_498 ?_
  refine z_sldn (pc := 499) F S n 1 rfl (by omega) hL dL_law_499 ?_
  refine z_callE (pc := 500) (st := []) F 0 0 [.int (xs (n + 1))] cl_RL_65 (tX8_send (zln K) σ (xs (n + 1))) rfl (by decide) (fun _ => ⟨_, rfl⟩) rfl (by rw [hR]; exact ⟨rfl, rfl, Nat.le_of_ble_eq_true rfl, Nat.le_of_ble_eq_true rfl⟩) rfl rfl (Nat.le_of_ble_eq_true rfl) dL_law_500 h1 ?_
  refine z_aload_n (pc := 503) F dL_law_503 rfl ?_
  refine z_aload_n (pc := 504) F dL_law_504 rfl ?_
  refine z_iload_n (pc := 505) F dL_law_505 rfl ?_
  refine z_iconst (pc := 506) F (v := 1) dL_law_506 (by decide) ?_
  refine z_iadd (pc := 507) F dL_law_507 ?_
  refine z_sldn (pc := 508) F S n 1 rfl (by omega) hL dL_law_508 ?_
  refine z_callE (pc := 509) (st := [.int r]) F 21 0 [.int (xs (n + 1))] cl_RL_68 (tX9_send (zln K) σ1 (xs (n + 1))) rfl (by decide) (fun _ => ⟨_, rfl⟩) rfl (by rw [hR]; exact ⟨rfl, rfl, Nat.le_of_ble_eq_true rfl, Nat.le_of_ble_eq_true rfl⟩) rfl rfl (Nat.le_of_ble_eq_true rfl) dL_law_509 h2 ?_
  refine z_eq1 (o := if r = r then some () else none) (if_pos rfl) ?_
  refine z_icmp_eq (o1 := some ()) (o2 := none) (pc := 512) F 1068 dL_law_512 (by decide) (fun _ => kk σ2 hI) (fun h => absurd rfl h)
theorem lc_13 {K : zX} (F : zF K cL_law RL (some .boolean)) (hR : zrm K = room_1) {b L : Nat} {xs : Nat → Int32} (S : zScr K b L xs) (St : zStr K) {Inv : zS → Prop} (n : Nat) (hn : n + 5 ≤ L) (hL : L ≤ 2560) (σ : zS) (hC : ∃ r σ1 σ2, fX8_serve (xs (n + 1)) σ = some (r, σ1) ∧ fX9_serve (xs (n + 1)) σ1 = some (r, σ2) ∧ Inv σ2) (kk : ∀ σ2, Inv σ2 → ZO K () 1068 [some (.ref b), some (.ref (zad K 0 0)), some (.ref (zad K 21 0)), some (.int (nI n))] [] σ2 (some ())) : ZO K () 517 [some (.ref b), some (.ref (zad K 0 0)), some (.ref (zad K 21 0)), some (.int (nI n))] [] σ (some ()) := by
  obtain ⟨r, σ1, σ2, h1, h2, hI⟩ := hC
  refine z_aload_n (pc := 517) F dL_law_517 rfl ?_
  refine z_aload_n (pc := 518) F dL_law_518 rfl ?_
  refine z_iload_n (pc := 519) F dL_law_519 rfl ?_
  refine z_iconst (pc := 520) F (v := 1) dL_law_520 (by decide) ?_
  refine z_iadd (pc := 521) F dL_law_521 ?_
  refine z_sldn (pc := 522) F S n 1 rfl (by omega) hL dL_law_522 ?_
  refine z_callE (pc := 523) (st := []) F 0 0 [.int (xs (n + 1))] cl_RL_69 (tX8_serve (zln K) σ (xs (n + 1))) rfl (by decide) (fun _ => ⟨_, rfl⟩) rfl (by rw [hR]; exact ⟨rfl, rfl, Nat.le_of_ble_eq_true rfl, Nat.le_of_ble_eq_true rfl⟩) rfl rfl (Nat.le_of_ble_eq_true rfl) dL_law_523 h1 ?_
  refine z_aload_n (pc := 526) F dL_law_526 rfl ?_
  refine z_aload_n (pc := 527) F dL_law_527 rfl ?_
  refine z_iload_n (pc := 528) F dL_law_528 rfl ?_
  refine z_iconst (pc := 529) F (v := 1) dL_law_529 (by decide) ?_
  refine z_iadd (pc := 530) F dL_law_530 ?_
  refine z_sldn (pc := 531) F S n 1 rfl (by omega) hL dL_law_531 ?_
  refine z_callE (pc := 532) (st := [.int r]) F 21 0 [.int (xs (n + 1))] cl_RL_72 (tX9_serve (zln K) σ1 (xs (n + 1))) rfl (by decide) (fun _ => ⟨_, rfl⟩) rfl (by rw [hR]; exact ⟨rfl, rfl, Nat.le_of_ble_eq_true rfl, Nat.le_of_ble_eq_true rfl⟩) rfl rfl (Nat.le_of_ble_eq_true rfl) dL_law_532 h2 ?_
  refine z_eq1 (o := if r = r then some () else none) (if_pos rfl) ?_
  refine z_icmp_eq (o1 := some ()) (o2 := none) (pc := 535) F 1068 dL_law_535 (by decide) (fun _ => kk σ2 hI) (fun h => absurd rfl h)
theorem lc_14 {K : zX} (F : zF K cL_law RL (some .boolean)) (hR : zrm K = room_1) {b L : Nat} {xs : Nat → Int32} (S : zScr K b L xs) (St : zStr K) {Inv : zS → Prop} (n : Nat) (hn : n + 5 ≤ L) (hL : L ≤ 2560) (σ : zS) (hC : ∃ r σ1 σ2, fX8_key (xs (n + 1)) σ = some (r, σ1) ∧ fX9_key (xs (n + 1)) σ1 = some (r, σ2) ∧ Inv σ2) (kk : ∀ σ2, Inv σ2 → ZO K () 1068 [some (.ref b), some (.ref (zad K 0 0)), some (.ref (zad K 21 0)), some (.int (nI n))] [] σ2 (some ())) : ZO K () 540 [some (.ref b), some (.ref (zad K 0 0)), some (.ref (zad K 21 0)), some (.int (nI n))] [] σ (some ()) := by
  obtain ⟨r, σ1, σ2, h1, h2, hI⟩ := hC
  refine z_aload_n (pc := 540) F dL_law_540 rfl ?_
  refine z_aload_n (pc := 541) F dL_law_541 rfl ?_
  refine z_iload_n (pc := 542) F dL_law_542 rfl ?_
  refine z_iconst (pc := 543) F (v := 1) dL_law_543 (by decide) ?_
  refine z_iadd (pc := 544) F dL_law_544 ?_
  refine z_sldn (pc := 545) F S n 1 rfl (by omega) hL dL_law_545 ?_
  refine z_callE (pc := 546) (st := []) F 0 0 [.int (xs (n + 1))] cl_RL_73 (tX8_key (zln K) σ (xs (n + 1))) rfl (by decide) (fun _ => ⟨_, rfl⟩) rfl (by rw [hR]; exact ⟨rfl, rfl, Nat.le_of_ble_eq_true rfl, Nat.le_of_ble_eq_true rfl⟩) rfl rfl (Nat.le_of_ble_eq_true rfl) dL_law_546 h1 ?_
  refine z_aload_n (pc := 549) F dL_law_549 rfl ?_
  refine z_aload_n (pc := 550) F dL_law_550 rfl ?_
  refine z_iload_n (pc := 551) F dL_law_551 rfl ?_
  refine z_iconst (pc := 552) F (v := 1) dL_law_552 (by decide) ?_
  refine z_iadd (pc := 553) F dL_law_553 ?_
  refine z_sldn (pc := 554) F S n 1 rfl (by omega) hL dL_law_554 ?_
  refine z_callE (pc := 555) (st := [.int r]) F 21 0 [.int (xs (n + 1))] cl_RL_76 (tX9_key (zln K) σ1 (xs (n + 1))) rfl (by decide) (fun _ => ⟨_, rfl⟩) rfl (by rw [hR]; exact ⟨rfl, rfl, Nat.le_of_ble_eq_true rfl, Nat.le_of_ble_eq_true rfl⟩) rfl rfl (Nat.le_of_ble_eq_true rfl) dL_law_555 h2 ?_
  refine z_eq1 (o := if r = r then some () else none) (if_pos rfl) ?_
  refine z_icmp_eq (o1 := some ()) (o2 := none) (pc := 558) F 1068 dL_law_558 (by decide) (fun _ => kk σ2 hI) (fun h => absurd rfl h)
theorem lc_15 {K : zX} (F : zF K cL_law RL (some .boolean)) (hR : zrm K = room_1) {b L : Nat} {xs : Nat → Int32} (S : zScr K b L xs) (St : zStr K) {Inv : zS → Prop} (n : Nat) (hn : n + 5 ≤ L) (hL : L ≤ 2560) (σ : zS) (hC : ∃ r σ1 σ2, fX8_wipe σ = some (r, σ1) ∧ fX9_wipe σ1 = some (r, σ2) ∧ Inv σ2) (kk : ∀ σ2, Inv σ2 → ZO K () 1068 [some (.ref b), some (.ref (zad K 0 0)), some (.ref (zad K 21 0)), some (.int (nI n))] [] σ2 (some ())) : ZO K () 563 [some (.ref b), some (.ref (zad K 0 0)), some (.ref (zad K 21 0)), some (.int (nI n))] [] σ (some ()) := by
  obtain ⟨r, σ1, σ2, h1, h2, hI⟩ := hC
  refine z_aload_n (pc := 563) F dL_law_563 rfl ?_
  refine z_callE (pc := 564) (st := []) F 0 0 [] cl_RL_77 (tX8_wipe (zln K) σ ) rfl (by decide) (fun _ => ⟨_, rfl⟩) rfl (by rw [hR]; exact ⟨rfl, rfl, Nat.le_of_ble_eq_true rfl, Nat.le_of_ble_eq_true rfl⟩) rfl rfl (Nat.le_of_ble_eq_true rfl) dL_law_564 h1 ?_
  refine z_aload_n (pc := 567) F dL_law_567 rfl ?_
  refine z_callE (pc := 568) (st := [.int r]) F 21 0 [] cl_RL_80 (tX9_wipe (zln K) σ1 ) rfl (by decide) (fun _ => ⟨_, rfl⟩) rfl (by rw [hR]; exact ⟨rfl, rfl, Nat.le_of_ble_eq_true rfl, Nat.le_of_ble_eq_true rfl⟩) rfl rfl (Nat.le_of_ble_eq_true rfl) dL_law_568 h2 ?_
  refine z_eq1 (o := if r = r then some () else none) (if_pos rfl) ?_
  refine z_icmp_eq (o1 := some ()) (o2 := none) (pc := 571) F 1068 dL_law_571 (by decide) (fun _ => kk σ2 hI) (fun h => absurd rfl h)
theorem lc_16 {K : zX} (F : zF K cL_law RL (some .boolean)) (hR : zrm K = room_1) {b L : Nat} {xs : Nat → Int32} (S : zScr K b L xs) (St : zStr K) {Inv : zS → Prop} (n : Nat) (hn : n + 5 ≤ L) (hL : L ≤ 2560) (σ : zS) (hC : ∃ r σ1 σ2, fX8_word σ = some (r, σ1) ∧ fX9_word σ1 = some (r, σ2) ∧ Inv σ2) (kk : ∀ σ2, Inv σ2 → ZO K () 1068 [some (.ref b), some (.ref (zad K 0 0)), some (.ref (zad K 21 0)), some (.int (nI n))] [] σ2 (some ())) : ZO K () 576 [some (.ref b), some (.ref (zad K 0 0)), some (.ref (zad K 21 0)), some (.int (nI n))] [] σ (some ()) := by
  obtain ⟨r, σ1, σ2, h1, h2, hI⟩ := hC
  refine z_aload_n (pc := 576) F dL_law_576 rfl ?_
  refine z_callEs (pc := 577) (st := []) F St 0 0 [] cl_RL_81 (tX8_word (zln K) σ ) rfl (by decide) (fun _ => ⟨_, rfl⟩) rfl (by rw [hR]; exact ⟨rfl, rfl, Nat.le_of_ble_eq_true rfl, Nat.le_of_ble_eq_true rfl⟩) rfl rfl (Nat.le_of_ble_eq_true rfl) dL_law_577 h1 ?_
  refine z_aload_n (pc := 580) F dL_law_580 rfl ?_
  refine z_callE (pc := 581) (st := [.int r]) F 21 0 [] cl_RL_84 (tX9_word (zln K) σ1 ) rfl (by decide) (fun _ => ⟨_, rfl⟩) rfl (by rw [hR]; exact ⟨rfl, rfl, Nat.le_of_ble_eq_true rfl, Nat.le_of_ble_eq_true rfl⟩) rfl rfl (Nat.le_of_ble_eq_true rfl) dL_law_581 h2 ?_
  refine z_eq1 (o := if r = r then some () else none) (if_pos rfl) ?_
  refine z_icmp_eq (o1 := some ()) (o2 := none) (pc := 584) F 1068 dL_law_584 (by decide) (fun _ => kk σ2 hI) (fun h => absurd rfl h)
theorem lc_17 {K : zX} (F : zF K cL_law RL (some .boolean)) (hR : zrm K = room_1) {b L : Nat} {xs : Nat → Int32} (S : zScr K b L xs) (St : zStr K) {Inv : zS → Prop} (n : Nat) (hn : n + 5 ≤ L) (hL : L ≤ 2560) (σ : zS) (hC : ∃ r σ1 σ2, fX8_open (xs (n + 1)) (xs (n + 2)) σ = some (r, σ1) ∧ fX9_open (xs (n + 1)) (xs (n + 2)) σ1 = some (r, σ2) ∧ Inv σ2) (kk : ∀ σ2, Inv σ2 → ZO K () 1068 [some (.ref b), some (.ref (zad K 0 0)), some (.ref (zad K 21 0)), some (.int (nI n))] [] σ2 (some ())) : ZO K () 589 [some (.ref b), some (.ref (zad K 0 0)), some (.ref (zad K 21 0)), some (.int (nI n))] [] σ (some ()) := by
  obtain ⟨r, σ1, σ2, h1, h2, hI⟩ := hC
  refine z_aload_n (pc := 589) F dL_law_589 rfl ?_
  refine z_aload_n (pc := 590) F dL_law_590 rfl ?_
  refine z_iload_n (pc := 591) F dL_law_591 rfl ?_
  refine z_iconst (pc := 592) F (v := 1) dL_law_592 (by decide) ?_
  refine z_iadd (pc := 593) F dL_law_593 ?_
  refine z_sldn (pc := 594) F S n 1 rfl (by omega) hL dL_law_594 ?_
  refine z_aload_n (pc := 595) F dL_law_595 rfl ?_
  refine z_iload_n (pc := 596) F dL_law_596 rfl ?_
  refine z_iconst (pc := 597) F (v := 2) dL_law_597 (by decide) ?_
  refine z_iadd (pc := 598) F dL_law_598 ?_
  refine z_sldn (pc := 599) F S n 2 rfl (by omega) hL dL_law_599 ?_
  refine z_callE (pc := 600) (st := []) F 0 0 [.int (xs (n + 1)), .int (xs (n + 2))] cl_RL_85 (tX8_open (zln K) σ (xs (n + 1)) (xs (n + 2))) rfl (by decide) (fun _ => ⟨_, rfl⟩) rfl (by rw [hR]; exact ⟨rfl, rfl, Nat.le_of_ble_eq_true rfl, Nat.le_of_ble_eq_true rfl⟩) rfl rfl (Nat.le_of_ble_eq_true rfl) dL_law_600 h1 ?_
  refine z_aload_n (pc := 603) F dL_law_603 rfl ?_
  refine z_aload_n (pc := 604) F dL_law_604 rfl ?_
  refine z_iload_n (pc := 605) F dL_law_605 rfl ?_
  refine z_iconst (pc := 606) F (v := 1) dL_law_606 (by decide) ?_
  refine z_iadd (pc := 607) F dL_law_607 ?_
  refine z_sldn (pc := 608) F S n 1 rfl (by omega) hL dL_law_608 ?_
  refine z_aload_n (pc := 609) F dL_law_609 rfl ?_
  refine z_iload_n (pc := 610) F dL_law_610 rfl ?_
  refine z_iconst (pc := 611) F (v := 2) dL_law_611 (by decide) ?_
  refine z_iadd (pc := 612) F dL_law_612 ?_
  refine z_sldn (pc := 613) F S n 2 rfl (by omega) hL dL_law_613 ?_
  refine z_callE (pc := 614) (st := [.int r]) F 21 0 [.int (xs (n + 1)), .int (xs (n + 2))] cl_RL_88 (tX9_open (zln K) σ1 (xs (n + 1)) (xs (n + 2))) rfl (by decide) (fun _ => ⟨_, rfl⟩) rfl (by rw [hR]; exact ⟨rfl, rfl, Nat.le_of_ble_eq_true rfl, Nat.le_of_ble_eq_true rfl⟩) rfl rfl (Nat.le_of_ble_eq_true rfl) dL_law_614 h2 ?_
  refine z_eq1 (o := if r = r then some () else none) (if_pos rfl) ?_
  refine z_icmp_eq (o1 := some ()) (o2 := none) (pc := 617) F 1068 dL_law_617 (by decide) (fun _ => kk σ2 hI) (fun h => absurd rfl h)
theorem lc_18 {K : zX} (F : zF K cL_law RL (some .boolean)) (hR : zrm K = room_1) {b L : Nat} {xs : Nat → Int32} (S : zScr K b L xs) (St : zStr K) {Inv : zS → Prop} (n : Nat) (hn : n + 5 ≤ L) (hL : L ≤ 2560) (σ : zS) (hC : ∃ r σ1 σ2, fX8_rank (xs (n + 1)) (xs (n + 2)) σ = some (r, σ1) ∧ fX9_rank (xs (n + 1)) (xs (n + 2)) σ1 = some (r, σ2) ∧ Inv σ2) (kk : ∀ σ2, Inv σ2 → ZO K () 1068 [some (.ref b), some (.ref (zad K 0 0)), some (.ref (zad K 21 0)), some (.int (nI n))] [] σ2 (some ())) : ZO K () 622 [some (.ref b), some (.ref (zad K 0 0)), some (.ref (zad K 21 0)), some (.int (nI n))] [] σ (some ()) := by
  obtain ⟨r, σ1, σ2, h1, h2, hI⟩ := hC
  refine z_aload_n (pc := 622) F dL_law_622 rfl ?_
  refine z_aload_n (pc := 623) F dL_law_623 rfl ?_
  refine z_iload_n (pc := 624) F dL_law_624 rfl ?_
  refine z_iconst (pc := 625) F (v := 1) dL_law_625 (by decide) ?_
  refine z_iadd (pc := 626) F dL_law_626 ?_
  refine z_sldn (pc := 627) F S n 1 rfl (by omega) hL dL_law_627 ?_
  refine z_aload_n (pc := 628) F dL_law_628 rfl ?_
  refine z_iload_n (pc := 629) F dL_law_629 rfl ?_
  refine z_iconst (pc := 630) F (v := 2) dL_law_630 (by decide) ?_
  refine z_iadd (pc := 631) F dL_law_631 ?_
  refine z_sldn (pc := 632) F S n 2 rfl (by omega) hL dL_law_632 ?_
  refine z_callE (pc := 633) (st := []) F 0 0 [.int (xs (n + 1)), .int (xs (n + 2))] cl_RL_89 (tX8_rank (zln K) σ (xs (n + 1)) (xs (n + 2))) rfl (by decide) (fun _ => ⟨_, rfl⟩) rfl (by rw [hR]; exact ⟨rfl, rfl, Nat.le_of_ble_eq_true rfl, Nat.le_of_ble_eq_true rfl⟩) rfl rfl (Nat.le_of_ble_eq_true rfl) dL_law_633 h1 ?_
  refine z_aload_n (pc := 636) F dL_law_636 rfl ?_
  refine z_aload_n (pc := 637) F dL_law_637 rfl ?_
  refine z_iload_n (pc := 638) F dL_law_638 rfl ?_
  refine z_iconst (pc := 639) F (v := 1) dL_law_639 (by decide) ?_
  refine z_iadd (pc := 640) F dL_law_640 ?_
  refine z_sldn (pc := 641) F S n 1 rfl (by omega) hL dL_law_641 ?_
  refine z_aload_n (pc := 642) F dL_law_642 rfl ?_
  refine z_iload_n (pc := 643) F dL_law_643 rfl ?_
  refine z_iconst (pc := 644) F (v := 2) dL_law_644 (by decide) ?_
  refine z_iadd (pc := 645) F dL_law_645 ?_
  refine z_sldn (pc := 646) F S n 2 rfl (by omega) hL dL_law_646 ?_
  refine z_callE (pc := 647) (st := [.int r]) F 21 0 [.int (xs (n + 1)), .int (xs (n + 2))] cl_RL_92 (tX9_rank (zln K) σ1 (xs (n + 1)) (xs (n + 2))) rfl (by decide) (fun _ => ⟨_, rfl⟩) rfl (by rw [hR]; exact ⟨rfl, rfl, Nat.le_of_ble_eq_true rfl, Nat.le_of_ble_eq_true rfl⟩) rfl rfl (Nat.le_of_ble_eq_true rfl) dL_law_647 h2 ?_
  refine z_eq1 (o := if r = r then some () else none) (if_pos rfl) ?_
  refine z_icmp_eq (o1 := some ()) (o2 := none) (pc := 650) F 1068 dL_law_650 (by decide) (fun _ => kk σ2 hI) (fun h => absurd rfl h)
theorem lc_19 {K : zX} (F : zF K cL_law RL (some .boolean)) (hR : zrm K = room_1) {b L : Nat} {xs : Nat → Int32} (S : zScr K b L xs) (St : zStr K) {Inv : zS → Prop} (n : Nat) (hn : n + 5 ≤ L) (hL : L ≤ 2560) (σ : zS) (hC : ∃ r σ1 σ2, fX8_row (xs (n + 1)) (xs (n + 2)) (xs (n + 3)) (xs (n + 4)) σ = some (r, σ1) ∧ fX9_row (xs (n + 1)) (xs (n + 2)) (xs (n + 3)) (xs (n + 4)) σ1 = some (r, σ2) ∧ Inv σ2) (kk : ∀ σ2, Inv σ2 → ZO K () 1068 [some (.ref b), some (.ref (zad K 0 0)), some (.ref (zad K 21 0)), some (.int (nI n))] [] σ2 (some ())) : ZO K () 655 [some (.ref b), some (.ref (zad K 0 0)), some (.ref (zad K 21 0)), some (.int (nI n))] [] σ (some ()) := by
  obtain ⟨r, σ1, σ2, h1, h2, hI⟩ := hC
  refine z_aload_n (pc := 655) F dL_law_655 rfl ?_
  refine z_aload_n (pc := 656) F dL_law_656 rfl ?_
  refine z_iload_n (pc := 657) F dL_law_657 rfl ?_
  refine z_iconst (pc := 658) F (v := 1) dL_law_658 (by decide) ?_
  refine z_iadd (pc := 659) F dL_law_659 ?_
  refine z_sldn (pc := 660) F S n 1 rfl (by omega) hL dL_law_660 ?_
  refine z_aload_n (pc := 661) F dL_law_661 rfl ?_
  refine z_iload_n (pc := 662) F dL_law_662 rfl ?_
  refine z_iconst (pc := 663) F (v := 2) dL_law_663 (by decide) ?_
  refine z_iadd (pc := 664) F dL_law_664 ?_
  refine z_sldn (pc := 665) F S n 2 rfl (by omega) hL dL_law_665 ?_
  refine z_aload_n (pc := 666) F dL_law_666 rfl ?_
  refine z_iload_n (pc := 667) F dL_law_667 rfl ?_
  refine z_iconst (pc := 668) F (v := 3) dL_law_668 (by decide) ?_
  refine z_iadd (pc := 669) F dL_law_669 ?_
  refine z_sldn (pc := 670) F S n 3 rfl (by omega) hL dL_law_670 ?_
  refine z_aload_n (pc := 671) F dL_law_671 rfl ?_
  refine z_iload_n (pc := 672) F dL_law_672 rfl ?_
  refine z_iconst (pc := 673) F (v := 4) dL_law_673 (by decide) ?_
  refine z_iadd (pc := 674) F dL_law_674 ?_
  refine z_sldn (pc := 675) F S n 4 rfl (by omega) hL dL_law_675 ?_
  refine z_callE (pc := 676) (st := []) F 0 0 [.int (xs (n + 1)), .int (xs (n + 2)), .int (xs (n + 3)), .int (xs (n + 4))] cl_RL_93 (tX8_row (zln K) σ (xs (n + 1)) (xs (n + 2)) (xs (n + 3)) (xs (n + 4))) rfl (by decide) (fun _ => ⟨_, rfl⟩) rfl (by rw [hR]; exact ⟨rfl, rfl, Nat.le_of_ble_eq_true rfl, Nat.le_of_ble_eq_true rfl⟩) rfl rfl (Nat.le_of_ble_eq_true rfl) dL_law_676 h1 ?_
  refine z_aload_n (pc := 679) F dL_law_679 rfl ?_
  refine z_aload_n (pc := 680) F dL_law_680 rfl ?_
  refine z_iload_n (pc := 681) F dL_law_681 rfl ?_
  refine z_iconst (pc := 682) F (v := 1) dL_law_682 (by decide) ?_
  refine z_iadd (pc := 683) F dL_law_683 ?_
  refine z_sldn (pc := 684) F S n 1 rfl (by omega) hL dL_law_684 ?_
  refine z_aload_n (pc := 685) F dL_law_685 rfl ?_
  refine z_iload_n (pc := 686) F dL_law_686 rfl ?_
  refine z_iconst (pc := 687) F (v := 2) dL_law_687 (by decide) ?_
  refine z_iadd (pc := 688) F dL_law_688 ?_
  refine z_sldn (pc := 689) F S n 2 rfl (by omega) hL dL_law_689 ?_
  refine z_aload_n (pc := 690) F dL_law_690 rfl ?_
  refine z_iload_n (pc := 691) F dL_law_691 rfl ?_
  refine z_iconst (pc := 692) F (v := 3) dL_law_692 (by decide) ?_
  refine z_iadd (pc := 693) F dL_law_693 ?_
  refine z_sldn (pc := 694) F S n 3 rfl (by omega) hL dL_law_694 ?_
  refine z_aload_n (pc := 695) F dL_law_695 rfl ?_
  refine z_iload_n (pc := 696) F dL_law_696 rfl ?_
  refine z_iconst (pc := 697) F (v := 4) dL_law_697 (by decide) ?_
  refine z_iadd (pc := 698) F dL_law_698 ?_
  refine z_sldn (pc := 699) F S n 4 rfl (by omega) hL dL_law_699 ?_
  refine z_callE (pc := 700) (st := [.int r]) F 21 0 [.int (xs (n + 1)), .int (xs (n + 2)), .int (xs (n + 3)), .int (xs (n + 4))] cl_RL_97 (tX9_row (zln K) σ1 (xs (n + 1)) (xs (n + 2)) (xs (n + 3)) (xs (n + 4))) rfl (by decide) (fun _ => ⟨_, rfl⟩) rfl (by rw [hR]; exact ⟨rfl, rfl, Nat.le_of_ble_eq_true rfl, Nat.le_of_ble_eq_true rfl⟩) rfl rfl (Nat.le_of_ble_eq_true rfl) dL_law_700 h2 ?_
  refine z_eq1 (o := if r = r then some () else none) (if_pos rfl) ?_
  refine z_icmp_eq (o1 := some ()) (o2 := none) (pc := 703) F 1068 dL_law_703 (by decide) (fun _ => kk σ2 hI) (fun h => absurd rfl h)
theorem lc_20 {K : zX} (F : zF K cL_law RL (some .boolean)) (hR : zrm K = room_1) {b L : Nat} {xs : Nat → Int32} (S : zScr K b L xs) (St : zStr K) {Inv : zS → Prop} (n : Nat) (hn : n + 5 ≤ L) (hL : L ≤ 2560) (σ : zS) (hC : ∃ r σ1 σ2, fX8_read (xs (n + 1)) (xs (n + 2)) (xs (n + 3)) (xs (n + 4)) σ = some (r, σ1) ∧ fX9_read (xs (n + 1)) (xs (n + 2)) (xs (n + 3)) (xs (n + 4)) σ1 = some (r, σ2) ∧ Inv σ2) (kk : ∀ σ2, Inv σ2 → ZO K () 1068 [some (.ref b), some (.ref (zad K 0 0)), some (.ref (zad K 21 0)), some (.int (nI n))] [] σ2 (some ())) : ZO K () 708 [some (.ref b), some (.ref (zad K 0 0)), some (.ref (zad K 21 0)), some (.int (nI n))] [] σ (some ()) := by
  obtain ⟨r, σ1, σ2, h1, h2, hI⟩ := hC
  refine z_aload_n (pc := 708) F dL_law_708 rfl ?_
  refine z_aload_n (pc := 709) F dL_law_709 rfl ?_
  refine z_iload_n (pc := 710) F dL_law_710 rfl ?_
  refine z_iconst (pc := 711) F (v := 1) dL_law_711 (by decide) ?_
  refine z_iadd (pc := 712) F dL_law_712 ?_
  refine z_sldn (pc := 713) F S n 1 rfl (by omega) hL dL_law_713 ?_
  refine z_aload_n (pc := 714) F dL_law_714 rfl ?_
  refine z_iload_n (pc := 715) F dL_law_715 rfl ?_
  refine z_iconst (pc := 716) F (v := 2) dL_law_716 (by decide) ?_
  refine z_iadd (pc := 717) F dL_law_717 ?_
  refine z_sldn (pc := 718) F S n 2 rfl (by omega) hL dL_law_718 ?_
  refine z_aload_n (pc := 719) F dL_law_719 rfl ?_
  refine z_iload_n (pc := 720) F dL_law_720 rfl ?_
  refine z_iconst (pc := 721) F (v := 3) dL_law_721 (by decide) ?_
  refine z_iadd (pc := 722) F dL_law_722 ?_
  refine z_sldn (pc := 723) F S n 3 rfl (by omega) hL dL_law_723 ?_
  refine z_aload_n (pc := 724) F dL_law_724 rfl ?_
  refine z_iload_n (pc := 725) F dL_law_725 rfl ?_
  refine z_iconst (pc := 726) F (v := 4) dL_law_726 (by decide) ?_
  refine z_iadd (pc := 727) F dL_law_727 ?_
  refine z_sldn (pc := 728) F S n 4 rfl (by omega) hL dL_law_728 ?_
  refine z_callE (pc := 729) (st := []) F 0 0 [.int (xs (n + 1)), .int (xs (n + 2)), .int (xs (n + 3)), .int (xs (n + 4))] cl_RL_98 (tX8_read (zln K) σ (xs (n + 1)) (xs (n + 2)) (xs (n + 3)) (xs (n + 4))) rfl (by decide) (fun _ => ⟨_, rfl⟩) rfl (by rw [hR]; exact ⟨rfl, rfl, Nat.le_of_ble_eq_true rfl, Nat.le_of_ble_eq_true rfl⟩) rfl rfl (Nat.le_of_ble_eq_true rfl) dL_law_729 h1 ?_
  refine z_aload_n (pc := 732) F dL_law_732 rfl ?_
  refine z_aload_n (pc := 733) F dL_law_733 rfl ?_
  refine z_iload_n (pc := 734) F dL_law_734 rfl ?_
  refine z_iconst (pc := 735) F (v := 1) dL_law_735 (by decide) ?_
  refine z_iadd (pc := 736) F dL_law_736 ?_
  refine z_sldn (pc := 737) F S n 1 rfl (by omega) hL dL_law_737 ?_
  refine z_aload_n (pc := 738) F dL_law_738 rfl ?_
  refine z_iload_n (pc := 739) F dL_law_739 rfl ?_
  refine z_iconst (pc := 740) F (v := 2) dL_law_740 (by decide) ?_
  refine z_iadd (pc := 741) F dL_law_741 ?_
  refine z_sldn (pc := 742) F S n 2 rfl (by omega) hL dL_law_742 ?_
  refine z_aload_n (pc := 743) F dL_law_743 rfl ?_
  refine z_iload_n (pc := 744) F dL_law_744 rfl ?_
  refine z_iconst (pc := 745) F (v := 3) dL_law_745 (by decide) ?_
  refine z_iadd (pc := 746) F dL_law_746 ?_
  refine z_sldn (pc := 747) F S n 3 rfl (by omega) hL dL_law_747 ?_
  refine z_aload_n (pc := 748) F dL_law_748 rfl ?_
  refine z_iload_n (pc := 749) F dL_law_749 rfl ?_
  refine z_iconst (pc := 750) F (v := 4) dL_law_750 (by decide) ?_
  refine z_iadd (pc := 751) F dL_law_751 ?_
  refine z_sldn (pc := 752) F S n 4 rfl (by omega) hL dL_law_752 ?_
  refine z_callE (pc := 753) (st := [.int r]) F 21 0 [.int (xs (n + 1)), .int (xs (n + 2)), .int (xs (n + 3)), .int (xs (n + 4))] cl_RL_101 (tX9_read (zln K) σ1 (xs (n + 1)) (xs (n + 2)) (xs (n + 3)) (xs (n + 4))) rfl (by decide) (fun _ => ⟨_, rfl⟩) rfl (by rw [hR]; exact ⟨rfl, rfl, Nat.le_of_ble_eq_true rfl, Nat.le_of_ble_eq_true rfl⟩) rfl rfl (Nat.le_of_ble_eq_true rfl) dL_law_753 h2 ?_
  refine z_eq1 (o := if r = r then some () else none) (if_pos rfl) ?_
  refine z_icmp_eq (o1 := some ()) (o2 := none) (pc := 756) F 1068 dL_law_756 (by decide) (fun _ => kk σ2 hI) (fun h => absurd rfl h)
theorem lc_21 {K : zX} (F : zF K cL_law RL (some .boolean)) (hR : zrm K = room_1) {b L : Nat} {xs : Nat → Int32} (S : zScr K b L xs) (St : zStr K) {Inv : zS → Prop} (n : Nat) (hn : n + 5 ≤ L) (hL : L ≤ 2560) (σ : zS) (hC : ∃ r σ1 σ2, fX8_mix (xs (n + 1)) (xs (n + 2)) (xs (n + 3)) (xs (n + 4)) σ = some (r, σ1) ∧ fX9_mix (xs (n + 1)) (xs (n + 2)) (xs (n + 3)) (xs (n + 4)) σ1 = some (r, σ2) ∧ Inv σ2) (kk : ∀ σ2, Inv σ2 → ZO K () 1068 [some (.ref b), some (.ref (zad K 0 0)), some (.ref (zad K 21 0)), some (.int (nI n))] [] σ2 (some ())) : ZO K () 761 [some (.ref b), some (.ref (zad K 0 0)), some (.ref (zad K 21 0)), some (.int (nI n))] [] σ (some ()) := by
  obtain ⟨r, σ1, σ2, h1, h2, hI⟩ := hC
  refine z_aload_n (pc := 761) F dL_law_761 rfl ?_
  refine z_aload_n (pc := 762) F dL_law_762 rfl ?_
  refine z_iload_n (pc := 763) F dL_law_763 rfl ?_
  refine z_iconst (pc := 764) F (v := 1) dL_law_764 (by decide) ?_
  refine z_iadd (pc := 765) F dL_law_765 ?_
  refine z_sldn (pc := 766) F S n 1 rfl (by omega) hL dL_law_766 ?_
  refine z_aload_n (pc := 767) F dL_law_767 rfl ?_
  refine z_iload_n (pc := 768) F dL_law_768 rfl ?_
  refine z_iconst (pc := 769) F (v := 2) dL_law_769 (by decide) ?_
  refine z_iadd (pc := 770) F dL_law_770 ?_
  refine z_sldn (pc := 771) F S n 2 rfl (by omega) hL dL_law_771 ?_
  refine z_aload_n (pc := 772) F dL_law_772 rfl ?_
  refine z_iload_n (pc := 773) F dL_law_773 rfl ?_
  refine z_iconst (pc := 774) F (v := 3) dL_law_774 (by decide) ?_
  refine z_iadd (pc := 775) F dL_law_775 ?_
  refine z_sldn (pc := 776) F S n 3 rfl (by omega) hL dL_law_776 ?_
  refine z_aload_n (pc := 777) F dL_law_777 rfl ?_
  refine z_iload_n (pc := 778) F dL_law_778 rfl ?_
  refine z_iconst (pc := 779) F (v := 4) dL_law_779 (by decide) ?_
  refine z_iadd (pc := 780) F dL_law_780 ?_
  refine z_sldn (pc := 781) F S n 4 rfl (by omega) hL dL_law_781 ?_
  refine z_callE (pc := 782) (st := []) F 0 0 [.int (xs (n + 1)), .int (xs (n + 2)), .int (xs (n + 3)), .int (xs (n + 4))] cl_RL_102 (tX8_mix (zln K) σ (xs (n + 1)) (xs (n + 2)) (xs (n + 3)) (xs (n + 4))) rfl (by decide) (fun _ => ⟨_, rfl⟩) rfl (by rw [hR]; exact ⟨rfl, rfl, Nat.le_of_ble_eq_true rfl, Nat.le_of_ble_eq_true rfl⟩) rfl rfl (Nat.le_of_ble_eq_true rfl) dL_law_782 h1 ?_
  refine z_aload_n (pc := 785) F dL_law_785 rfl ?_
  refine z_aload_n (pc := 786) F dL_law_786 rfl ?_
  refine z_iload_n (pc := 787) F dL_law_787 rfl ?_
  refine z_iconst (pc := 788) F (v := 1) dL_law_788 (by decide) ?_
  refine z_iadd (pc := 789) F dL_law_789 ?_
  refine z_sldn (pc := 790) F S n 1 rfl (by omega) hL dL_law_790 ?_
  refine z_aload_n (pc := 791) F dL_law_791 rfl ?_
  refine z_iload_n (pc := 792) F dL_law_792 rfl ?_
  refine z_iconst (pc := 793) F (v := 2) dL_law_793 (by decide) ?_
  refine z_iadd (pc := 794) F dL_law_794 ?_
  refine z_sldn (pc := 795) F S n 2 rfl (by omega) hL dL_law_795 ?_
  refine z_aload_n (pc := 796) F dL_law_796 rfl ?_
  refine z_iload_n (pc := 797) F dL_law_797 rfl ?_
  refine z_iconst (pc := 798) F (v := 3) dL_law_798 (by decide) ?_
  refine z_iadd (pc := 799) F dL_law_799 ?_
  refine z_sldn (pc := 800) F S n 3 rfl (by omega) hL dL_law_800 ?_
  refine z_aload_n (pc := 801) F dL_law_801 rfl ?_
  refine z_iload_n (pc := 802) F dL_law_802 rfl ?_
  refine z_iconst (pc := 803) F (v := 4) dL_law_803 (by decide) ?_
  refine z_iadd (pc := 804) F dL_law_804 ?_
  refine z_sldn (pc := 805) F S n 4 rfl (by omega) hL dL_law_805 ?_
  refine z_callE (pc := 806) (st := [.int r]) F 21 0 [.int (xs (n + 1)), .int (xs (n + 2)), .int (xs (n + 3)), .int (xs (n + 4))] cl_RL_105 (tX9_mix (zln K) σ1 (xs (n + 1)) (xs (n + 2)) (xs (n + 3)) (xs (n + 4))) rfl (by decide) (fun _ => ⟨_, rfl⟩) rfl (by rw [hR]; exact ⟨rfl, rfl, Nat.le_of_ble_eq_true rfl, Nat.le_of_ble_eq_true rfl⟩) rfl rfl (Nat.le_of_ble_eq_true rfl) dL_law_806 h2 ?_
  refine z_eq1 (o := if r = r then some () else none) (if_pos rfl) ?_
  refine z_icmp_eq (o1 := some ()) (o2 := none) (pc := 809) F 1068 dL_law_809 (by decide) (fun _ => kk σ2 hI) (fun h => absurd rfl h)
theorem lc_22 {K : zX} (F : zF K cL_law RL (some .boolean)) (hR : zrm K = room_1) {b L : Nat} {xs : Nat → Int32} (S : zScr K b L xs) (St : zStr K) {Inv : zS → Prop} (n : Nat) (hn : n + 5 ≤ L) (hL : L ≤ 2560) (σ : zS) (hC : ∃ r σ1 σ2, fX8_draw (xs (n + 1)) (xs (n + 2)) (xs (n + 3)) σ = some (r, σ1) ∧ fX9_draw (xs (n + 1)) (xs (n + 2)) (xs (n + 3)) σ1 = some (r, σ2) ∧ Inv σ2) (kk : ∀ σ2, Inv σ2 → ZO K () 1068 [some (.ref b), some (.ref (zad K 0 0)), some (.ref (zad K 21 0)), some (.int (nI n))] [] σ2 (some ())) : ZO K () 814 [some (.ref b), some (.ref (zad K 0 0)), some (.ref (zad K 21 0)), some (.int (nI n))] [] σ (some ()) := by
  obtain ⟨r, σ1, σ2, h1, h2, hI⟩ := hC
  refine z_aload_n (pc := 814) F dL_law_814 rfl ?_
  refine z_aload_n (pc := 815) F dL_law_815 rfl ?_
  refine z_iload_n (pc := 816) F dL_law_816 rfl ?_
  refine z_iconst (pc := 817) F (v := 1) dL_law_817 (by decide) ?_
  refine z_iadd (pc := 818) F dL_law_818 ?_
  refine z_sldn (pc := 819) F S n 1 rfl (by omega) hL dL_law_819 ?_
  refine z_aload_n (pc := 820) F dL_law_820 rfl ?_
  refine z_iload_n (pc := 821) F dL_law_821 rfl ?_
  refine z_iconst (pc := 822) F (v := 2) dL_law_822 (by decide) ?_
  refine z_iadd (pc := 823) F dL_law_823 ?_
  refine z_sldn (pc := 824) F S n 2 rfl (by omega) hL dL_law_824 ?_
  refine z_aload_n (pc := 825) F dL_law_825 rfl ?_
  refine z_iload_n (pc := 826) F dL_law_826 rfl ?_
  refine z_iconst (pc := 827) F (v := 3) dL_law_827 (by decide) ?_
  refine z_iadd (pc := 828) F dL_law_828 ?_
  refine z_sldn (pc := 829) F S n 3 rfl (by omega) hL dL_law_829 ?_
  refine z_callE (pc := 830) (st := []) F 0 0 [.int (xs (n + 1)), .int (xs (n + 2)), .int (xs (n + 3))] cl_RL_106 (tX8_draw (zln K) σ (xs (n + 1)) (xs (n + 2)) (xs (n + 3))) rfl (by decide) (fun _ => ⟨_, rfl⟩) rfl (by rw [hR]; exact ⟨rfl, rfl, Nat.le_of_ble_eq_true rfl, Nat.le_of_ble_eq_true rfl⟩) rfl rfl (Nat.le_of_ble_eq_true rfl) dL_law_830 h1 ?_
  refine z_aload_n (pc := 833) F dL_law_833 rfl ?_
  refine z_aload_n (pc := 834) F dL_law_834 rfl ?_
  refine z_iload_n (pc := 835) F dL_law_835 rfl ?_
  refine z_iconst (pc := 836) F (v := 1) dL_law_836 (by decide) ?_
  refine z_iadd (pc := 837) F dL_law_837 ?_
  refine z_sldn (pc := 838) F S n 1 rfl (by omega) hL dL_law_838 ?_
  refine z_aload_n (pc := 839) F dL_law_839 rfl ?_
  refine z_iload_n (pc := 840) F dL_law_840 rfl ?_
  refine z_iconst (pc := 841) F (v := 2) dL_law_841 (by decide) ?_
  refine z_iadd (pc := 842) F dL_law_842 ?_
  refine z_sldn (pc := 843) F S n 2 rfl (by omega) hL dL_law_843 ?_
  refine z_aload_n (pc := 844) F dL_law_844 rfl ?_
  refine z_iload_n (pc := 845) F dL_law_845 rfl ?_
  refine z_iconst (pc := 846) F (v := 3) dL_law_846 (by decide) ?_
  refine z_iadd (pc := 847) F dL_law_847 ?_
  refine z_sldn (pc := 848) F S n 3 rfl (by omega) hL dL_law_848 ?_
  refine z_callE (pc := 849) (st := [.int r]) F 21 0 [.int (xs (n + 1)), .int (xs (n + 2)), .int (xs (n + 3))] cl_RL_109 (tX9_draw (zln K) σ1 (xs (n + 1)) (xs (n + 2)) (xs (n + 3))) rfl (by decide) (fun _ => ⟨_, rfl⟩) rfl (by rw [hR]; exact ⟨rfl, rfl, Nat.le_of_ble_eq_true rfl, Nat.le_of_ble_eq_true rfl⟩) rfl rfl (Nat.le_of_ble_eq_true rfl) dL_law_849 h2 ?_
  refine z_eq1 (o := if r = r then some () else none) (if_pos rfl) ?_
  refine z_icmp_eq (o1 := some ()) (o2 := none) (pc := 852) F 1068 dL_law_852 (by decide) (fun _ => kk σ2 hI) (fun h => absurd rfl h)
theorem lc_23 {K : zX} (F : zF K cL_law RL (some .boolean)) (hR : zrm K = room_1) {b L : Nat} {xs : Nat → Int32} (S : zScr K b L xs) (St : zStr K) {Inv : zS → Prop} (n : Nat) (hn : n + 5 ≤ L) (hL : L ≤ 2560) (σ : zS) (hC : ∃ r σ1 σ2, fX8_fresh (xs (n + 1)) (xs (n + 2)) (xs (n + 3)) σ = some (r, σ1) ∧ fX9_fresh (xs (n + 1)) (xs (n + 2)) (xs (n + 3)) σ1 = some (r, σ2) ∧ Inv σ2) (kk : ∀ σ2, Inv σ2 → ZO K () 1068 [some (.ref b), some (.ref (zad K 0 0)), some (.ref (zad K 21 0)), some (.int (nI n))] [] σ2 (some ())) : ZO K () 857 [some (.ref b), some (.ref (zad K 0 0)), some (.ref (zad K 21 0)), some (.int (nI n))] [] σ (some ()) := by
  obtain ⟨r, σ1, σ2, h1, h2, hI⟩ := hC
  refine z_aload_n (pc := 857) F dL_law_857 rfl ?_
  refine z_aload_n (pc := 858) F dL_law_858 rfl ?_
  refine z_iload_n (pc := 859) F dL_law_859 rfl ?_
  refine z_iconst (pc := 860) F (v := 1) dL_law_860 (by decide) ?_
  refine z_iadd (pc := 861) F dL_law_861 ?_
  refine z_sldn (pc := 862) F S n 1 rfl (by omega) hL dL_law_862 ?_
  refine z_aload_n (pc := 863) F dL_law_863 rfl ?_
  refine z_iload_n (pc := 864) F dL_law_864 rfl ?_
  refine z_iconst (pc := 865) F (v := 2) dL_law_865 (by decide) ?_
  refine z_iadd (pc := 866) F dL_law_866 ?_
  refine z_sldn (pc := 867) F S n 2 rfl (by omega) hL dL_law_867 ?_
  refine z_aload_n (pc := 868) F dL_law_868 rfl ?_
  refine z_iload_n (pc := 869) F dL_law_869 rfl ?_
  refine z_iconst (pc := 870) F (v := 3) dL_law_870 (by decide) ?_
  refine z_iadd (pc := 871) F dL_law_871 ?_
  refine z_sldn (pc := 872) F S n 3 rfl (by omega) hL dL_law_872 ?_
  refine z_callE (pc := 873) (st := []) F 0 0 [.int (xs (n + 1)), .int (xs (n + 2)), .int (xs (n + 3))] cl_RL_110 (tX8_fresh (zln K) σ (xs (n + 1)) (xs (n + 2)) (xs (n + 3))) rfl (by decide) (fun _ => ⟨_, rfl⟩) rfl (by rw [hR]; exact ⟨rfl, rfl, Nat.le_of_ble_eq_true rfl, Nat.le_of_ble_eq_true rfl⟩) rfl rfl (Nat.le_of_ble_eq_true rfl) dL_law_873 h1 ?_
  refine z_aload_n (pc := 876) F dL_law_876 rfl ?_
  refine z_aload_n (pc := 877) F dL_law_877 rfl ?_
  refine z_iload_n (pc := 878) F dL_law_878 rfl ?_
  refine z_iconst (pc := 879) F (v := 1) dL_law_879 (by decide) ?_
  refine z_iadd (pc := 880) F dL_law_880 ?_
  refine z_sldn (pc := 881) F S n 1 rfl (by omega) hL dL_law_881 ?_
  refine z_aload_n (pc := 882) F dL_law_882 rfl ?_
  refine z_iload_n (pc := 883) F dL_law_883 rfl ?_
  refine z_iconst (pc := 884) F (v := 2) dL_law_884 (by decide) ?_
  refine z_iadd (pc := 885) F dL_law_885 ?_
  refine z_sldn (pc := 886) F S n 2 rfl (by omega) hL dL_law_886 ?_
  refine z_aload_n (pc := 887) F dL_law_887 rfl ?_
  refine z_iload_n (pc := 888) F dL_law_888 rfl ?_
  refine z_iconst (pc := 889) F (v := 3) dL_law_889 (by decide) ?_
  refine z_iadd (pc := 890) F dL_law_890 ?_
  refine z_sldn (pc := 891) F S n 3 rfl (by omega) hL dL_law_891 ?_
  refine z_callE (pc := 892) (st := [.int r]) F 21 0 [.int (xs (n + 1)), .int (xs (n + 2)), .int (xs (n + 3))] cl_RL_113 (tX9_fresh (zln K) σ1 (xs (n + 1)) (xs (n + 2)) (xs (n + 3))) rfl (by decide) (fun _ => ⟨_, rfl⟩) rfl (by rw [hR]; exact ⟨rfl, rfl, Nat.le_of_ble_eq_true rfl, Nat.le_of_ble_eq_true rfl⟩) rfl rfl (Nat.le_of_ble_eq_true rfl) dL_law_892 h2 ?_
  refine z_eq1 (o := if r = r then some () else none) (if_pos rfl) ?_
  refine z_icmp_eq (o1 := some ()) (o2 := none) (pc := 895) F 1068 dL_law_895 (by decide) (fun _ => kk σ2 hI) (fun h => absurd rfl h)
theorem lc_24 {K : zX} (F : zF K cL_law RL (some .boolean)) (hR : zrm K = room_1) {b L : Nat} {xs : Nat → Int32} (S : zScr K b L xs) (St : zStr K) {Inv : zS → Prop} (n : Nat) (hn : n + 5 ≤ L) (hL : L ≤ 2560) (σ : zS) (hC : ∃ r σ1 σ2, fX8_forAll (xs (n + 1)) (xs (n + 2)) σ = some (r, σ1) ∧ fX9_forAll (xs (n + 1)) (xs (n + 2)) σ1 = some (r, σ2) ∧ Inv σ2) (kk : ∀ σ2, Inv σ2 → ZO K () 1068 [some (.ref b), some (.ref (zad K 0 0)), some (.ref (zad K 21 0)), some (.int (nI n))] [] σ2 (some ())) : ZO K () 900 [some (.ref b), some (.ref (zad K 0 0)), some (.ref (zad K 21 0)), some (.int (nI n))] [] σ (some ()) := by
  obtain ⟨r, σ1, σ2, h1, h2, hI⟩ := hC
  refine z_aload_n (pc := 900) F dL_law_900 rfl ?_
  refine z_aload_n (pc := 901) F dL_law_901 rfl ?_
  refine z_iload_n (pc := 902) F dL_law_902 rfl ?_
  refine z_iconst (pc := 903) F (v := 1) dL_law_903 (by decide) ?_
  refine z_iadd (pc := 904) F dL_law_904 ?_
  refine z_sldn (pc := 905) F S n 1 rfl (by omega) hL dL_law_905 ?_
  refine z_aload_n (pc := 906) F dL_law_906 rfl ?_
  refine z_iload_n (pc := 907) F dL_law_907 rfl ?_
  refine z_iconst (pc := 908) F (v := 2) dL_law_908 (by decide) ?_
  refine z_iadd (pc := 909) F dL_law_909 ?_
  refine z_sldn (pc := 910) F S n 2 rfl (by omega) hL dL_law_910 ?_
  refine z_callE (pc := 911) (st := []) F 0 0 [.int (xs (n + 1)), .int (xs (n + 2))] cl_RL_114 (tX8_forAll (zln K) σ (xs (n + 1)) (xs (n + 2))) rfl (by decide) (fun _ => ⟨_, rfl⟩) rfl (by rw [hR]; exact ⟨rfl, rfl, Nat.le_of_ble_eq_true rfl, Nat.le_of_ble_eq_true rfl⟩) rfl rfl (Nat.le_of_ble_eq_true rfl) dL_law_911 h1 ?_
  refine z_aload_n (pc := 914) F dL_law_914 rfl ?_
  refine z_aload_n (pc := 915) F dL_law_915 rfl ?_
  refine z_iload_n (pc := 916) F dL_law_916 rfl ?_
  refine z_iconst (pc := 917) F (v := 1) dL_law_917 (by decide) ?_
  refine z_iadd (pc := 918) F dL_law_918 ?_
  refine z_sldn (pc := 919) F S n 1 rfl (by omega) hL dL_law_919 ?_
  refine z_aload_n (pc := 920) F dL_law_920 rfl ?_
  refine z_iload_n (pc := 921) F dL_law_921 rfl ?_
  refine z_iconst (pc := 922) F (v := 2) dL_law_922 (by decide) ?_
  refine z_iadd (pc := 923) F dL_law_923 ?_
  refine z_sldn (pc := 924) F S n 2 rfl (by omega) hL dL_law_924 ?_
  refine z_callE (pc := 925) (st := [.int r]) F 21 0 [.int (xs (n + 1)), .int (xs (n + 2))] cl_RL_117 (tX9_forAll (zln K) σ1 (xs (n + 1)) (xs (n + 2))) rfl (by decide) (fun _ => ⟨_, rfl⟩) rfl (by rw [hR]; exact ⟨rfl, rfl, Nat.le_of_ble_eq_true rfl, Nat.le_of_ble_eq_true rfl⟩) rfl rfl (Nat.le_of_ble_eq_true rfl) dL_law_925 h2 ?_
  refine z_eq1 (o := if r = r then some () else none) (if_pos rfl) ?_
  refine z_icmp_eq (o1 := some ()) (o2 := none) (pc := 928) F 1068 dL_law_928 (by decide) (fun _ => kk σ2 hI) (fun h => absurd rfl h)
theorem lc_25 {K : zX} (F : zF K cL_law RL (some .boolean)) (hR : zrm K = room_1) {b L : Nat} {xs : Nat → Int32} (S : zScr K b L xs) (St : zStr K) {Inv : zS → Prop} (n : Nat) (hn : n + 5 ≤ L) (hL : L ≤ 2560) (σ : zS) (hC : ∃ r σ1 σ2, fX8_sweep σ = some (r, σ1) ∧ fX9_sweep σ1 = some (r, σ2) ∧ Inv σ2) (kk : ∀ σ2, Inv σ2 → ZO K () 1068 [some (.ref b), some (.ref (zad K 0 0)), some (.ref (zad K 21 0)), some (.int (nI n))] [] σ2 (some ())) : ZO K () 933 [some (.ref b), some (.ref (zad K 0 0)), some (.ref (zad K 21 0)), some (.int (nI n))] [] σ (some ()) := by
  obtain ⟨r, σ1, σ2, h1, h2, hI⟩ := hC
  refine z_aload_n (pc := 933) F dL_law_933 rfl ?_
  refine z_callE (pc := 934) (st := []) F 0 0 [] cl_RL_118 (tX8_sweep (zln K) σ ) rfl (by decide) (fun _ => ⟨_, rfl⟩) rfl (by rw [hR]; exact ⟨rfl, rfl, Nat.le_of_ble_eq_true rfl, Nat.le_of_ble_eq_true rfl⟩) rfl rfl (Nat.le_of_ble_eq_true rfl) dL_law_934 h1 ?_
  refine z_aload_n (pc := 937) F dL_law_937 rfl ?_
  refine z_callE (pc := 938) (st := [.int r]) F 21 0 [] cl_RL_121 (tX9_sweep (zln K) σ1 ) rfl (by decide) (fun _ => ⟨_, rfl⟩) rfl (by rw [hR]; exact ⟨rfl, rfl, Nat.le_of_ble_eq_true rfl, Nat.le_of_ble_eq_true rfl⟩) rfl rfl (Nat.le_of_ble_eq_true rfl) dL_law_938 h2 ?_
  refine z_eq1 (o := if r = r then some () else none) (if_pos rfl) ?_
  refine z_icmp_eq (o1 := some ()) (o2 := none) (pc := 941) F 1068 dL_law_941 (by decide) (fun _ => kk σ2 hI) (fun h => absurd rfl h)
theorem lc_26 {K : zX} (F : zF K cL_law RL (some .boolean)) (hR : zrm K = room_1) {b L : Nat} {xs : Nat → Int32} (S : zScr K b L xs) (St : zStr K) {Inv : zS → Prop} (n : Nat) (hn : n + 5 ≤ L) (hL : L ≤ 2560) (σ : zS) (hC : ∃ r σ1 σ2, fX8_opened (xs (n + 1)) σ = some (r, σ1) ∧ fX9_opened (xs (n + 1)) σ1 = some (r, σ2) ∧ Inv σ2) (kk : ∀ σ2, Inv σ2 → ZO K () 1068 [some (.ref b), some (.ref (zad K 0 0)), some (.ref (zad K 21 0)), some (.int (nI n))] [] σ2 (some ())) : ZO K () 946 [some (.ref b), some (.ref (zad K 0 0)), some (.ref (zad K 21 0)), some (.int (nI n))] [] σ (some ()) := by
  obtain ⟨r, σ1, σ2, h1, h2, hI⟩ := hC
  refine z_aload_n (pc := 946) F dL_law_946 rfl ?_
  refine z_aload_n (pc := 947) F dL_law_947 rfl ?_
  refine z_iload_n (pc := 948) F dL_law_948 rfl ?_
  refine z_iconst (pc := 949) F (v := 1) dL_law_949 (by decide) ?_
  refine z_iadd (pc := 950) F dL_law_950 ?_
  refine z_sldn (pc := 951) F S n 1 rfl (by omega) hL dL_law_951 ?_
  refine z_callE (pc := 952) (st := []) F 0 0 [.int (xs (n + 1))] cl_RL_122 (tX8_opened (zln K) σ (xs (n + 1))) rfl (by decide) (fun _ => ⟨_, rfl⟩) rfl (by rw [hR]; exact ⟨rfl, rfl, Nat.le_of_ble_eq_true rfl, Nat.le_of_ble_eq_true rfl⟩) rfl rfl (Nat.le_of_ble_eq_true rfl) dL_law_952 h1 ?_
  refine z_aload_n (pc := 955) F dL_law_955 rfl ?_
  refine z_aload_n (pc := 956) F dL_law_956 rfl ?_
  refine z_iload_n (pc := 957) F dL_law_957 rfl ?_
  refine z_iconst (pc := 958) F (v := 1) dL_law_958 (by decide) ?_
  refine z_iadd (pc := 959) F dL_law_959 ?_
  refine z_sldn (pc := 960) F S n 1 rfl (by omega) hL dL_law_960 ?_
  refine z_callE (pc := 961) (st := [.int r]) F 21 0 [.int (xs (n + 1))] cl_RL_125 (tX9_opened (zln K) σ1 (xs (n + 1))) rfl (by decide) (fun _ => ⟨_, rfl⟩) rfl (by rw [hR]; exact ⟨rfl, rfl, Nat.le_of_ble_eq_true rfl, Nat.le_of_ble_eq_true rfl⟩) rfl rfl (Nat.le_of_ble_eq_true rfl) dL_law_961 h2 ?_
  refine z_eq1 (o := if r = r then some () else none) (if_pos rfl) ?_
  refine z_icmp_eq (o1 := some ()) (o2 := none) (pc := 964) F 1068 dL_law_964 (by decide) (fun _ => kk σ2 hI) (fun h => absurd rfl h)
theorem lc_27 {K : zX} (F : zF K cL_law RL (some .boolean)) (hR : zrm K = room_1) {b L : Nat} {xs : Nat → Int32} (S : zScr K b L xs) (St : zStr K) {Inv : zS → Prop} (n : Nat) (hn : n + 5 ≤ L) (hL : L ≤ 2560) (σ : zS) (hC : ∃ r σ1 σ2, fX8_text (xs (n + 1)) (xs (n + 2)) σ = some (r, σ1) ∧ fX9_text (xs (n + 1)) (xs (n + 2)) σ1 = some (r, σ2) ∧ Inv σ2) (kk : ∀ σ2, Inv σ2 → ZO K () 1068 [some (.ref b), some (.ref (zad K 0 0)), some (.ref (zad K 21 0)), some (.int (nI n))] [] σ2 (some ())) : ZO K () 969 [some (.ref b), some (.ref (zad K 0 0)), some (.ref (zad K 21 0)), some (.int (nI n))] [] σ (some ()) := by
  obtain ⟨r, σ1, σ2, h1, h2, hI⟩ := hC
  refine z_aload_n (pc := 969) F dL_law_969 rfl ?_
  refine z_aload_n (pc := 970) F dL_law_970 rfl ?_
  refine z_iload_n (pc := 971) F dL_law_971 rfl ?_
  refine z_iconst (pc := 972) F (v := 1) dL_law_972 (by decide) ?_
  refine z_iadd (pc := 973) F dL_law_973 ?_
  refine z_sldn (pc := 974) F S n 1 rfl (by omega) hL dL_law_974 ?_
  refine z_aload_n (pc := 975) F dL_law_975 rfl ?_
  refine z_iload_n (pc := 976) F dL_law_976 rfl ?_
  refine z_iconst (pc := 977) F (v := 2) dL_law_977 (by decide) ?_
  refine z_iadd (pc := 978) F dL_law_978 ?_
  refine z_sldn (pc := 979) F S n 2 rfl (by omega) hL dL_law_979 ?_
  refine z_callE (pc := 980) (st := []) F 0 0 [.int (xs (n + 1)), .int (xs (n + 2))] cl_RL_126 (tX8_text (zln K) σ (xs (n + 1)) (xs (n + 2))) rfl (by decide) (fun _ => ⟨_, rfl⟩) rfl (by rw [hR]; exact ⟨rfl, rfl, Nat.le_of_ble_eq_true rfl, Nat.le_of_ble_eq_true rfl⟩) rfl rfl (Nat.le_of_ble_eq_true rfl) dL_law_980 h1 ?_
  refine z_aload_n (pc := 983) F dL_law_983 rfl ?_
  refine z_aload_n (pc := 984) F dL_law_984 rfl ?_
  refine z_iload_n (pc := 985) F dL_law_985 rfl ?_
  refine z_iconst (pc := 986) F (v := 1) dL_law_986 (by decide) ?_
  refine z_iadd (pc := 987) F dL_law_987 ?_
  refine z_sldn (pc := 988) F S n 1 rfl (by omega) hL dL_law_988 ?_
  refine z_aload_n (pc := 989) F dL_law_989 rfl ?_
  refine z_iload_n (pc := 990) F dL_law_990 rfl ?_
  refine z_iconst (pc := 991) F (v := 2) dL_law_991 (by decide) ?_
  refine z_iadd (pc := 992) F dL_law_992 ?_
  refine z_sldn (pc := 993) F S n 2 rfl (by omega) hL dL_law_993 ?_
  refine z_callE (pc := 994) (st := [.int r]) F 21 0 [.int (xs (n + 1)), .int (xs (n + 2))] cl_RL_129 (tX9_text (zln K) σ1 (xs (n + 1)) (xs (n + 2))) rfl (by decide) (fun _ => ⟨_, rfl⟩) rfl (by rw [hR]; exact ⟨rfl, rfl, Nat.le_of_ble_eq_true rfl, Nat.le_of_ble_eq_true rfl⟩) rfl rfl (Nat.le_of_ble_eq_true rfl) dL_law_994 h2 ?_
  refine z_eq1 (o := if r = r then some () else none) (if_pos rfl) ?_
  refine z_icmp_eq (o1 := some ()) (o2 := none) (pc := 997) F 1068 dL_law_997 (by decide) (fun _ => kk σ2 hI) (fun h => absurd rfl h)
theorem lc_28 {K : zX} (F : zF K cL_law RL (some .boolean)) (hR : zrm K = room_1) {b L : Nat} {xs : Nat → Int32} (S : zScr K b L xs) (St : zStr K) {Inv : zS → Prop} (n : Nat) (hn : n + 5 ≤ L) (hL : L ≤ 2560) (σ : zS) (hC : ∃ r σ1 σ2, fX8_rows (xs (n + 1)) (xs (n + 2)) (xs (n + 3)) σ = some (r, σ1) ∧ fX9_rows (xs (n + 1)) (xs (n + 2)) (xs (n + 3)) σ1 = some (r, σ2) ∧ Inv σ2) (kk : ∀ σ2, Inv σ2 → ZO K () 1068 [some (.ref b), some (.ref (zad K 0 0)), some (.ref (zad K 21 0)), some (.int (nI n))] [] σ2 (some ())) : ZO K () 1002 [some (.ref b), some (.ref (zad K 0 0)), some (.ref (zad K 21 0)), some (.int (nI n))] [] σ (some ()) := by
  obtain ⟨r, σ1, σ2, h1, h2, hI⟩ := hC
  refine z_aload_n (pc := 1002) F dL_law_1002 rfl ?_
  refine z_aload_n (pc := 1003) F dL_law_1003 rfl ?_
  refine z_iload_n (pc := 1004) F dL_law_1004 rfl ?_
  refine z_iconst (pc := 1005) F (v := 1) dL_law_1005 (by decide) ?_
  refine z_iadd (pc := 1006) F dL_law_1006 ?_
  refine z_sldn (pc := 1007) F S n 1 rfl (by omega) hL dL_law_1007 ?_
  refine z_aload_n (pc := 1008) F dL_law_1008 rfl ?_
  refine z_iload_n (pc := 1009) F dL_law_1009 rfl ?_
  refine z_iconst (pc := 1010) F (v := 2) dL_law_1010 (by decide) ?_
  refine z_iadd (pc := 1011) F dL_law_1011 ?_
  refine z_sldn (pc := 1012) F S n 2 rfl (by omega) hL dL_law_1012 ?_
  refine z_aload_n (pc := 1013) F dL_law_1013 rfl ?_
  refine z_iload_n (pc := 1014) F dL_law_1014 rfl ?_
  refine z_iconst (pc := 1015) F (v := 3) dL_law_1015 (by decide) ?_
  refine z_iadd (pc := 1016) F dL_law_1016 ?_
  refine z_sldn (pc := 1017) F S n 3 rfl (by omega) hL dL_law_1017 ?_
  refine z_callE (pc := 1018) (st := []) F 0 0 [.int (xs (n + 1)), .int (xs (n + 2)), .int (xs (n + 3))] cl_RL_130 (tX8_rows (zln K) σ (xs (n + 1)) (xs (n + 2)) (xs (n + 3))) rfl (by decide) (fun _ => ⟨_, rfl⟩) rfl (by rw [hR]; exact ⟨rfl, rfl, Nat.le_of_ble_eq_true rfl, Nat.le_of_ble_eq_true rfl⟩) rfl rfl (Nat.le_of_ble_eq_true rfl) dL_law_1018 h1 ?_
  refine z_aload_n (pc := 1021) F dL_law_1021 rfl ?_
  refine z_aload_n (pc := 1022) F dL_law_1022 rfl ?_
  refine z_iload_n (pc := 1023) F dL_law_1023 rfl ?_
  refine z_iconst (pc := 1024) F (v := 1) dL_law_1024 (by decide) ?_
  refine z_iadd (pc := 1025) F dL_law_1025 ?_
  refine z_sldn (pc := 1026) F S n 1 rfl (by omega) hL dL_law_1026 ?_
  refine z_aload_n (pc := 1027) F dL_law_1027 rfl ?_
  refine z_iload_n (pc := 1028) F dL_law_1028 rfl ?_
  refine z_iconst (pc := 1029) F (v := 2) dL_law_1029 (by decide) ?_
  refine z_iadd (pc := 1030) F dL_law_1030 ?_
  refine z_sldn (pc := 1031) F S n 2 rfl (by omega) hL dL_law_1031 ?_
  refine z_aload_n (pc := 1032) F dL_law_1032 rfl ?_
  refine z_iload_n (pc := 1033) F dL_law_1033 rfl ?_
  refine z_iconst (pc := 1034) F (v := 3) dL_law_1034 (by decide) ?_
  refine z_iadd (pc := 1035) F dL_law_1035 ?_
  refine z_sldn (pc := 1036) F S n 3 rfl (by omega) hL dL_law_1036 ?_
  refine z_callE (pc := 1037) (st := [.int r]) F 21 0 [.int (xs (n + 1)), .int (xs (n + 2)), .int (xs (n + 3))] cl_RL_133 (tX9_rows (zln K) σ1 (xs (n + 1)) (xs (n + 2)) (xs (n + 3))) rfl (by decide) (fun _ => ⟨_, rfl⟩) rfl (by rw [hR]; exact ⟨rfl, rfl, Nat.le_of_ble_eq_true rfl, Nat.le_of_ble_eq_true rfl⟩) rfl rfl (Nat.le_of_ble_eq_true rfl) dL_law_1037 h2 ?_
  refine z_eq1 (o := if r = r then some () else none) (if_pos rfl) ?_
  refine z_icmp_eq (o1 := some ()) (o2 := none) (pc := 1040) F 1068 dL_law_1040 (by decide) (fun _ => kk σ2 hI) (fun h => absurd rfl h)
theorem lc_29 {K : zX} (F : zF K cL_law RL (some .boolean)) (hR : zrm K = room_1) {b L : Nat} {xs : Nat → Int32} (S : zScr K b L xs) (St : zStr K) {Inv : zS → Prop} (n : Nat) (hn : n + 5 ≤ L) (hL : L ≤ 2560) (σ : zS) (hC : ∃ r σ1 σ2, fX8_many (xs (n + 1)) σ = some (r, σ1) ∧ fX9_many (xs (n + 1)) σ1 = some (r, σ2) ∧ Inv σ2) (kk : ∀ σ2, Inv σ2 → ZO K () 1068 [some (.ref b), some (.ref (zad K 0 0)), some (.ref (zad K 21 0)), some (.int (nI n))] [] σ2 (some ())) : ZO K () 1045 [some (.ref b), some (.ref (zad K 0 0)), some (.ref (zad K 21 0)), some (.int (nI n))] [] σ (some ()) := by
  obtain ⟨r, σ1, σ2, h1, h2, hI⟩ := hC
  refine z_aload_n (pc := 1045) F dL_law_1045 rfl ?_
  refine z_aload_n (pc := 1046) F dL_law_1046 rfl ?_
  refine z_iload_n (pc := 1047) F dL_law_1047 rfl ?_
  refine z_iconst (pc := 1048) F (v := 1) dL_law_1048 (by decide) ?_
  refine z_iadd (pc := 1049) F dL_law_1049 ?_
  refine z_sldn (pc := 1050) F S n 1 rfl (by omega) hL dL_law_1050 ?_
  refine z_callE (pc := 1051) (st := []) F 0 0 [.int (xs (n + 1))] cl_RL_134 (tX8_many (zln K) σ (xs (n + 1))) rfl (by decide) (fun _ => ⟨_, rfl⟩) rfl (by rw [hR]; exact ⟨rfl, rfl, Nat.le_of_ble_eq_true rfl, Nat.le_of_ble_eq_true rfl⟩) rfl rfl (Nat.le_of_ble_eq_true rfl) dL_law_1051 h1 ?_
  refine z_aload_n (pc := 1054) F dL_law_1054 rfl ?_
  refine z_aload_n (pc := 1055) F dL_law_1055 rfl ?_
  refine z_iload_n (pc := 1056) F dL_law_1056 rfl ?_
  refine z_iconst (pc := 1057) F (v := 1) dL_law_1057 (by decide) ?_
  refine z_iadd (pc := 1058) F dL_law_1058 ?_
  refine z_sldn (pc := 1059) F S n 1 rfl (by omega) hL dL_law_1059 ?_
  refine z_callE (pc := 1060) (st := [.int r]) F 21 0 [.int (xs (n + 1))] cl_RL_137 (tX9_many (zln K) σ1 (xs (n + 1))) rfl (by decide) (fun _ => ⟨_, rfl⟩) rfl (by rw [hR]; exact ⟨rfl, rfl, Nat.le_of_ble_eq_true rfl, Nat.le_of_ble_eq_true rfl⟩) rfl rfl (Nat.le_of_ble_eq_true rfl) dL_law_1060 h2 ?_
  refine z_eq1 (o := if r = r then some () else none) (if_pos rfl) ?_
  refine z_icmp_eq (o1 := some ()) (o2 := none) (pc := 1063) F 1068 dL_law_1063 (by decide) (fun _ => kk σ2 hI) (fun h => absurd rfl h)
/-- what the law asks of an invariant: every call keeps it, and both answer alike -/
def zCases (Inv : zS → Prop) : Prop := (∀ (a1 a2 : Int32) (σ : zS), Inv σ → ∃ r σ1 σ2, fX8_letter a1 a2 σ = some (r, σ1) ∧ fX9_letter a1 a2 σ1 = some (r, σ2) ∧ Inv σ2) ∧ (∀ (a1 : Int32) (σ : zS), Inv σ → ∃ r σ1 σ2, fX8_drop a1 σ = some (r, σ1) ∧ fX9_drop a1 σ1 = some (r, σ2) ∧ Inv σ2) ∧ (∀ (a1 a2 a3 : Int32) (σ : zS), Inv σ → ∃ r σ1 σ2, fX8_has a1 a2 a3 σ = some (r, σ1) ∧ fX9_has a1 a2 a3 σ1 = some (r, σ2) ∧ Inv σ2) ∧ (∀ (a1 a2 : Int32) (σ : zS), Inv σ → ∃ r σ1 σ2, fX8_want a1 a2 σ = some (r, σ1) ∧ fX9_want a1 a2 σ1 = some (r, σ2) ∧ Inv σ2) ∧ (∀ (a1 : Int32) (σ : zS), Inv σ → ∃ r σ1 σ2, fX8_air a1 σ = some (r, σ1) ∧ fX9_air a1 σ1 = some (r, σ2) ∧ Inv σ2) ∧ (∀ (a1 : Int32) (σ : zS), Inv σ → ∃ r σ1 σ2, fX8_most a1 σ = some (r, σ1) ∧ fX9_most a1 σ1 = some (r, σ2) ∧ Inv σ2) ∧ (∀ (σ : zS), Inv σ → ∃ r σ1 σ2, fX8_anew σ = some (r, σ1) ∧ fX9_anew σ1 = some (r, σ2) ∧ Inv σ2) ∧ (∀ (a1 a2 : Int32) (σ : zS), Inv σ → ∃ r σ1 σ2, fX8_entry a1 a2 σ = some (r, σ1) ∧ fX9_entry a1 a2 σ1 = some (r, σ2) ∧ Inv σ2) ∧ (∀ (a1 : Int32) (σ : zS), Inv σ → ∃ r σ1 σ2, fX8_having a1 σ = some (r, σ1) ∧ fX9_having a1 σ1 = some (r, σ2) ∧ Inv σ2) ∧ (∀ (a1 a2 : Int32) (σ : zS), Inv σ → ∃ r σ1 σ2, fX8_reads a1 a2 σ = some (r, σ1) ∧ fX9_reads a1 a2 σ1 = some (r, σ2) ∧ Inv σ2) ∧ (∀ (a1 a2 : Int32) (σ : zS), Inv σ → ∃ r σ1 σ2, fX8_sum a1 a2 σ = some (r, σ1) ∧ fX9_sum a1 a2 σ1 = some (r, σ2) ∧ Inv σ2) ∧ (∀ (σ : zS), Inv σ → ∃ r σ1 σ2, fX8_best σ = some (r, σ1) ∧ fX9_best σ1 = some (r, σ2) ∧ Inv σ2) ∧ (∀ (a1 : Int32) (σ : zS), Inv σ → ∃ r σ1 σ2, fX8_send a1 σ = some (r, σ1) ∧ fX9_send a1 σ1 = some (r, σ2) ∧ Inv σ2) ∧ (∀ (a1 : Int32) (σ : zS), Inv σ → ∃ r σ1 σ2, fX8_serve a1 σ = some (r, σ1) ∧ fX9_serve a1 σ1 = some (r, σ2) ∧ Inv σ2) ∧ (∀ (a1 : Int32) (σ : zS), Inv σ → ∃ r σ1 σ2, fX8_key a1 σ = some (r, σ1) ∧ fX9_key a1 σ1 = some (r, σ2) ∧ Inv σ2) ∧ (∀ (σ : zS), Inv σ → ∃ r σ1 σ2, fX8_wipe σ = some (r, σ1) ∧ fX9_wipe σ1 = some (r, σ2) ∧ Inv σ2) ∧ (∀ (σ : zS), Inv σ → ∃ r σ1 σ2, fX8_word σ = some (r, σ1) ∧ fX9_word σ1 = some (r, σ2) ∧ Inv σ2) ∧ (∀ (a1 a2 : Int32) (σ : zS), Inv σ → ∃ r σ1 σ2, fX8_open a1 a2 σ = some (r, σ1) ∧ fX9_open a1 a2 σ1 = some (r, σ2) ∧ Inv σ2) ∧ (∀ (a1 a2 : Int32) (σ : zS), Inv σ → ∃ r σ1 σ2, fX8_rank a1 a2 σ = some (r, σ1) ∧ fX9_rank a1 a2 σ1 = some (r, σ2) ∧ Inv σ2) ∧ (∀ (a1 a2 a3 a4 : Int32) (σ : zS), Inv σ → ∃ r σ1 σ2, fX8_row a1 a2 a3 a4 σ = some (r, σ1) ∧ fX9_row a1 a2 a3 a4 σ1 = some (r, σ2) ∧ Inv σ2) ∧ (∀ (a1 a2 a3 a4 : Int32) (σ : zS), Inv σ → ∃ r σ1 σ2, fX8_read a1 a2 a3 a4 σ = some (r, σ1) ∧ fX9_read a1 a2 a3 a4 σ1 = some (r, σ2) ∧ Inv σ2) ∧ (∀ (a1 a2 a3 a4 : Int32) (σ : zS), Inv σ → ∃ r σ1 σ2, fX8_mix a1 a2 a3 a4 σ = some (r, σ1) ∧ fX9_mix a1 a2 a3 a4 σ1 = some (r, σ2) ∧ Inv σ2) ∧ (∀ (a1 a2 a3 : Int32) (σ : zS), Inv σ → ∃ r σ1 σ2, fX8_draw a1 a2 a3 σ = some (r, σ1) ∧ fX9_draw a1 a2 a3 σ1 = some (r, σ2) ∧ Inv σ2) ∧ (∀ (a1 a2 a3 : Int32) (σ : zS), Inv σ → ∃ r σ1 σ2, fX8_fresh a1 a2 a3 σ = some (r, σ1) ∧ fX9_fresh a1 a2 a3 σ1 = some (r, σ2) ∧ Inv σ2) ∧ (∀ (a1 a2 : Int32) (σ : zS), Inv σ → ∃ r σ1 σ2, fX8_forAll a1 a2 σ = some (r, σ1) ∧ fX9_forAll a1 a2 σ1 = some (r, σ2) ∧ Inv σ2) ∧ (∀ (σ : zS), Inv σ → ∃ r σ1 σ2, fX8_sweep σ = some (r, σ1) ∧ fX9_sweep σ1 = some (r, σ2) ∧ Inv σ2) ∧ (∀ (a1 : Int32) (σ : zS), Inv σ → ∃ r σ1 σ2, fX8_opened a1 σ = some (r, σ1) ∧ fX9_opened a1 σ1 = some (r, σ2) ∧ Inv σ2) ∧ (∀ (a1 a2 : Int32) (σ : zS), Inv σ → ∃ r σ1 σ2, fX8_text a1 a2 σ = some (r, σ1) ∧ fX9_text a1 a2 σ1 = some (r, σ2) ∧ Inv σ2) ∧ (∀ (a1 a2 a3 : Int32) (σ : zS), Inv σ → ∃ r σ1 σ2, fX8_rows a1 a2 a3 σ = some (r, σ1) ∧ fX9_rows a1 a2 a3 σ1 = some (r, σ2) ∧ Inv σ2) ∧ (∀ (a1 : Int32) (σ : zS), Inv σ → ∃ r σ1 σ2, fX8_many a1 σ = some (r, σ1) ∧ fX9_many a1 σ1 = some (r, σ2) ∧ Inv σ2)
set_option maxRecDepth 100000 in
set_option maxHeartbeats 4000000 in
theorem law_body {K : zX} (F : zF K cL_law RL (some .boolean)) (hR : zrm K = room_1) {b L : Nat} {xs : Nat → Int32} (S : zScr K b L xs) (St : zStr K) {Inv : zS → Prop} (H : zCases Inv) (n : Nat) (hn : n + 5 ≤ L) (hL : L ≤ 2560) (σ : zS) (hI : Inv σ) (kk : ∀ σ2, Inv σ2 → ZO K () 1068 [some (.ref b), some (.ref (zad K 0 0)), some (.ref (zad K 21 0)), some (.int (nI n))] [] σ2 (some ())) : ZO K () 26 [some (.ref b), some (.ref (zad K 0 0)), some (.ref (zad K 21 0)), some (.int (nI n))] [] σ (some ()) := by
  refine z_aload_n (pc := 26) F dL_law_26 rfl ?_
  refine z_iload_n (pc := 27) F dL_law_27 rfl ?_
  refine z_sld (pc := 28) F S (vp_in_nI (by omega) (by omega)) dL_law_28 ?_
  refine z_bipush (pc := 29) F (v := 31) dL_law_29 (by decide) ?_
  refine z_iand (pc := 31) F dL_law_31 ?_
  generalize xs (nI n).toNatClampNeg &&& 31 = x
  by_cases h0 : x = 0
  · rw [h0]
    refine z_tabIn (pc := 32) F 168 dL_law_32 (by decide) (by decide) rfl (by decide) ?_
    exact lc_0 F hR S St n hn hL σ (H.1 (xs (n + 1)) (xs (n + 2)) σ hI) kk
  by_cases h1 : x = 1
  · rw [h1]
    refine z_tabIn (pc := 32) F 201 dL_law_32 (by decide) (by decide) rfl (by decide) ?_
    exact lc_1 F hR S St n hn hL σ (H.2.1 (xs (n + 1)) σ hI) kk
  by_cases h2 : x = 2
  · rw [h2]
    refine z_tabIn (pc := 32) F 224 dL_law_32 (by decide) (by decide) rfl (by decide) ?_
    exact lc_2 F hR S St n hn hL σ (H.2.2.1 (xs (n + 1)) (xs (n + 2)) (xs (n + 3)) σ hI) kk
  by_cases h3 : x = 3
  · rw [h3]
    refine z_tabIn (pc := 32) F 267 dL_law_32 (by decide) (by decide) rfl (by decide) ?_
    exact lc_3 F hR S St n hn hL σ (H.2.2.2.1 (xs (n + 1)) (xs (n + 2)) σ hI) kk
  by_cases h4 : x = 4
  · rw [h4]
    refine z_tabIn (pc := 32) F 300 dL_law_32 (by decide) (by decide) rfl (by decide) ?_
    exact lc_4 F hR S St n hn hL σ (H.2.2.2.2.1 (xs (n + 1)) σ hI) kk
  by_cases h5 : x = 5
  · rw [h5]
    refine z_tabIn (pc := 32) F 323 dL_law_32 (by decide) (by decide) rfl (by decide) ?_
    exact lc_5 F hR S St n hn hL σ (H.2.2.2.2.2.1 (xs (n + 1)) σ hI) kk
  by_cases h6 : x = 6
  · rw [h6]
    refine z_tabIn (pc := 32) F 346 dL_law_32 (by decide) (by decide) rfl (by decide) ?_
    exact lc_6 F hR S St n hn hL σ (H.2.2.2.2.2.2.1  σ hI) kk
  by_cases h7 : x = 7
  · rw [h7]
    refine z_tabIn (pc := 32) F 359 dL_law_32 (by decide) (by decide) rfl (by decide) ?_
    exact lc_7 F hR S St n hn hL σ (H.2.2.2.2.2.2.2.1 (xs (n + 1)) (xs (n + 2)) σ hI) kk
  by_cases h8 : x = 8
  · rw [h8]
    refine z_tabIn (pc := 32) F 392 dL_law_32 (by decide) (by decide) rfl (by decide) ?_
    exact lc_8 F hR S St n hn hL σ (H.2.2.2.2.2.2.2.2.1 (xs (n + 1)) σ hI) kk
  by_cases h9 : x = 9
  · rw [h9]
    refine z_tabIn (pc := 32) F 415 dL_law_32 (by decide) (by decide) rfl (by decide) ?_
    exact lc_9 F hR S St n hn hL σ (H.2.2.2.2.2.2.2.2.2.1 (xs (n + 1)) (xs (n + 2)) σ hI) kk
  by_cases h10 : x = 10
  · rw [h10]
    refine z_tabIn (pc := 32) F 448 dL_law_32 (by decide) (by decide) rfl (by decide) ?_
    exact lc_10 F hR S St n hn hL σ (H.2.2.2.2.2.2.2.2.2.2.1 (xs (n + 1)) (xs (n + 2)) σ hI) kk
  by_cases h11 : x = 11
  · rw [h11]
    refine z_tabIn (pc := 32) F 481 dL_law_32 (by decide) (by decide) rfl (by decide) ?_
    exact lc_11 F hR S St n hn hL σ (H.2.2.2.2.2.2.2.2.2.2.2.1  σ hI) kk
  by_cases h12 : x = 12
  · rw [h12]
    refine z_tabIn (pc := 32) F 494 dL_law_32 (by decide) (by decide) rfl (by decide) ?_
    exact lc_12 F hR S St n hn hL σ (H.2.2.2.2.2.2.2.2.2.2.2.2.1 (xs (n + 1)) σ hI) kk
  by_cases h13 : x = 13
  · rw [h13]
    refine z_tabIn (pc := 32) F 517 dL_law_32 (by decide) (by decide) rfl (by decide) ?_
    exact lc_13 F hR S St n hn hL σ (H.2.2.2.2.2.2.2.2.2.2.2.2.2.1 (xs (n + 1)) σ hI) kk
  by_cases h14 : x = 14
  · rw [h14]
    refine z_tabIn (pc := 32) F 540 dL_law_32 (by decide) (by decide) rfl (by decide) ?_
    exact lc_14 F hR S St n hn hL σ (H.2.2.2.2.2.2.2.2.2.2.2.2.2.2.1 (xs (n + 1)) σ hI) kk
  by_cases h15 : x = 15
  · rw [h15]
    refine z_tabIn (pc := 32) F 563 dL_law_32 (by decide) (by decide) rfl (by decide) ?_
    exact lc_15 F hR S St n hn hL σ (H.2.2.2.2.2.2.2.2.2.2.2.2.2.2.2.1  σ hI) kk
  by_cases h16 : x = 16
  · rw [h16]
    refine z_tabIn (pc := 32) F 576 dL_law_32 (by decide) (by decide) rfl (by decide) ?_
    exact lc_16 F hR S St n hn hL σ (H.2.2.2.2.2.2.2.2.2.2.2.2.2.2.2.2.1  σ hI) kk
  by_cases h17 : x = 17
  · rw [h17]
    refine z_tabIn (pc := 32) F 589 dL_law_32 (by decide) (by decide) rfl (by decide) ?_
    exact lc_17 F hR S St n hn hL σ (H.2.2.2.2.2.2.2.2.2.2.2.2.2.2.2.2.2.1 (xs (n + 1)) (xs (n + 2)) σ hI) kk
  by_cases h18 : x = 18
  · rw [h18]
    refine z_tabIn (pc := 32) F 622 dL_law_32 (by decide) (by decide) rfl (by decide) ?_
    exact lc_18 F hR S St n hn hL σ (H.2.2.2.2.2.2.2.2.2.2.2.2.2.2.2.2.2.2.1 (xs (n + 1)) (xs (n + 2)) σ hI) kk
  by_cases h19 : x = 19
  · rw [h19]
    refine z_tabIn (pc := 32) F 655 dL_law_32 (by decide) (by decide) rfl (by decide) ?_
    exact lc_19 F hR S St n hn hL σ (H.2.2.2.2.2.2.2.2.2.2.2.2.2.2.2.2.2.2.2.1 (xs (n + 1)) (xs (n + 2)) (xs (n + 3)) (xs (n + 4)) σ hI) kk
  by_cases h20 : x = 20
  · rw [h20]
    refine z_tabIn (pc := 32) F 708 dL_law_32 (by decide) (by decide) rfl (by decide) ?_
    exact lc_20 F hR S St n hn hL σ (H.2.2.2.2.2.2.2.2.2.2.2.2.2.2.2.2.2.2.2.2.1 (xs (n + 1)) (xs (n + 2)) (xs (n + 3)) (xs (n + 4)) σ hI) kk
  by_cases h21 : x = 21
  · rw [h21]
    refine z_tabIn (pc := 32) F 761 dL_law_32 (by decide) (by decide) rfl (by decide) ?_
    exact lc_21 F hR S St n hn hL σ (H.2.2.2.2.2.2.2.2.2.2.2.2.2.2.2.2.2.2.2.2.2.1 (xs (n + 1)) (xs (n + 2)) (xs (n + 3)) (xs (n + 4)) σ hI) kk
  by_cases h22 : x = 22
  · rw [h22]
    refine z_tabIn (pc := 32) F 814 dL_law_32 (by decide) (by decide) rfl (by decide) ?_
    exact lc_22 F hR S St n hn hL σ (H.2.2.2.2.2.2.2.2.2.2.2.2.2.2.2.2.2.2.2.2.2.2.1 (xs (n + 1)) (xs (n + 2)) (xs (n + 3)) σ hI) kk
  by_cases h23 : x = 23
  · rw [h23]
    refine z_tabIn (pc := 32) F 857 dL_law_32 (by decide) (by decide) rfl (by decide) ?_
    exact lc_23 F hR S St n hn hL σ (H.2.2.2.2.2.2.2.2.2.2.2.2.2.2.2.2.2.2.2.2.2.2.2.1 (xs (n + 1)) (xs (n + 2)) (xs (n + 3)) σ hI) kk
  by_cases h24 : x = 24
  · rw [h24]
    refine z_tabIn (pc := 32) F 900 dL_law_32 (by decide) (by decide) rfl (by decide) ?_
    exact lc_24 F hR S St n hn hL σ (H.2.2.2.2.2.2.2.2.2.2.2.2.2.2.2.2.2.2.2.2.2.2.2.2.1 (xs (n + 1)) (xs (n + 2)) σ hI) kk
  by_cases h25 : x = 25
  · rw [h25]
    refine z_tabIn (pc := 32) F 933 dL_law_32 (by decide) (by decide) rfl (by decide) ?_
    exact lc_25 F hR S St n hn hL σ (H.2.2.2.2.2.2.2.2.2.2.2.2.2.2.2.2.2.2.2.2.2.2.2.2.2.1  σ hI) kk
  by_cases h26 : x = 26
  · rw [h26]
    refine z_tabIn (pc := 32) F 946 dL_law_32 (by decide) (by decide) rfl (by decide) ?_
    exact lc_26 F hR S St n hn hL σ (H.2.2.2.2.2.2.2.2.2.2.2.2.2.2.2.2.2.2.2.2.2.2.2.2.2.2.1 (xs (n + 1)) σ hI) kk
  by_cases h27 : x = 27
  · rw [h27]
    refine z_tabIn (pc := 32) F 969 dL_law_32 (by decide) (by decide) rfl (by decide) ?_
    exact lc_27 F hR S St n hn hL σ (H.2.2.2.2.2.2.2.2.2.2.2.2.2.2.2.2.2.2.2.2.2.2.2.2.2.2.2.1 (xs (n + 1)) (xs (n + 2)) σ hI) kk
  by_cases h28 : x = 28
  · rw [h28]
    refine z_tabIn (pc := 32) F 1002 dL_law_32 (by decide) (by decide) rfl (by decide) ?_
    exact lc_28 F hR S St n hn hL σ (H.2.2.2.2.2.2.2.2.2.2.2.2.2.2.2.2.2.2.2.2.2.2.2.2.2.2.2.2.1 (xs (n + 1)) (xs (n + 2)) (xs (n + 3)) σ hI) kk
  by_cases h29 : x = 29
  · rw [h29]
    refine z_tabIn (pc := 32) F 1045 dL_law_32 (by decide) (by decide) rfl (by decide) ?_
    exact lc_29 F hR S St n hn hL σ (H.2.2.2.2.2.2.2.2.2.2.2.2.2.2.2.2.2.2.2.2.2.2.2.2.2.2.2.2.2 (xs (n + 1)) σ hI) kk
  refine z_tabOut (pc := 32) F 1068 dL_law_32 (zTab 29 (fun j hj => match j, hj with | 0, _ => h0 | 1, _ => h1 | 2, _ => h2 | 3, _ => h3 | 4, _ => h4 | 5, _ => h5 | 6, _ => h6 | 7, _ => h7 | 8, _ => h8 | 9, _ => h9 | 10, _ => h10 | 11, _ => h11 | 12, _ => h12 | 13, _ => h13 | 14, _ => h14 | 15, _ => h15 | 16, _ => h16 | 17, _ => h17 | 18, _ => h18 | 19, _ => h19 | 20, _ => h20 | 21, _ => h21 | 22, _ => h22 | 23, _ => h23 | 24, _ => h24 | 25, _ => h25 | 26, _ => h26 | 27, _ => h27 | 28, _ => h28 | 29, _ => h29 | (j + 30), hj => absurd hj (by omega))) (by decide) ?_
  exact kk σ hI
set_option maxHeartbeats 4000000 in
theorem law_loop {K : zX} (F : zF K cL_law RL (some .boolean)) (hR : zrm K = room_1) {b L : Nat} {xs : Nat → Int32} (S : zScr K b L xs) (St : zStr K) {Inv : zS → Prop} (H : zCases Inv) (hL : L ≤ 2560) (hend : ∀ lv σ, ZO K () 1075 lv [.int 1] σ (some ())) : ∀ (d n : Nat) (σ : zS), L - n < d → n ≤ L + 5 → Inv σ → ZO K () 18 [some (.ref b), some (.ref (zad K 0 0)), some (.ref (zad K 21 0)), some (.int (nI n))] [] σ (some ()) := by
  intro d
  induction d with
  | zero => intro n σ h; omega
  | succ d ih =>
    intro n σ hd hn hI
    refine z_iload_n (pc := 18) F dL_law_18 rfl ?_
    refine z_aload_n (pc := 19) F dL_law_19 rfl ?_
    refine z_slen (pc := 20) F S dL_law_20 ?_
    refine z_iconst (pc := 21) F (v := 5) dL_law_21 (by decide) ?_
    refine z_isub (pc := 22) F dL_law_22 ?_
    have hT : (nI L - 5).toInt = (L : Int) - 5 := pk_sub_toInt (a := L) (b := 5) (by omega) (by omega)
    have hN : (nI n).toInt = (n : Int) := nI_toInt (by omega)
    by_cases hc : n + 5 ≤ L
    · refine z_eq1 (o := if nI L - 5 < nI n then none else some ()) (if_neg (fun q => by rw [Int32.lt_iff_toInt_lt, hT, hN] at q; omega)) ?_
      refine z_icmp_gt (pc := 23) F 1074 dL_law_23 (by decide) (fun q => z_none) (fun _ => ?_)
      refine law_body F hR S St H n hc hL σ hI (fun σ2 hI2 => ?_)
      refine z_iinc (pc := 1068) F (nI (n + 5)) (lv' := [some (.ref b), some (.ref (zad K 0 0)), some (.ref (zad K 21 0)), some (.int (nI (n + 5)))]) dL_law_1068 rfl (nI_add n 5) rfl ?_
      refine z_goto (pc := 1071) F 18 dL_law_1071 (by decide) ?_
      exact ih (n + 5) σ2 (by omega) (by omega) hI2
    · refine z_eq1 (o := if nI L - 5 < nI n then some () else none) (if_pos (by rw [Int32.lt_iff_toInt_lt, hT, hN]; omega)) ?_
      refine z_icmp_gt (pc := 23) F 1074 dL_law_23 (by decide) (fun _ => ?_) (fun _ => z_none)
      refine z_iconst (pc := 1074) F (v := 1) dL_law_1074 (by decide) ?_
      exact hend _ _
