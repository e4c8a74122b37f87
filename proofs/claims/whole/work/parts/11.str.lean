/-! strings: four constants that nobody writes (kinds 40: the strings, 41: their bytes; 42 0: the formatter, 0 for null) -/
def zLen : List Nat := [3, 5, 4, 5]
def zByt : List (List Int32) := [[116, 119, 111], [116, 104, 114, 101, 101], [102, 105, 118, 101], [115, 101, 118, 101, 110]]
def zSi : Nat → Nat | 0 => 29 | 1 => 35 | 2 => 37 | _ => 39
def zTx : Nat → String | 0 => "two" | 1 => "three" | 2 => "five" | _ => "seven"
def zFo (g : zG) : Value := if g.1 42 0 = 0 then .null else .ref (g.1 42 0 - 1)
def zfo (K : zX) : Value := if zad K 42 0 = 0 then .null else .ref (zad K 42 0 - 1)
theorem zfo_cat {g : Nat → Nat → Nat} : (if g 42 0 = 0 then Value.null else Value.ref (g 42 0 - 1)).category = 1 := by split <;> rfl
def zStrU (g : zG) (A : Nat → Prop) (U : State) (H : Heap) : Prop := vk_S 4 zLen zByt (g.1 40) (g.1 41) A U H ∧ (∀ i, i < 4 → vk_R RX7 (zSi i) (zTx i) (g.1 40 i) U) ∧ va_Z "java/lang/String" "COMPACT_STRINGS" "Z" (.int 1) A U H ∧ va_Z "jdk/internal/util/Preconditions" "SIOOBE_FORMATTER" "Ljava/util/function/BiFunction;" (zFo g) A U H
def zStr (K : zX) : Prop := match K with
  | (_, _, _, _, s, _, _, _, _, _, _, g, A, _, _, _) => zStrU g A s s.heap
theorem zStrU.go {g : zG} {A B : Nat → Prop} {s U : State} {H : Heap} {locs : List Loc} (h : zStrU g A s s.heap) (hS : va_S A s.heap H locs) (hB : ∀ q, B q → A q) (hW : s.WarmedH U.vm) : zStrU g B U H := ⟨vk_S.moved hW.alike ((h.1.kept hS.2.1).narrow hB), fun i hi => vk_R.warm hW (h.2.1 i hi), va_Z.moved hW.alike ((h.2.2.1.kept hS.2.1).narrow hB), va_Z.moved hW.alike ((h.2.2.2.kept hS.2.1).narrow hB)⟩
def zPreS (g : zG) (σ : zS) (sz : Nat) : State → Prop := fun U => zPre g σ sz U ∧ zStrU g (zAd g sz) U U.heap
def zMs (l : Launch) (y : MethodName) (cc : ByteArray) (nL : Nat) (ret : Option FieldType) (rm : Room) (av : (Nat → Nat → Nat) → List Value) (σ : zS) (o : Option (Int32 × zS)) : Prop := ∀ (r : Int32) (σ' : zS), o = some (r, σ') → ∀ (g : zG) (sz : Nat), Met l y (zWs y cc nL ret) rm (va_Pc (av g.1) (zPreS g σ sz)) (va_Qi (fun r' u => r' = r ∧ u = σ') (zAt g) (zAd g sz)) 0 0 (zAd g sz)
def zMw (l : Launch) (y : MethodName) (cc : ByteArray) (nL : Nat) (ret : Option FieldType) (rm : Room) (av : (Nat → Nat → Nat) → List Value) (σ : zS) (o : Option (Int32 × zS)) : Prop := ∀ (r : Int32) (σ' : zS), o = some (r, σ') → ∀ (g : zG) (sz : Nat), Met l y (zWs y cc nL ret) rm (va_Pc (av g.1) (zPreS g σ sz)) (va_Qv (fun u => u = σ') (zAt g) (zAd g sz)) 0 0 (zAd g sz)
theorem zMs.of {l : Launch} {y : MethodName} {cc : ByteArray} {nL : Nat} {ret : Option FieldType} {rm : Room} {av : (Nat → Nat → Nat) → List Value} {σ : zS} {o : Option (Int32 × zS)} (own : String) (hy : plainFor y = true) (hown : y.cls = own) (hav : ∀ ad, (av ad).length ≤ nL) (hac : ∀ ad, ∀ v ∈ av ad, v.category = 1)
    (body : ∀ (K : zX) (t : Int32 × zS), zF K cc own ret → zrm K = rm → zln K = l → zStr K → zEi K t → ZO K t 0 (zEnt (av (zad K)) nL) [] σ o) : zMs l y cc nL ret rm av σ o := by
  intro r σ' ho g sz
  refine zMet.ofW (cc := cc) (maxL := nL) (ret := ret) hy rfl ?_
  intro p e s m args below meth c s₁ B hml hv
  obtain ⟨rfl, ⟨hsz, hP, hK, hD0⟩, hstr⟩ := hv
  have hts := atoms_spec (ws := zWs y cc nL ret) B.pre
  have ho2 : s.vm.findClass own = some m.cls := by rw [← hown]; exact findClass_of_methodNamed B.named
  subst hsz
  have hb := body (p, l, e, rm, s, m, (av g.1).toArray, below, meth, c, MQ below (va_Qi (fun r' u => r' = r ∧ u = σ') (zAt g) (zAd g s.heap.size)) (av g.1).toArray s 0 0 (zAd g s.heap.size), g, zAd g s.heap.size, nL, 0, 0) (r, σ') ⟨B.exec, B.bytes, hml, ho2, fun w hw => hts w (List.mem_cons_of_mem _ hw), hK, zD_ad hD0, fun q h => Or.inr h, B.returns, B.notSynchronized, Nat.zero_le _, Nat.zero_le _⟩ rfl rfl hstr ⟨rfl, rfl, rfl⟩
  rw [lg_entry_eq]
  exact hb ho s.heap [] _ hP va_S.rf (zL_entry (hac g.1) (hav g.1))
theorem zMw.of {l : Launch} {y : MethodName} {cc : ByteArray} {nL : Nat} {ret : Option FieldType} {rm : Room} {av : (Nat → Nat → Nat) → List Value} {σ : zS} {o : Option (Int32 × zS)} (own : String) (hy : plainFor y = true) (hown : y.cls = own) (hav : ∀ ad, (av ad).length ≤ nL) (hac : ∀ ad, ∀ v ∈ av ad, v.category = 1)
    (body : ∀ (K : zX) (t : Int32 × zS), zF K cc own ret → zrm K = rm → zln K = l → zStr K → zEv K t → ZO K t 0 (zEnt (av (zad K)) nL) [] σ o) : zMw l y cc nL ret rm av σ o := by
  intro r σ' ho g sz
  refine zMet.ofW (cc := cc) (maxL := nL) (ret := ret) hy rfl ?_
  intro p e s m args below meth c s₁ B hml hv
  obtain ⟨rfl, ⟨hsz, hP, hK, hD0⟩, hstr⟩ := hv
  have hts := atoms_spec (ws := zWs y cc nL ret) B.pre
  have ho2 : s.vm.findClass own = some m.cls := by rw [← hown]; exact findClass_of_methodNamed B.named
  subst hsz
  have hb := body (p, l, e, rm, s, m, (av g.1).toArray, below, meth, c, MQ below (va_Qv (fun u => u = σ') (zAt g) (zAd g s.heap.size)) (av g.1).toArray s 0 0 (zAd g s.heap.size), g, zAd g s.heap.size, nL, 0, 0) (r, σ') ⟨B.exec, B.bytes, hml, ho2, fun w hw => hts w (List.mem_cons_of_mem _ hw), hK, zD_ad hD0, fun q h => Or.inr h, B.returns, B.notSynchronized, Nat.zero_le _, Nat.zero_le _⟩ rfl rfl hstr ⟨rfl, rfl, rfl⟩
  rw [lg_entry_eq]
  exact hb ho s.heap [] _ hP va_S.rf (zL_entry (hac g.1) (hav g.1))
theorem zblindS {g : zG} {σ : zS} {sz : Nat} {av : List Value} : FrameBlind (va_Pc av (zPreS g σ sz)) := fun a U g' mk q => ⟨q.1, ⟨q.2.1.1, q.2.1.2.1, zKn.same (U := U.calling g' mk a) q.2.1.2.2.1 rfl, q.2.1.2.2.2⟩, vk_S.moved (U := U.calling g' mk a) (Vm.Alike.refl U.vm) q.2.2.1, fun i hi => vk_R.same (U := U.calling g' mk a) rfl (q.2.2.2.1 i hi), va_Z.moved (U := U.calling g' mk a) (Vm.Alike.refl U.vm) q.2.2.2.2.1, va_Z.moved (U := U.calling g' mk a) (Vm.Alike.refl U.vm) q.2.2.2.2.2⟩
theorem zprecS {g : zG} {σ : zS} {s : State} {A : Nat → Prop} {H : Heap} {locs : List Loc} {av : List Value} (hK : zKn g s) (hP : va_P g.2.2 vwCl (zW g σ) H) (hD : va_D A (zW g (fun _ _ _ => 0))) (hA : ∀ q, s.heap.size ≤ q → A q) (hS : va_S A s.heap H locs) (hstr : zStrU g A s s.heap) : ∀ U : State, U.heap = H → s.WarmedH U.vm → va_Pc av (zPreS g σ H.size) av.toArray U := fun U hU hW => ⟨rfl, ⟨by rw [hU], by rw [hU]; exact hP, hK.warm hW, (zD_any hD).weaken (fun _ _ _ _ => trivial)⟩, by rw [hU]; exact hstr.go hS (zad_free hD hA hS) hW⟩
section ZCS
variable {p : Program} {l : Launch} {e : Env} {R : Room} {s : State} {m : MethodId} {args : Array Value} {below : List Frame} {meth : Method} {c : Code} {Q : State → Prop} {g : zG} {A : Nat → Prop} {nL nc ns : Nat}
variable {cc cy : ByteArray} {own : String} {ret rty : Option FieldType} {y : MethodName} {index maxL n k i ci N pc : Nat} {T : u_T} {rm : Room} {As st st0 : List Value} {σ : zS} {H : Heap} {locs : List Loc} {ls : Array Slot} {lv : List (Option Value)} {free : Addr → Prop} {Qc : Array Value → State → Outcome → State → Prop}
theorem zrunS_V (F : zF (p, l, e, R, s, m, args, below, meth, c, Q, g, A, nL, nc, ns) cc own ret) (hstr : zStrU g A s s.heap) (hS : va_S A s.heap H locs) (hL : zLkV own index y cy maxL rty n) (hM : Met l y (zWs y cy maxL rty) rm (va_Pc (.ref (g.1 k i) :: As) (zPreS g σ H.size)) Qc 0 0 free) (hi : i < zLim k) (hc : ∃ fs, zC g (σ k i) k i = .inr (ci, fs)) (hcl : vwCl[ci]? = some (y.cls, T, N)) (hrm : rm.cells = 0 ∧ rm.slots = 0 ∧ rm.frames + 1 ≤ R.frames ∧ 8 + (maxL + 11) + rm.locals ≤ R.locals) (hn : As.length = n) (hst : st0 = As.reverse ++ .ref (g.1 k i) :: st) (hW : (st.map fun v => v.category).sum ≤ 8) (d : decode cc pc = .ok (.invokevirtual index, 3)) (hP : va_P g.2.2 vwCl (zW g σ) H) (hl : zL ls nL lv) : va_Run p l e R s m args below meth c H locs nc ns 0 0 (F0 m pc ls st0) st (Qc (Value.ref (g.1 k i) :: As).toArray) free := by
  obtain ⟨q, -, hq⟩ := zW_at (g := g) (σ := σ) hi
  obtain ⟨fs, hc⟩ := hc
  rw [hc] at hq
  exact va_runV ⟨F.1, F.2.1, F.2.2.1, F.2.2.2.1, F.2.2.2.2.1⟩ hM (cwV n F.2.2.2.2.1 hL.1 rfl hrm.1 hrm.2.1 ⟨rfl, hL.2⟩ hrm.2.2) ⟨zblindS, va_recv F.2.2.2.2.2.1.1 hP hcl hq, zprecS F.2.2.2.2.2.1 hP F.2.2.2.2.2.2.1 F.2.2.2.2.2.2.2.1 hS hstr⟩ rfl hn hl.1 hst (lv_room hW) d ⟨F.2.2.2.2.2.2.2.2.2.2.1, F.2.2.2.2.2.2.2.2.2.2.2⟩
theorem zrunS_N {host : String} (F : zF (p, l, e, R, s, m, args, below, meth, c, Q, g, A, nL, nc, ns) cc own ret) (hstr : zStrU g A s s.heap) (hS : va_S A s.heap H locs) (hL : zLkN own index y host cy maxL rty n) (hM : Met l y (zWs y cy maxL rty) rm (va_Pc (.ref (g.1 k i) :: As) (zPreS g σ H.size)) Qc 0 0 free) (hi : i < zLim k) (hc : ∃ fs, zC g (σ k i) k i = .inr (ci, fs)) (hcl : vwCl[ci]? = some (y.cls, T, N)) (hrm : rm.cells = 0 ∧ rm.slots = 0 ∧ rm.frames + 1 ≤ R.frames ∧ 8 + (maxL + 11) + rm.locals ≤ R.locals) (hn : As.length = n) (hst : st0 = As.reverse ++ .ref (g.1 k i) :: st) (hW : (st.map fun v => v.category).sum ≤ 8) (d : decode cc pc = .ok (.invokevirtual index, 3)) (hP : va_P g.2.2 vwCl (zW g σ) H) (hl : zL ls nL lv) : va_Run p l e R s m args below meth c H locs nc ns 0 0 (F0 m pc ls st0) st (Qc (Value.ref (g.1 k i) :: As).toArray) free := by
  obtain ⟨q, -, hq⟩ := zW_at (g := g) (σ := σ) hi
  obtain ⟨fs, hc⟩ := hc
  rw [hc] at hq
  exact va_runVN ⟨F.1, F.2.1, F.2.2.1, F.2.2.2.1, F.2.2.2.2.1⟩ hM ⟨va_cnB n F.2.2.2.2.1 hL.2.1 rfl hrm.1 hrm.2.1 (F.2.2.2.2.2.1.2 _ hL.1) (F.2.2.2.2.1 _ hL.2.2.1) hL.2.2.2.2.2 hrm.2.2, F.2.2.2.2.1 _ hL.2.2.2.1, F.2.2.2.2.1 _ hL.2.2.2.2.1⟩ ⟨zblindS, va_recv F.2.2.2.2.2.1.1 hP hcl hq, zprecS F.2.2.2.2.2.1 hP F.2.2.2.2.2.2.1 F.2.2.2.2.2.2.2.1 hS hstr⟩ rfl hn hl.1 hst (lv_room hW) d ⟨F.2.2.2.2.2.2.2.2.2.2.1, F.2.2.2.2.2.2.2.2.2.2.2⟩
theorem zrunS_T (F : zF (p, l, e, R, s, m, args, below, meth, c, Q, g, A, nL, nc, ns) cc own ret) (hstr : zStrU g A s s.heap) (hS : va_S A s.heap H locs) (hL : zLkV own index y cy maxL rty n) (hM : Met l y (zWs y cy maxL rty) rm (va_Pc (.ref (g.1 40 i) :: As) (zPreS g σ H.size)) Qc 0 0 free) (hi : i < 4) (hcl : y.cls = "java/lang/String") (hrm : rm.cells = 0 ∧ rm.slots = 0 ∧ rm.frames + 1 ≤ R.frames ∧ 8 + (maxL + 11) + rm.locals ≤ R.locals) (hn : As.length = n) (hst : st0 = As.reverse ++ .ref (g.1 40 i) :: st) (hW : (st.map fun v => v.category).sum ≤ 8) (d : decode cc pc = .ok (.invokevirtual index, 3)) (hP : va_P g.2.2 vwCl (zW g σ) H) (hl : zL ls nL lv) : va_Run p l e R s m args below meth c H locs nc ns 0 0 (F0 m pc ls st0) st (Qc (Value.ref (g.1 40 i) :: As).toArray) free := by
  exact va_runV ⟨F.1, F.2.1, F.2.2.1, F.2.2.2.1, F.2.2.2.2.1⟩ hM (cwV n F.2.2.2.2.1 hL.1 rfl hrm.1 hrm.2.1 ⟨rfl, hL.2⟩ hrm.2.2) ⟨zblindS, by rw [hcl]; exact vk_recv hstr.1 hi hS, zprecS F.2.2.2.2.2.1 hP F.2.2.2.2.2.2.1 F.2.2.2.2.2.2.2.1 hS hstr⟩ rfl hn hl.1 hst (lv_room hW) d ⟨F.2.2.2.2.2.2.2.2.2.2.1, F.2.2.2.2.2.2.2.2.2.2.2⟩
theorem zrunS_S (F : zF (p, l, e, R, s, m, args, below, meth, c, Q, g, A, nL, nc, ns) cc own ret) (hstr : zStrU g A s s.heap) (hS : va_S A s.heap H locs) (hL : zLkS own index y cy maxL rty n) (hM : Met l y (zWs y cy maxL rty) rm (va_Pc As (zPreS g σ H.size)) Qc 0 0 free) (hrm : rm.cells = 0 ∧ rm.slots = 0 ∧ rm.frames + 1 ≤ R.frames ∧ 8 + (maxL + 11) + rm.locals ≤ R.locals) (hn : As.length = n) (hst : st0 = As.reverse ++ st) (hW : (st.map fun v => v.category).sum ≤ 8) (d : decode cc pc = .ok (.invokestatic index, 3)) (hP : va_P g.2.2 vwCl (zW g σ) H) (hl : zL ls nL lv) : va_Run p l e R s m args below meth c H locs nc ns 0 0 (F0 m pc ls st0) st (Qc As.toArray) free := by
  exact va_runS ⟨F.1, F.2.1, F.2.2.1, F.2.2.2.1, F.2.2.2.2.1⟩ hM (va_cwS n F.2.2.2.2.1 hL.1 rfl hrm.1 hrm.2.1 hL.2 hrm.2.2) ⟨zblindS, zprecS F.2.2.2.2.2.1 hP F.2.2.2.2.2.2.1 F.2.2.2.2.2.2.2.1 hS hstr⟩ rfl hn hl.1 hst (lv_room hW) d ⟨F.2.2.2.2.2.2.2.2.2.2.1, F.2.2.2.2.2.2.2.2.2.2.2⟩
end ZCS
section ZRS
variable {K : zX} {α : Type} {t : α} {pc : Nat} {lv : List (Option Value)} {st : List Value} {σ : zS} {o : Option α} {cc : ByteArray} {own : String} {ret : Option FieldType}
theorem z_ldcS (F : zF K cc RX7 ret) (S : zStr K) (i : Nat) {index : Nat} (hi : i < 4) (hx : zSi i = index) (d : decode cc pc = .ok (.ldc index, 2)) (kk : ZO K t (pc + 2) lv (.ref (zad K 40 i) :: st) σ o) : ZO K t pc lv st σ o := by
  obtain ⟨p, l, e, R, s, m, args, below, meth, c, Q, g, A, nL, nc, ns⟩ := K
  subst hx
  intro ho H locs ls hP hS hl
  exact va_ldcS F.1 F.2.1 F.2.2.2.1 (S.2.1 i hi) d (kk ho H locs ls hP hS hl)
theorem z_sgetV (F : zF K cc own ret) (S : zStr K) (i : Nat) {index : Nat} (hi : i < 4) (hl : Cond.fieldLink own index "java/lang/String" "value" "[B" ∈ zT) (d : decode cc pc = .ok (.getfield index, 3)) (kk : ZO K t (pc + 3) lv (.ref (zad K 41 i) :: st) σ o) : ZO K t pc lv (.ref (zad K 40 i) :: st) σ o := by
  obtain ⟨p, l, e, R, s, m, args, below, meth, c, Q, g, A, nL, nc, ns⟩ := K
  intro ho H locs ls hP hS hl2
  exact vk_getf F.1 F.2.1 (S.1.1 i hi).2.2.1 hS F.2.2.2.1 (F.2.2.2.2.1 _ hl) (fun _ h9 => h9) d (kk ho H locs ls hP hS hl2)
theorem z_sgetC (F : zF K cc own ret) (S : zStr K) (i : Nat) {index : Nat} (hi : i < 4) (hl : Cond.fieldLink own index "java/lang/String" "coder" "B" ∈ zT) (d : decode cc pc = .ok (.getfield index, 3)) (kk : ZO K t (pc + 3) lv (.int 0 :: st) σ o) : ZO K t pc lv (.ref (zad K 40 i) :: st) σ o := by
  obtain ⟨p, l, e, R, s, m, args, below, meth, c, Q, g, A, nL, nc, ns⟩ := K
  intro ho H locs ls hP hS hl2
  exact vk_getf F.1 F.2.1 (S.1.1 i hi).2.1 hS F.2.2.2.1 (F.2.2.2.2.1 _ hl) (fun _ h9 => h9) d (kk ho H locs ls hP hS hl2)
theorem z_slenS (F : zF K cc own ret) (S : zStr K) (i : Nat) (hi : i < 4) (d : decode cc pc = .ok (.arraylength, 1)) (kk : ZO K t (pc + 1) lv (.int (nI (zLen.getD i 0)) :: st) σ o) : ZO K t pc lv (.ref (zad K 41 i) :: st) σ o := by
  obtain ⟨p, l, e, R, s, m, args, below, meth, c, Q, g, A, nL, nc, ns⟩ := K
  intro ho H locs ls hP hS hl2
  exact va_tlen F.1 F.2.1 (S.1.1 i hi).2.2.2 hS rfl d (kk ho H locs ls hP hS hl2)
theorem z_sbyt (F : zF K cc own ret) (S : zStr K) (i : Nat) (hi : i < 4) {j : Int32} (hj : vp_in j (zLen.getD i 0)) (d : decode cc pc = .ok (.baload, 1)) (kk : ZO K t (pc + 1) lv (.int ((zByt.getD i []).getD j.toNatClampNeg 0) :: st) σ o) : ZO K t pc lv (.int j :: .ref (zad K 41 i) :: st) σ o := by
  obtain ⟨p, l, e, R, s, m, args, below, meth, c, Q, g, A, nL, nc, ns⟩ := K
  intro ho H locs ls hP hS hl2
  exact va_tb F.1 F.2.1 (S.1.1 i hi).2.2.2 hS hj rfl d (kk ho H locs ls hP hS hl2)
theorem z_gsC (F : zF K cc own ret) (S : zStr K) {index : Nat} (hl : Cond.fieldLink own index "java/lang/String" "COMPACT_STRINGS" "Z" ∈ zT) (d : decode cc pc = .ok (.getstatic index, 3)) (kk : ZO K t (pc + 3) lv (.int 1 :: st) σ o) : ZO K t pc lv st σ o := by
  obtain ⟨p, l, e, R, s, m, args, below, meth, c, Q, g, A, nL, nc, ns⟩ := K
  intro ho H locs ls hP hS hl2
  exact va_gets F.1 F.2.1 S.2.2.1 hS F.2.2.2.1 (F.2.2.2.2.1 _ hl) (fun _ h9 => h9) d (kk ho H locs ls hP hS hl2)
theorem z_gsF (F : zF K cc own ret) (S : zStr K) {index : Nat} (hl : Cond.fieldLink own index "jdk/internal/util/Preconditions" "SIOOBE_FORMATTER" "Ljava/util/function/BiFunction;" ∈ zT) (d : decode cc pc = .ok (.getstatic index, 3)) (kk : ZO K t (pc + 3) lv (zfo K :: st) σ o) : ZO K t pc lv st σ o := by
  obtain ⟨p, l, e, R, s, m, args, below, meth, c, Q, g, A, nL, nc, ns⟩ := K
  intro ho H locs ls hP hS hl2
  exact va_gets F.1 F.2.1 S.2.2.2 hS F.2.2.2.1 (F.2.2.2.2.1 _ hl) (fun _ h9 => h9) d (kk ho H locs ls hP hS hl2)
theorem z_i2c (F : zF K cc own ret) {x : Int32} (d : decode cc pc = .ok (.i2c, 1)) (kk : ZO K t (pc + 1) lv (.int ((x.toUInt32 % 65536).toInt32) :: st) σ o) : ZO K t pc lv (.int x :: st) σ o := by
  obtain ⟨p, l, e, R, s, m, args, below, meth, c, Q, g, A, nL, nc, ns⟩ := K
  intro ho H locs ls hP hS hl
  exact lv_i2c F.1 F.2.1 d rfl (kk ho H locs ls hP hS hl)
end ZRS
theorem zNarC {x : Int32} (h : (x.toUInt32 % 65536).toInt32 = x) : narrow .char (.int x) = .int x := by
  have := pk_nc x
  rw [h] at this
  exact this
theorem z_callVsi {K : zX} {α : Type} {t : α} {pc : Nat} {lv : List (Option Value)} {st st0 : List Value} {σ : zS} {cc cy : ByteArray} {own : String} {ret rty : Option FieldType} {y : MethodName} {index maxL n ci N : Nat} {T : u_T} {rm : Room} {av : (Nat → Nat → Nat) → List Value} {oc : Option (Int32 × zS)} {ok : Int32 → zS → Option α} (F : zF K cc own ret) (S : zStr K) (k i : Nat) (As : List Value) (hL : zLkV own index y cy maxL rty n) (hM : zMs (zln K) y cy maxL rty rm av σ oc) (hav : av (zad K) = .ref (zad K k i) :: As) (hi : i < zLim k) (hc : ∀ g, ∃ fs, zC g (σ k i) k i = .inr (ci, fs)) (hcl : vwCl[ci]? = some (y.cls, T, N)) (hrm : rm.cells = 0 ∧ rm.slots = 0 ∧ rm.frames + 1 ≤ (zrm K).frames ∧ 8 + (maxL + 11) + rm.locals ≤ (zrm K).locals) (hn : As.length = n) (hst : st0 = As.reverse ++ .ref (zad K k i) :: st) (hW : (st.map fun v => v.category).sum ≤ 8) (d : decode cc pc = .ok (.invokevirtual index, 3)) (kk : ∀ r σ1, ZO K t (pc + 3) lv (.int r :: st) σ1 (ok r σ1)) : ZO K t pc lv st0 σ (zCi oc ok) := by
  obtain ⟨p, l, e, R, s, m, args, below, meth, c, Q, g, A, nL, nc, ns⟩ := K
  intro ho H locs ls hP hS hl
  cases hoc : oc with
  | none => rw [hoc] at ho; cases ho
  | some q =>
    obtain ⟨r, σ'⟩ := q
    rw [hoc] at ho
    have hm := hM r σ' hoc g H.size
    rw [show av g.1 = .ref (g.1 k i) :: As from hav] at hm
    have hf := zad_free F.2.2.2.2.2.2.1 F.2.2.2.2.2.2.2.1 hS
    have hrun := zrunS_V (st := st) (st0 := st0) (locs := locs) F S hS hL hm hi (hc g) hcl hrm hn hst hW d hP hl
    refine va_calli hrun hS (fun q _ h => hf q h) hf (fun r1 u t1 H1 locs1 ht _ hw hB _ _ hS1 => ?_)
    obtain ⟨rfl, rfl⟩ := hw
    unfold zAt at hB
    rw [ht] at hB
    exact kk _ _ ho H1 locs1 ls hB hS1 hl
theorem z_callNsi {K : zX} {α : Type} {t : α} {pc : Nat} {lv : List (Option Value)} {st st0 : List Value} {σ : zS} {cc cy : ByteArray} {own : String} {ret rty : Option FieldType} {y : MethodName} {index maxL n ci N : Nat} {T : u_T} {rm : Room} {av : (Nat → Nat → Nat) → List Value} {oc : Option (Int32 × zS)} {ok : Int32 → zS → Option α} {host : String} (F : zF K cc own ret) (S : zStr K) (k i : Nat) (As : List Value) (hL : zLkN own index y host cy maxL rty n) (hM : zMs (zln K) y cy maxL rty rm av σ oc) (hav : av (zad K) = .ref (zad K k i) :: As) (hi : i < zLim k) (hc : ∀ g, ∃ fs, zC g (σ k i) k i = .inr (ci, fs)) (hcl : vwCl[ci]? = some (y.cls, T, N)) (hrm : rm.cells = 0 ∧ rm.slots = 0 ∧ rm.frames + 1 ≤ (zrm K).frames ∧ 8 + (maxL + 11) + rm.locals ≤ (zrm K).locals) (hn : As.length = n) (hst : st0 = As.reverse ++ .ref (zad K k i) :: st) (hW : (st.map fun v => v.category).sum ≤ 8) (d : decode cc pc = .ok (.invokevirtual index, 3)) (kk : ∀ r σ1, ZO K t (pc + 3) lv (.int r :: st) σ1 (ok r σ1)) : ZO K t pc lv st0 σ (zCi oc ok) := by
  obtain ⟨p, l, e, R, s, m, args, below, meth, c, Q, g, A, nL, nc, ns⟩ := K
  intro ho H locs ls hP hS hl
  cases hoc : oc with
  | none => rw [hoc] at ho; cases ho
  | some q =>
    obtain ⟨r, σ'⟩ := q
    rw [hoc] at ho
    have hm := hM r σ' hoc g H.size
    rw [show av g.1 = .ref (g.1 k i) :: As from hav] at hm
    have hf := zad_free F.2.2.2.2.2.2.1 F.2.2.2.2.2.2.2.1 hS
    have hrun := zrunS_N (st := st) (st0 := st0) (locs := locs) F S hS hL hm hi (hc g) hcl hrm hn hst hW d hP hl
    refine va_calli hrun hS (fun q _ h => hf q h) hf (fun r1 u t1 H1 locs1 ht _ hw hB _ _ hS1 => ?_)
    obtain ⟨rfl, rfl⟩ := hw
    unfold zAt at hB
    rw [ht] at hB
    exact kk _ _ ho H1 locs1 ls hB hS1 hl
theorem z_callTsi {K : zX} {α : Type} {t : α} {pc : Nat} {lv : List (Option Value)} {st st0 : List Value} {σ : zS} {cc cy : ByteArray} {own : String} {ret rty : Option FieldType} {y : MethodName} {index maxL n : Nat} {rm : Room} {av : (Nat → Nat → Nat) → List Value} {oc : Option (Int32 × zS)} {ok : Int32 → zS → Option α} (F : zF K cc own ret) (S : zStr K) (i : Nat) (As : List Value) (hL : zLkV own index y cy maxL rty n) (hM : zMs (zln K) y cy maxL rty rm av σ oc) (hav : av (zad K) = .ref (zad K 40 i) :: As) (hi : i < 4) (hcl : y.cls = "java/lang/String") (hrm : rm.cells = 0 ∧ rm.slots = 0 ∧ rm.frames + 1 ≤ (zrm K).frames ∧ 8 + (maxL + 11) + rm.locals ≤ (zrm K).locals) (hn : As.length = n) (hst : st0 = As.reverse ++ .ref (zad K 40 i) :: st) (hW : (st.map fun v => v.category).sum ≤ 8) (d : decode cc pc = .ok (.invokevirtual index, 3)) (kk : ∀ r σ1, ZO K t (pc + 3) lv (.int r :: st) σ1 (ok r σ1)) : ZO K t pc lv st0 σ (zCi oc ok) := by
  obtain ⟨p, l, e, R, s, m, args, below, meth, c, Q, g, A, nL, nc, ns⟩ := K
  intro ho H locs ls hP hS hl
  cases hoc : oc with
  | none => rw [hoc] at ho; cases ho
  | some q =>
    obtain ⟨r, σ'⟩ := q
    rw [hoc] at ho
    have hm := hM r σ' hoc g H.size
    rw [show av g.1 = .ref (g.1 40 i) :: As from hav] at hm
    have hf := zad_free F.2.2.2.2.2.2.1 F.2.2.2.2.2.2.2.1 hS
    have hrun := zrunS_T (st := st) (st0 := st0) (locs := locs) F S hS hL hm hi hcl hrm hn hst hW d hP hl
    refine va_calli hrun hS (fun q _ h => hf q h) hf (fun r1 u t1 H1 locs1 ht _ hw hB _ _ hS1 => ?_)
    obtain ⟨rfl, rfl⟩ := hw
    unfold zAt at hB
    rw [ht] at hB
    exact kk _ _ ho H1 locs1 ls hB hS1 hl
theorem z_callSsi {K : zX} {α : Type} {t : α} {pc : Nat} {lv : List (Option Value)} {st st0 : List Value} {σ : zS} {cc cy : ByteArray} {own : String} {ret rty : Option FieldType} {y : MethodName} {index maxL n : Nat} {rm : Room} {av : (Nat → Nat → Nat) → List Value} {oc : Option (Int32 × zS)} {ok : Int32 → zS → Option α} (F : zF K cc own ret) (S : zStr K) (As : List Value) (hL : zLkS own index y cy maxL rty n) (hM : zMs (zln K) y cy maxL rty rm av σ oc) (hav : av (zad K) = As) (hrm : rm.cells = 0 ∧ rm.slots = 0 ∧ rm.frames + 1 ≤ (zrm K).frames ∧ 8 + (maxL + 11) + rm.locals ≤ (zrm K).locals) (hn : As.length = n) (hst : st0 = As.reverse ++ st) (hW : (st.map fun v => v.category).sum ≤ 8) (d : decode cc pc = .ok (.invokestatic index, 3)) (kk : ∀ r σ1, ZO K t (pc + 3) lv (.int r :: st) σ1 (ok r σ1)) : ZO K t pc lv st0 σ (zCi oc ok) := by
  obtain ⟨p, l, e, R, s, m, args, below, meth, c, Q, g, A, nL, nc, ns⟩ := K
  intro ho H locs ls hP hS hl
  cases hoc : oc with
  | none => rw [hoc] at ho; cases ho
  | some q =>
    obtain ⟨r, σ'⟩ := q
    rw [hoc] at ho
    have hm := hM r σ' hoc g H.size
    rw [show av g.1 = As from hav] at hm
    have hf := zad_free F.2.2.2.2.2.2.1 F.2.2.2.2.2.2.2.1 hS
    have hrun := zrunS_S (st := st) (st0 := st0) (locs := locs) F S hS hL hm hrm hn hst hW d hP hl
    refine va_calli hrun hS (fun q _ h => hf q h) hf (fun r1 u t1 H1 locs1 ht _ hw hB _ _ hS1 => ?_)
    obtain ⟨rfl, rfl⟩ := hw
    unfold zAt at hB
    rw [ht] at hB
    exact kk _ _ ho H1 locs1 ls hB hS1 hl
theorem z_callSsv {K : zX} {α : Type} {t : α} {pc : Nat} {lv : List (Option Value)} {st st0 : List Value} {σ : zS} {cc cy : ByteArray} {own : String} {ret rty : Option FieldType} {y : MethodName} {index maxL n : Nat} {rm : Room} {av : (Nat → Nat → Nat) → List Value} {oc : Option (Int32 × zS)} {ok : zS → Option α} (F : zF K cc own ret) (S : zStr K) (As : List Value) (hL : zLkS own index y cy maxL rty n) (hM : zMw (zln K) y cy maxL rty rm av σ oc) (hav : av (zad K) = As) (hrm : rm.cells = 0 ∧ rm.slots = 0 ∧ rm.frames + 1 ≤ (zrm K).frames ∧ 8 + (maxL + 11) + rm.locals ≤ (zrm K).locals) (hn : As.length = n) (hst : st0 = As.reverse ++ st) (hW : (st.map fun v => v.category).sum ≤ 8) (d : decode cc pc = .ok (.invokestatic index, 3)) (kk : ∀ σ1, ZO K t (pc + 3) lv st σ1 (ok σ1)) : ZO K t pc lv st0 σ (zCv oc ok) := by
  obtain ⟨p, l, e, R, s, m, args, below, meth, c, Q, g, A, nL, nc, ns⟩ := K
  intro ho H locs ls hP hS hl
  cases hoc : oc with
  | none => rw [hoc] at ho; cases ho
  | some q =>
    obtain ⟨r, σ'⟩ := q
    rw [hoc] at ho
    have hm := hM r σ' hoc g H.size
    rw [show av g.1 = As from hav] at hm
    have hf := zad_free F.2.2.2.2.2.2.1 F.2.2.2.2.2.2.2.1 hS
    have hrun := zrunS_S (st := st) (st0 := st0) (locs := locs) F S hS hL hm hrm hn hst hW d hP hl
    refine va_callv hrun hS (fun q _ h => hf q h) hf (fun u t1 H1 locs1 ht _ hw hB _ _ hS1 => ?_)
    subst hw
    unfold zAt at hB
    rw [ht] at hB
    exact kk _ ho H1 locs1 ls hB hS1 hl
