/-! Contracts over the state picture, calls. -/
def zAd (g : zG) (sz : Nat) : Nat → Prop := fun q => (∃ x ∈ zIds, q = g.1 x.1 x.2) ∨ sz ≤ q
def zPre (g : zG) (σ : zS) (sz : Nat) : State → Prop := fun U => U.heap.size = sz ∧ va_P g.2.2 vwCl (zW g σ) U.heap ∧ zKn g U ∧ va_D (fun _ => True) (zW g σ)
def zAt (g : zG) : zS → State → Prop := fun σ t => va_P g.2.2 vwCl (zW g σ) t.heap
abbrev zWs (y : MethodName) (cc : ByteArray) (nL : Nat) (ret : Option FieldType) : List Cond := .code y cc nL ret :: zT
def zMi (l : Launch) (y : MethodName) (cc : ByteArray) (nL : Nat) (ret : Option FieldType) (rm : Room) (av : (Nat → Nat → Nat) → List Value) (σ : zS) (o : Option (Int32 × zS)) : Prop := ∀ (r : Int32) (σ' : zS), o = some (r, σ') → ∀ (g : zG) (sz : Nat), Met l y (zWs y cc nL ret) rm (va_Pc (av g.1) (zPre g σ sz)) (va_Qi (fun r' u => r' = r ∧ u = σ') (zAt g) (zAd g sz)) 0 0 (zAd g sz)
def zMv (l : Launch) (y : MethodName) (cc : ByteArray) (nL : Nat) (ret : Option FieldType) (rm : Room) (av : (Nat → Nat → Nat) → List Value) (σ : zS) (o : Option (Int32 × zS)) : Prop := ∀ (r : Int32) (σ' : zS), o = some (r, σ') → ∀ (g : zG) (sz : Nat), Met l y (zWs y cc nL ret) rm (va_Pc (av g.1) (zPre g σ sz)) (va_Qv (fun u => u = σ') (zAt g) (zAd g sz)) 0 0 (zAd g sz)
def zMq (kq : Nat) (l : Launch) (y : MethodName) (cc : ByteArray) (nL : Nat) (ret : Option FieldType) (rm : Room) (av : (Nat → Nat → Nat) → List Value) (σ : zS) (o : Option (Option Nat × zS)) : Prop := ∀ (r : Option Nat) (σ' : zS), o = some (r, σ') → ∀ (g : zG) (sz : Nat), Met l y (zWs y cc nL ret) rm (va_Pc (av g.1) (zPre g σ sz)) (va_Qq (fun r' u => r' = r.map (g.1 kq) ∧ u = σ') (zAt g) (zAd g sz)) 0 0 (zAd g sz)
def zEi (K : zX) (t : Int32 × zS) : Prop := match K with
  | (_, _, _, _, s, _, args, below, _, _, Q, g, A, _, nc, ns) => Q = MQ below (va_Qi (fun r' u => r' = t.1 ∧ u = t.2) (zAt g) A) args s 0 0 A ∧ nc = 0 ∧ ns = 0
def zEv (K : zX) (t : Int32 × zS) : Prop := match K with
  | (_, _, _, _, s, _, args, below, _, _, Q, g, A, _, nc, ns) => Q = MQ below (va_Qv (fun u => u = t.2) (zAt g) A) args s 0 0 A ∧ nc = 0 ∧ ns = 0
def zEq (kq : Nat) (K : zX) (t : Option Nat × zS) : Prop := match K with
  | (_, _, _, _, s, _, args, below, _, _, Q, g, A, _, nc, ns) => Q = MQ below (va_Qq (fun r' u => r' = t.1.map (g.1 kq) ∧ u = t.2) (zAt g) A) args s 0 0 A ∧ nc = 0 ∧ ns = 0
def zEnt (vs : List Value) (n : Nat) : List (Option Value) := vs.map some ++ List.replicate (n - vs.length) none
theorem zlg_sl : ∀ (vs : List Value), (∀ v ∈ vs, v.category = 1) → lg_sl vs = vs.map Slot.val
  | [], _ => rfl
  | v :: vs, h => by
    have h1 : v.category = 1 := h v List.mem_cons_self
    have h2 := zlg_sl vs (fun w hw => h w (List.mem_cons_of_mem _ hw))
    unfold lg_sl at h2 ⊢
    rw [List.flatMap_cons, h2, h1]
    rfl
theorem zL_entry {vs : List Value} {n : Nat} (hc : ∀ v ∈ vs, v.category = 1) (hn : vs.length ≤ n) : zL ((lg_sl vs ++ List.replicate (n - (lg_sl vs).length) Slot.unset).toArray) n (zEnt vs n) := by
  have hl := lv_entry vs (n := n) (by rw [zlg_sl vs hc, List.length_map]; exact hn)
  have key : ∀ (i : Nat) (v : Value), (zEnt vs n)[i]? = some (some v) → vs[i]? = some v := by
    intro i v h
    unfold zEnt at h
    by_cases hi : i < vs.length
    · rw [List.getElem?_append_left (by rw [List.length_map]; exact hi), List.getElem?_map] at h
      cases hz : vs[i]? with
      | none => rw [hz] at h; cases h
      | some w => rw [hz] at h; cases h; rfl
    · rw [List.getElem?_append_right (by rw [List.length_map]; omega), List.getElem?_replicate] at h
      split at h <;> cases h
  refine ⟨hl.1, hl.2.1, fun i v h => ?_, ?_, fun i v h => hc v (List.mem_of_getElem? (key i v h))⟩
  · have h1 := key i v h
    have hi := (List.getElem?_eq_some_iff.mp h1).1
    rw [zlg_sl vs hc, List.getElem?_toArray, List.getElem?_append_left (by rw [List.length_map]; exact hi), List.getElem?_map, h1]
    rfl
  · unfold zEnt
    rw [List.length_append, List.length_map, List.length_replicate]
    omega
theorem zD_ad {g : zG} {σ : zS} {sz : Nat} (h : va_D (fun _ => True) (zW g σ)) : va_D (zAd g sz) (zW g (fun _ _ _ => 0)) := by
  have h0 : va_D (fun _ => True) (zW g (fun _ _ _ => 0)) := zD_any h
  refine ⟨h0.1, fun n q hn => Or.inl ?_⟩
  unfold zW at hn
  rw [List.getElem?_map] at hn
  cases hz : zIds[n]? with
  | none => rw [hz] at hn; cases hn
  | some x => rw [hz] at hn; cases hn; exact ⟨x, List.mem_of_getElem? hz, rfl⟩
theorem zMet.ofW {l : Launch} {y : MethodName} {ws ws' : List Cond} {rm : Room} {Pc : Array Value → State → Prop} {Qc : Array Value → State → Outcome → State → Prop} {mc ms : Nat} {free : Addr → Prop} {cc : ByteArray} {maxL : Nat} {ret : Option FieldType}
    (hy : plainFor y = true) (hw : ws = Cond.code y cc maxL ret :: ws')
    (body : ∀ p e s m args below meth c s₁, BodyLoose p l y (headSpec ws rm) cc maxL ret e s m args below meth c s₁ → c.maxLocals = maxL → Pc args s →
      W p l e (headSpec ws rm).room s m args below meth c s.heap [] 0 0 (MQ below Qc args s mc ms free) (entryFrame m args maxL)) : Met l y ws rm Pc Qc mc ms free := by
  refine MetFree.of_bodyRF (code := cc) (maxLocals := maxL) (ret := ret) hy ?_ ?_
  · intro args s m h hn
    obtain ⟨meth, c, h1, h2, h3, h4, h5, h6, -, -⟩ := Cond.code_spec hn (atoms_spec (ws := ws) h _ (by rw [hw]; exact List.mem_cons_self))
    exact ⟨meth, c, h1, h2, h3, h4, h5, h6⟩
  · intro p e s m args below meth c s₁ B hml hP _ hst
    have hh0 : s₁.heap = s.heap := by rw [B.state]; rfl
    obtain ⟨t, a1, o, b1, b2, b3⟩ := body p e s m args below meth c s₁ B hml hP s₁ hh0 (Stand.of_body B)
    exact ⟨t, o, Steps.trans hst a1, b1, b2, ⟨b3.1, b3.2⟩⟩
theorem zMi.of {l : Launch} {y : MethodName} {cc : ByteArray} {nL : Nat} {ret : Option FieldType} {rm : Room} {av : (Nat → Nat → Nat) → List Value} {σ : zS} {o : Option (Int32 × zS)} (own : String) (hy : plainFor y = true) (hown : y.cls = own) (hav : ∀ ad, (av ad).length ≤ nL) (hac : ∀ ad, ∀ v ∈ av ad, v.category = 1)
    (body : ∀ (K : zX) (t : Int32 × zS), zF K cc own ret → zrm K = rm → zln K = l → zEi K t → ZO K t 0 (zEnt (av (zad K)) nL) [] σ o) : zMi l y cc nL ret rm av σ o := by
  intro r σ' ho g sz
  refine zMet.ofW (cc := cc) (maxL := nL) (ret := ret) hy rfl ?_
  intro p e s m args below meth c s₁ B hml hv
  obtain ⟨rfl, hsz, hP, hK, hD0⟩ := hv
  have hts := atoms_spec (ws := zWs y cc nL ret) B.pre
  have ho2 : s.vm.findClass own = some m.cls := by rw [← hown]; exact findClass_of_methodNamed B.named
  subst hsz
  have hb := body (p, l, e, rm, s, m, (av g.1).toArray, below, meth, c, MQ below (va_Qi (fun r' u => r' = r ∧ u = σ') (zAt g) (zAd g s.heap.size)) (av g.1).toArray s 0 0 (zAd g s.heap.size), g, zAd g s.heap.size, nL, 0, 0) (r, σ') ⟨B.exec, B.bytes, hml, ho2, fun w hw => hts w (List.mem_cons_of_mem _ hw), hK, zD_ad hD0, fun q h => Or.inr h, B.returns, B.notSynchronized, Nat.zero_le _, Nat.zero_le _⟩ rfl rfl ⟨rfl, rfl, rfl⟩
  rw [lg_entry_eq]
  exact hb ho s.heap [] _ hP va_S.rf (zL_entry (hac g.1) (hav g.1))
theorem zMv.of {l : Launch} {y : MethodName} {cc : ByteArray} {nL : Nat} {ret : Option FieldType} {rm : Room} {av : (Nat → Nat → Nat) → List Value} {σ : zS} {o : Option (Int32 × zS)} (own : String) (hy : plainFor y = true) (hown : y.cls = own) (hav : ∀ ad, (av ad).length ≤ nL) (hac : ∀ ad, ∀ v ∈ av ad, v.category = 1)
    (body : ∀ (K : zX) (t : Int32 × zS), zF K cc own ret → zrm K = rm → zln K = l → zEv K t → ZO K t 0 (zEnt (av (zad K)) nL) [] σ o) : zMv l y cc nL ret rm av σ o := by
  intro r σ' ho g sz
  refine zMet.ofW (cc := cc) (maxL := nL) (ret := ret) hy rfl ?_
  intro p e s m args below meth c s₁ B hml hv
  obtain ⟨rfl, hsz, hP, hK, hD0⟩ := hv
  have hts := atoms_spec (ws := zWs y cc nL ret) B.pre
  have ho2 : s.vm.findClass own = some m.cls := by rw [← hown]; exact findClass_of_methodNamed B.named
  subst hsz
  have hb := body (p, l, e, rm, s, m, (av g.1).toArray, below, meth, c, MQ below (va_Qv (fun u => u = σ') (zAt g) (zAd g s.heap.size)) (av g.1).toArray s 0 0 (zAd g s.heap.size), g, zAd g s.heap.size, nL, 0, 0) (r, σ') ⟨B.exec, B.bytes, hml, ho2, fun w hw => hts w (List.mem_cons_of_mem _ hw), hK, zD_ad hD0, fun q h => Or.inr h, B.returns, B.notSynchronized, Nat.zero_le _, Nat.zero_le _⟩ rfl rfl ⟨rfl, rfl, rfl⟩
  rw [lg_entry_eq]
  exact hb ho s.heap [] _ hP va_S.rf (zL_entry (hac g.1) (hav g.1))
theorem zMq.of {kq : Nat} {l : Launch} {y : MethodName} {cc : ByteArray} {nL : Nat} {ret : Option FieldType} {rm : Room} {av : (Nat → Nat → Nat) → List Value} {σ : zS} {o : Option (Option Nat × zS)} (own : String) (hy : plainFor y = true) (hown : y.cls = own) (hav : ∀ ad, (av ad).length ≤ nL) (hac : ∀ ad, ∀ v ∈ av ad, v.category = 1)
    (body : ∀ (K : zX) (t : Option Nat × zS), zF K cc own ret → zrm K = rm → zln K = l → zEq kq K t → ZO K t 0 (zEnt (av (zad K)) nL) [] σ o) : zMq kq l y cc nL ret rm av σ o := by
  intro r σ' ho g sz
  refine zMet.ofW (cc := cc) (maxL := nL) (ret := ret) hy rfl ?_
  intro p e s m args below meth c s₁ B hml hv
  obtain ⟨rfl, hsz, hP, hK, hD0⟩ := hv
  have hts := atoms_spec (ws := zWs y cc nL ret) B.pre
  have ho2 : s.vm.findClass own = some m.cls := by rw [← hown]; exact findClass_of_methodNamed B.named
  subst hsz
  have hb := body (p, l, e, rm, s, m, (av g.1).toArray, below, meth, c, MQ below (va_Qq (fun r' u => r' = r.map (g.1 kq) ∧ u = σ') (zAt g) (zAd g s.heap.size)) (av g.1).toArray s 0 0 (zAd g s.heap.size), g, zAd g s.heap.size, nL, 0, 0) (r, σ') ⟨B.exec, B.bytes, hml, ho2, fun w hw => hts w (List.mem_cons_of_mem _ hw), hK, zD_ad hD0, fun q h => Or.inr h, B.returns, B.notSynchronized, Nat.zero_le _, Nat.zero_le _⟩ rfl rfl ⟨rfl, rfl, rfl⟩
  rw [lg_entry_eq]
  exact hb ho s.heap [] _ hP va_S.rf (zL_entry (hac g.1) (hav g.1))
/-! ends -/
theorem z_iret {K : zX} {t : Int32 × zS} {pc : Nat} {lv : List (Option Value)} {σ : zS} {cc : ByteArray} {own : String} {x : Int32} (F : zF K cc own (some .int)) (E : zEi K t) (d : decode cc pc = .ok (.ireturn, 1)) : ZO K t pc lv [.int x] σ (some (x, σ)) := by
  obtain ⟨p, l, e, R, s, m, args, below, meth, c, Q, g, A, nL, nc, ns⟩ := K
  obtain ⟨rfl, rfl, rfl⟩ := E
  intro ho H locs ls hP hS hl
  cases ho
  exact W.iret F.1 F.2.1 F.2.2.2.2.2.2.2.2.1 (fun t' ht hW => ⟨⟨x, σ, rfl, ⟨rfl, rfl⟩, by unfold zAt; rw [ht]; exact hP⟩, hS.F ht⟩) hS.2.2 d F.2.2.2.2.2.2.2.2.2.1
theorem z_zret {K : zX} {t : Int32 × zS} {pc : Nat} {lv : List (Option Value)} {σ : zS} {cc : ByteArray} {own : String} {ty : FieldType} {x : Int32} (F : zF K cc own (some ty)) (E : zEi K t) (hn : narrow ty (.int x) = .int x) (d : decode cc pc = .ok (.ireturn, 1)) : ZO K t pc lv [.int x] σ (some (x, σ)) := by
  obtain ⟨p, l, e, R, s, m, args, below, meth, c, Q, g, A, nL, nc, ns⟩ := K
  obtain ⟨rfl, rfl, rfl⟩ := E
  intro ho H locs ls hP hS hl
  cases ho
  exact W.zret F.1 F.2.1 F.2.2.2.2.2.2.2.2.1 hn (fun t' ht hW => ⟨⟨x, σ, rfl, ⟨rfl, rfl⟩, by unfold zAt; rw [ht]; exact hP⟩, hS.F ht⟩) hS.2.2 d F.2.2.2.2.2.2.2.2.2.1
theorem z_vret {K : zX} {t : Int32 × zS} {pc : Nat} {lv : List (Option Value)} {σ : zS} {cc : ByteArray} {own : String} {x : Int32} (F : zF K cc own none) (E : zEv K t) (d : decode cc pc = .ok (.return_, 1)) : ZO K t pc lv [] σ (some (x, σ)) := by
  obtain ⟨p, l, e, R, s, m, args, below, meth, c, Q, g, A, nL, nc, ns⟩ := K
  obtain ⟨rfl, rfl, rfl⟩ := E
  intro ho H locs ls hP hS hl
  cases ho
  exact W.vret F.1 F.2.1 F.2.2.2.2.2.2.2.2.1 (fun t' ht hW => ⟨⟨σ, rfl, rfl, by unfold zAt; rw [ht]; exact hP⟩, hS.F ht⟩) hS.2.2 d F.2.2.2.2.2.2.2.2.2.1
theorem z_aret {kq : Nat} {K : zX} {t : Option Nat × zS} {pc : Nat} {lv : List (Option Value)} {σ : zS} {cc : ByteArray} {own C : String} {i : Nat} (F : zF K cc own (some (.object C))) (E : zEq kq K t) (d : decode cc pc = .ok (.areturn, 1)) : ZO K t pc lv [.ref (zad K kq i)] σ (some (some i, σ)) := by
  obtain ⟨p, l, e, R, s, m, args, below, meth, c, Q, g, A, nL, nc, ns⟩ := K
  obtain ⟨rfl, rfl, rfl⟩ := E
  intro ho H locs ls hP hS hl
  cases ho
  exact W.aret F.1 F.2.1 F.2.2.2.2.2.2.2.2.1 (Or.inl ⟨C, rfl⟩) (Or.inr ⟨_, rfl⟩) (fun t' ht hW => ⟨⟨some (g.1 kq i), σ, rfl, ⟨rfl, rfl⟩, by unfold zAt; rw [ht]; exact hP⟩, hS.F ht⟩) hS.2.2 d F.2.2.2.2.2.2.2.2.2.1
theorem z_aretN {kq : Nat} {K : zX} {t : Option Nat × zS} {pc : Nat} {lv : List (Option Value)} {σ : zS} {cc : ByteArray} {own C : String} (F : zF K cc own (some (.object C))) (E : zEq kq K t) (d : decode cc pc = .ok (.areturn, 1)) : ZO K t pc lv [.null] σ (some (none, σ)) := by
  obtain ⟨p, l, e, R, s, m, args, below, meth, c, Q, g, A, nL, nc, ns⟩ := K
  obtain ⟨rfl, rfl, rfl⟩ := E
  intro ho H locs ls hP hS hl
  cases ho
  exact W.aret F.1 F.2.1 F.2.2.2.2.2.2.2.2.1 (Or.inl ⟨C, rfl⟩) (Or.inl rfl) (fun t' ht hW => ⟨⟨none, σ, rfl, ⟨rfl, rfl⟩, by unfold zAt; rw [ht]; exact hP⟩, hS.F ht⟩) hS.2.2 d F.2.2.2.2.2.2.2.2.2.1
/-! calls -/
abbrev zNoMH (y : MethodName) (n : Nat) : Prop := y.cls ≠ "java/lang/invoke/MethodHandle" ∧ y.cls ≠ "java/lang/invoke/VarHandle" ∧ (parseMethodDescriptor y.desc).map (fun d => d.parameters.length) = some n
def zLkV (own : String) (index : Nat) (y : MethodName) (cy : ByteArray) (maxL : Nat) (ret : Option FieldType) (n : Nat) : Prop := GoodIn zT (wsV own index y.cls y (zWs y cy maxL ret)) ∧ zNoMH y n
def zLkS (own : String) (index : Nat) (y : MethodName) (cy : ByteArray) (maxL : Nat) (ret : Option FieldType) (n : Nat) : Prop := GoodIn zT (va_wsS own index y (zWs y cy maxL ret)) ∧ zNoMH y n
def zLkN (own : String) (index : Nat) (y : MethodName) (host : String) (cy : ByteArray) (maxL : Nat) (ret : Option FieldType) (n : Nat) : Prop := Cond.methodLinkNest own index y host ∈ zNest ∧ GoodIn zT (zWs y cy maxL ret) ∧ Cond.initialized y.cls ∈ zT ∧ Cond.instanceMethod y ∈ zT ∧ Cond.selects y.cls y y ∈ zT ∧ zNoMH y n
theorem zGood : ∀ w ∈ zT, ((w.onTables && w.keeps) = true ∨ ∃ ty, w = .arrayClass ty) := fun w hw => good_of_word (List.mem_filter.mp hw).2
theorem zGoodIn {ws : List Cond} (h : ∀ w ∈ ws, w ∈ zT) : GoodIn zT ws := fun w hw => ⟨h w hw, zGood w (h w hw)⟩
theorem zGoodL {ws ws2 : List Cond} (h : ∀ w ∈ ws, w ∈ zT) (h2 : ∀ w ∈ ws2, w ∈ zT) : ∀ w ∈ ws ++ ws2, w ∈ zT := fun w hw => (List.mem_append.mp hw).elim (h w) (h2 w)
theorem zWs_in {y : MethodName} {cc : ByteArray} {nL : Nat} {ret : Option FieldType} (h : Cond.code y cc nL ret ∈ zT) : ∀ w ∈ zWs y cc nL ret, w ∈ zT := fun w hw => (List.mem_cons.mp hw).elim (fun e => e ▸ h) id
theorem zIn1 {a : Cond} {ws : List Cond} (h : a ∈ zT) (h2 : ∀ w ∈ ws, w ∈ zT) : ∀ w ∈ a :: ws, w ∈ zT := fun w hw => (List.mem_cons.mp hw).elim (fun e => e ▸ h) (h2 w)
theorem zIn0 : ∀ w ∈ ([] : List Cond), w ∈ zT := fun _ h => absurd h List.not_mem_nil
theorem zLkV.mk {own : String} {index : Nat} {y : MethodName} {cy : ByteArray} {maxL : Nat} {ret : Option FieldType} {n : Nat} (h1 : Cond.methodLink own index y ∈ zT) (h2 : Cond.instanceMethod y ∈ zT) (h3 : Cond.selects y.cls y y ∈ zT) (h4 : Cond.initialized y.cls ∈ zT) (h5 : Cond.code y cy maxL ret ∈ zT) (h6 : zNoMH y n) : zLkV own index y cy maxL ret n := ⟨zGoodIn (zGoodL (zIn1 h1 (zIn1 h2 (zIn1 h3 (zIn1 h4 zIn0)))) (zWs_in h5)), h6⟩
theorem zLkS.mk {own : String} {index : Nat} {y : MethodName} {cy : ByteArray} {maxL : Nat} {ret : Option FieldType} {n : Nat} (h1 : Cond.methodLink own index y ∈ zT) (h2 : Cond.static y ∈ zT) (h4 : Cond.initialized y.cls ∈ zT) (h5 : Cond.code y cy maxL ret ∈ zT) (h6 : zNoMH y n) : zLkS own index y cy maxL ret n := ⟨zGoodIn (zGoodL (zIn1 h1 (zIn1 h2 (zIn1 h4 zIn0))) (zWs_in h5)), h6⟩
theorem zLkN.mk {own : String} {index : Nat} {y : MethodName} {host : String} {cy : ByteArray} {maxL : Nat} {ret : Option FieldType} {n : Nat} (h1 : Cond.methodLinkNest own index y host ∈ zNest) (h2 : Cond.instanceMethod y ∈ zT) (h3 : Cond.selects y.cls y y ∈ zT) (h4 : Cond.initialized y.cls ∈ zT) (h5 : Cond.code y cy maxL ret ∈ zT) (h6 : zNoMH y n) : zLkN own index y host cy maxL ret n := ⟨h1, zGoodIn (zWs_in h5), h4, h2, h3, h6⟩
theorem zblind {g : zG} {σ : zS} {sz : Nat} {av : List Value} : FrameBlind (va_Pc av (zPre g σ sz)) := fun a U g' mk q => ⟨q.1, q.2.1, q.2.2.1, zKn.same (U := U.calling g' mk a) q.2.2.2.1 rfl, q.2.2.2.2⟩
theorem zprec {g : zG} {σ : zS} {s : State} {A : Nat → Prop} {H : Heap} {av : List Value} (hK : zKn g s) (hP : va_P g.2.2 vwCl (zW g σ) H) (hD : va_D A (zW g (fun _ _ _ => 0))) : ∀ U : State, U.heap = H → s.WarmedH U.vm → va_Pc av (zPre g σ H.size) av.toArray U := fun U hU hW => ⟨rfl, by rw [hU], by rw [hU]; exact hP, hK.warm hW, (zD_any hD).weaken (fun _ _ _ _ => trivial)⟩
theorem zad_free {g : zG} {A : Nat → Prop} {H0 H : Heap} {locs : List Loc} (hD : va_D A (zW g (fun _ _ _ => 0))) (hA : ∀ q, H0.size ≤ q → A q) (hS : va_S A H0 H locs) : ∀ q, zAd g H.size q → A q := by
  intro q h
  rcases h with ⟨x, hx, rfl⟩ | h
  · obtain ⟨n, hn⟩ := List.getElem?_of_mem hx
    have h1 : (zW g (fun _ _ _ => 0))[n]? = some (g.1 x.1 x.2, zC g ((fun _ _ _ => 0 : zS) x.1 x.2) x.1 x.2) := by unfold zW; rw [List.getElem?_map, hn]; rfl
    exact hD.2 n _ h1
  · exact hA q (Nat.le_trans hS.1 h)
def zM {β : Type} (r : Option Nat) (a : β) (b : Nat → β) : β := match r with
  | none => a
  | some i => b i
def zCi {α β : Type} (oc : Option (α × zS)) (ok : α → zS → Option β) : Option β := oc.bind (fun q => ok q.1 q.2)
def zCv {α β : Type} (oc : Option (α × zS)) (ok : zS → Option β) : Option β := oc.bind (fun q => ok q.2)
def zCq {β : Type} (oc : Option (Option Nat × zS)) (okn : zS → Option β) (oks : Nat → zS → Option β) : Option β := oc.bind (fun q => zM q.1 (okn q.2) (fun a => oks a q.2))
section ZC
variable {p : Program} {l : Launch} {e : Env} {R : Room} {s : State} {m : MethodId} {args : Array Value} {below : List Frame} {meth : Method} {c : Code} {Q : State → Prop} {g : zG} {A : Nat → Prop} {nL nc ns : Nat}
variable {cc cy : ByteArray} {own : String} {ret rty : Option FieldType} {y : MethodName} {index maxL n k i ci N pc : Nat} {T : u_T} {rm : Room} {As st st0 : List Value} {σ : zS} {H : Heap} {locs : List Loc} {ls : Array Slot} {lv : List (Option Value)} {free : Addr → Prop} {Qc : Array Value → State → Outcome → State → Prop}
theorem zrun_V (F : zF (p, l, e, R, s, m, args, below, meth, c, Q, g, A, nL, nc, ns) cc own ret) (hL : zLkV own index y cy maxL rty n) (hM : Met l y (zWs y cy maxL rty) rm (va_Pc (.ref (g.1 k i) :: As) (zPre g σ H.size)) Qc 0 0 free) (hi : i < zLim k) (hc : ∃ fs, zC g (σ k i) k i = .inr (ci, fs)) (hcl : vwCl[ci]? = some (y.cls, T, N)) (hrm : rm.cells = 0 ∧ rm.slots = 0 ∧ rm.frames + 1 ≤ R.frames ∧ 8 + (maxL + 11) + rm.locals ≤ R.locals) (hn : As.length = n) (hst : st0 = As.reverse ++ .ref (g.1 k i) :: st) (hW : (st.map fun v => v.category).sum ≤ 8) (d : decode cc pc = .ok (.invokevirtual index, 3)) (hP : va_P g.2.2 vwCl (zW g σ) H) (hl : zL ls nL lv) : va_Run p l e R s m args below meth c H locs nc ns 0 0 (F0 m pc ls st0) st (Qc (Value.ref (g.1 k i) :: As).toArray) free := by
  obtain ⟨q, -, hq⟩ := zW_at (g := g) (σ := σ) hi
  obtain ⟨fs, hc⟩ := hc
  rw [hc] at hq
  exact va_runV ⟨F.1, F.2.1, F.2.2.1, F.2.2.2.1, F.2.2.2.2.1⟩ hM (cwV n F.2.2.2.2.1 hL.1 rfl hrm.1 hrm.2.1 ⟨rfl, hL.2⟩ hrm.2.2) ⟨zblind, va_recv F.2.2.2.2.2.1.1 hP hcl hq, zprec F.2.2.2.2.2.1 hP F.2.2.2.2.2.2.1⟩ rfl hn hl.1 hst (lv_room hW) d ⟨F.2.2.2.2.2.2.2.2.2.2.1, F.2.2.2.2.2.2.2.2.2.2.2⟩
theorem zrun_N {host : String} (F : zF (p, l, e, R, s, m, args, below, meth, c, Q, g, A, nL, nc, ns) cc own ret) (hL : zLkN own index y host cy maxL rty n) (hM : Met l y (zWs y cy maxL rty) rm (va_Pc (.ref (g.1 k i) :: As) (zPre g σ H.size)) Qc 0 0 free) (hi : i < zLim k) (hc : ∃ fs, zC g (σ k i) k i = .inr (ci, fs)) (hcl : vwCl[ci]? = some (y.cls, T, N)) (hrm : rm.cells = 0 ∧ rm.slots = 0 ∧ rm.frames + 1 ≤ R.frames ∧ 8 + (maxL + 11) + rm.locals ≤ R.locals) (hn : As.length = n) (hst : st0 = As.reverse ++ .ref (g.1 k i) :: st) (hW : (st.map fun v => v.category).sum ≤ 8) (d : decode cc pc = .ok (.invokevirtual index, 3)) (hP : va_P g.2.2 vwCl (zW g σ) H) (hl : zL ls nL lv) : va_Run p l e R s m args below meth c H locs nc ns 0 0 (F0 m pc ls st0) st (Qc (Value.ref (g.1 k i) :: As).toArray) free := by
  obtain ⟨q, -, hq⟩ := zW_at (g := g) (σ := σ) hi
  obtain ⟨fs, hc⟩ := hc
  rw [hc] at hq
  exact va_runVN ⟨F.1, F.2.1, F.2.2.1, F.2.2.2.1, F.2.2.2.2.1⟩ hM ⟨va_cnB n F.2.2.2.2.1 hL.2.1 rfl hrm.1 hrm.2.1 (F.2.2.2.2.2.1.2 _ hL.1) (F.2.2.2.2.1 _ hL.2.2.1) hL.2.2.2.2.2 hrm.2.2, F.2.2.2.2.1 _ hL.2.2.2.1, F.2.2.2.2.1 _ hL.2.2.2.2.1⟩ ⟨zblind, va_recv F.2.2.2.2.2.1.1 hP hcl hq, zprec F.2.2.2.2.2.1 hP F.2.2.2.2.2.2.1⟩ rfl hn hl.1 hst (lv_room hW) d ⟨F.2.2.2.2.2.2.2.2.2.2.1, F.2.2.2.2.2.2.2.2.2.2.2⟩
theorem zrun_S (F : zF (p, l, e, R, s, m, args, below, meth, c, Q, g, A, nL, nc, ns) cc own ret) (hL : zLkS own index y cy maxL rty n) (hM : Met l y (zWs y cy maxL rty) rm (va_Pc As (zPre g σ H.size)) Qc 0 0 free) (hrm : rm.cells = 0 ∧ rm.slots = 0 ∧ rm.frames + 1 ≤ R.frames ∧ 8 + (maxL + 11) + rm.locals ≤ R.locals) (hn : As.length = n) (hst : st0 = As.reverse ++ st) (hW : (st.map fun v => v.category).sum ≤ 8) (d : decode cc pc = .ok (.invokestatic index, 3)) (hP : va_P g.2.2 vwCl (zW g σ) H) (hl : zL ls nL lv) : va_Run p l e R s m args below meth c H locs nc ns 0 0 (F0 m pc ls st0) st (Qc As.toArray) free := by
  exact va_runS ⟨F.1, F.2.1, F.2.2.1, F.2.2.2.1, F.2.2.2.2.1⟩ hM (va_cwS n F.2.2.2.2.1 hL.1 rfl hrm.1 hrm.2.1 hL.2 hrm.2.2) ⟨zblind, zprec F.2.2.2.2.2.1 hP F.2.2.2.2.2.2.1⟩ rfl hn hl.1 hst (lv_room hW) d ⟨F.2.2.2.2.2.2.2.2.2.2.1, F.2.2.2.2.2.2.2.2.2.2.2⟩
end ZC
theorem z_callVi {K : zX} {α : Type} {t : α} {pc : Nat} {lv : List (Option Value)} {st st0 : List Value} {σ : zS} {cc cy : ByteArray} {own : String} {ret rty : Option FieldType} {y : MethodName} {index maxL n ci N : Nat} {T : u_T} {rm : Room} {av : (Nat → Nat → Nat) → List Value} {oc : Option (Int32 × zS)} {ok : Int32 → zS → Option α} (F : zF K cc own ret) (k i : Nat) (As : List Value) (hL : zLkV own index y cy maxL rty n) (hM : zMi (zln K) y cy maxL rty rm av σ oc) (hav : av (zad K) = .ref (zad K k i) :: As) (hi : i < zLim k) (hc : ∀ g, ∃ fs, zC g (σ k i) k i = .inr (ci, fs)) (hcl : vwCl[ci]? = some (y.cls, T, N)) (hrm : rm.cells = 0 ∧ rm.slots = 0 ∧ rm.frames + 1 ≤ (zrm K).frames ∧ 8 + (maxL + 11) + rm.locals ≤ (zrm K).locals) (hn : As.length = n) (hst : st0 = As.reverse ++ .ref (zad K k i) :: st) (hW : (st.map fun v => v.category).sum ≤ 8) (d : decode cc pc = .ok (.invokevirtual index, 3)) (kk : ∀ r σ1, ZO K t (pc + 3) lv (.int r :: st) σ1 (ok r σ1)) : ZO K t pc lv st0 σ (zCi oc ok) := by
  obtain ⟨p, l, e, R, s, m, args, below, meth, c, Q, g, A, nL, nc, ns⟩ := K
  intro ho H locs ls hP hS hl
  cases hoc : oc with
  | none => rw [hoc] at ho; cases ho
  | some q =>
    obtain ⟨r, σ'⟩ := q
    rw [hoc] at ho
    have hm := hM r σ' hoc g H.size
    rw [show av g.1 = .ref (g.1 k i) :: As from hav] at hm
    have hf := zad_free F.2.2.2.2.2.2.1 F.2.2.2.2.2.2.2.1 hS
    have hrun := zrun_V (st := st) (st0 := st0) (locs := locs) F hL hm hi (hc g) hcl hrm hn hst hW d hP hl
    refine va_calli hrun hS (fun q _ h => hf q h) hf (fun r1 u t1 H1 locs1 ht _ hw hB _ _ hS1 => ?_)
    obtain ⟨rfl, rfl⟩ := hw
    unfold zAt at hB
    rw [ht] at hB
    exact kk _ _ ho H1 locs1 ls hB hS1 hl
theorem z_callVv {K : zX} {α : Type} {t : α} {pc : Nat} {lv : List (Option Value)} {st st0 : List Value} {σ : zS} {cc cy : ByteArray} {own : String} {ret rty : Option FieldType} {y : MethodName} {index maxL n ci N : Nat} {T : u_T} {rm : Room} {av : (Nat → Nat → Nat) → List Value} {oc : Option (Int32 × zS)} {ok : zS → Option α} (F : zF K cc own ret) (k i : Nat) (As : List Value) (hL : zLkV own index y cy maxL rty n) (hM : zMv (zln K) y cy maxL rty rm av σ oc) (hav : av (zad K) = .ref (zad K k i) :: As) (hi : i < zLim k) (hc : ∀ g, ∃ fs, zC g (σ k i) k i = .inr (ci, fs)) (hcl : vwCl[ci]? = some (y.cls, T, N)) (hrm : rm.cells = 0 ∧ rm.slots = 0 ∧ rm.frames + 1 ≤ (zrm K).frames ∧ 8 + (maxL + 11) + rm.locals ≤ (zrm K).locals) (hn : As.length = n) (hst : st0 = As.reverse ++ .ref (zad K k i) :: st) (hW : (st.map fun v => v.category).sum ≤ 8) (d : decode cc pc = .ok (.invokevirtual index, 3)) (kk : ∀ σ1, ZO K t (pc + 3) lv st σ1 (ok σ1)) : ZO K t pc lv st0 σ (zCv oc ok) := by
  obtain ⟨p, l, e, R, s, m, args, below, meth, c, Q, g, A, nL, nc, ns⟩ := K
  intro ho H locs ls hP hS hl
  cases hoc : oc with
  | none => rw [hoc] at ho; cases ho
  | some q =>
    obtain ⟨r, σ'⟩ := q
    rw [hoc] at ho
    have hm := hM r σ' hoc g H.size
    rw [show av g.1 = .ref (g.1 k i) :: As from hav] at hm
    have hf := zad_free F.2.2.2.2.2.2.1 F.2.2.2.2.2.2.2.1 hS
    have hrun := zrun_V (st := st) (st0 := st0) (locs := locs) F hL hm hi (hc g) hcl hrm hn hst hW d hP hl
    refine va_callv hrun hS (fun q _ h => hf q h) hf (fun u t1 H1 locs1 ht _ hw hB _ _ hS1 => ?_)
    subst hw
    unfold zAt at hB
    rw [ht] at hB
    exact kk _ ho H1 locs1 ls hB hS1 hl
theorem z_callVq {K : zX} {α : Type} {t : α} {pc : Nat} {lv : List (Option Value)} {st st0 : List Value} {σ : zS} {cc cy : ByteArray} {own : String} {ret rty : Option FieldType} {y : MethodName} {index maxL n ci N kq : Nat} {T : u_T} {rm : Room} {av : (Nat → Nat → Nat) → List Value} {oc : Option (Option Nat × zS)} {okn : zS → Option α} {oks : Nat → zS → Option α} (F : zF K cc own ret) (k i : Nat) (As : List Value) (hL : zLkV own index y cy maxL rty n) (hM : zMq kq (zln K) y cy maxL rty rm av σ oc) (hav : av (zad K) = .ref (zad K k i) :: As) (hi : i < zLim k) (hc : ∀ g, ∃ fs, zC g (σ k i) k i = .inr (ci, fs)) (hcl : vwCl[ci]? = some (y.cls, T, N)) (hrm : rm.cells = 0 ∧ rm.slots = 0 ∧ rm.frames + 1 ≤ (zrm K).frames ∧ 8 + (maxL + 11) + rm.locals ≤ (zrm K).locals) (hn : As.length = n) (hst : st0 = As.reverse ++ .ref (zad K k i) :: st) (hW : (st.map fun v => v.category).sum ≤ 8) (d : decode cc pc = .ok (.invokevirtual index, 3)) (kn : ∀ σ1, ZO K t (pc + 3) lv (.null :: st) σ1 (okn σ1)) (ks : ∀ a σ1, ZO K t (pc + 3) lv (.ref (zad K kq a) :: st) σ1 (oks a σ1)) : ZO K t pc lv st0 σ (zCq oc okn oks) := by
  obtain ⟨p, l, e, R, s, m, args, below, meth, c, Q, g, A, nL, nc, ns⟩ := K
  intro ho H locs ls hP hS hl
  cases hoc : oc with
  | none => rw [hoc] at ho; cases ho
  | some q =>
    obtain ⟨r, σ'⟩ := q
    rw [hoc] at ho
    have hm := hM r σ' hoc g H.size
    rw [show av g.1 = .ref (g.1 k i) :: As from hav] at hm
    have hf := zad_free F.2.2.2.2.2.2.1 F.2.2.2.2.2.2.2.1 hS
    have hrun := zrun_V (st := st) (st0 := st0) (locs := locs) F hL hm hi (hc g) hcl hrm hn hst hW d hP hl
    refine va_callq hrun hS (fun q _ h => hf q h) hf (fun r1 u t1 H1 locs1 ht _ hw hB _ _ hS1 => ?_)
    obtain ⟨rfl, rfl⟩ := hw
    unfold zAt at hB
    rw [ht] at hB
    cases r with
    | none => exact kn _ ho H1 locs1 ls hB hS1 hl
    | some a => exact ks a _ ho H1 locs1 ls hB hS1 hl
theorem z_callNi {K : zX} {α : Type} {t : α} {pc : Nat} {lv : List (Option Value)} {st st0 : List Value} {σ : zS} {cc cy : ByteArray} {own : String} {ret rty : Option FieldType} {y : MethodName} {index maxL n ci N : Nat} {T : u_T} {rm : Room} {av : (Nat → Nat → Nat) → List Value} {oc : Option (Int32 × zS)} {ok : Int32 → zS → Option α} {host : String} (F : zF K cc own ret) (k i : Nat) (As : List Value) (hL : zLkN own index y host cy maxL rty n) (hM : zMi (zln K) y cy maxL rty rm av σ oc) (hav : av (zad K) = .ref (zad K k i) :: As) (hi : i < zLim k) (hc : ∀ g, ∃ fs, zC g (σ k i) k i = .inr (ci, fs)) (hcl : vwCl[ci]? = some (y.cls, T, N)) (hrm : rm.cells = 0 ∧ rm.slots = 0 ∧ rm.frames + 1 ≤ (zrm K).frames ∧ 8 + (maxL + 11) + rm.locals ≤ (zrm K).locals) (hn : As.length = n) (hst : st0 = As.reverse ++ .ref (zad K k i) :: st) (hW : (st.map fun v => v.category).sum ≤ 8) (d : decode cc pc = .ok (.invokevirtual index, 3)) (kk : ∀ r σ1, ZO K t (pc + 3) lv (.int r :: st) σ1 (ok r σ1)) : ZO K t pc lv st0 σ (zCi oc ok) := by
  obtain ⟨p, l, e, R, s, m, args, below, meth, c, Q, g, A, nL, nc, ns⟩ := K
  intro ho H locs ls hP hS hl
  cases hoc : oc with
  | none => rw [hoc] at ho; cases ho
  | some q =>
    obtain ⟨r, σ'⟩ := q
    rw [hoc] at ho
    have hm := hM r σ' hoc g H.size
    rw [show av g.1 = .ref (g.1 k i) :: As from hav] at hm
    have hf := zad_free F.2.2.2.2.2.2.1 F.2.2.2.2.2.2.2.1 hS
    have hrun := zrun_N (st := st) (st0 := st0) (locs := locs) F hL hm hi (hc g) hcl hrm hn hst hW d hP hl
    refine va_calli hrun hS (fun q _ h => hf q h) hf (fun r1 u t1 H1 locs1 ht _ hw hB _ _ hS1 => ?_)
    obtain ⟨rfl, rfl⟩ := hw
    unfold zAt at hB
    rw [ht] at hB
    exact kk _ _ ho H1 locs1 ls hB hS1 hl
theorem z_callNv {K : zX} {α : Type} {t : α} {pc : Nat} {lv : List (Option Value)} {st st0 : List Value} {σ : zS} {cc cy : ByteArray} {own : String} {ret rty : Option FieldType} {y : MethodName} {index maxL n ci N : Nat} {T : u_T} {rm : Room} {av : (Nat → Nat → Nat) → List Value} {oc : Option (Int32 × zS)} {ok : zS → Option α} {host : String} (F : zF K cc own ret) (k i : Nat) (As : List Value) (hL : zLkN own index y host cy maxL rty n) (hM : zMv (zln K) y cy maxL rty rm av σ oc) (hav : av (zad K) = .ref (zad K k i) :: As) (hi : i < zLim k) (hc : ∀ g, ∃ fs, zC g (σ k i) k i = .inr (ci, fs)) (hcl : vwCl[ci]? = some (y.cls, T, N)) (hrm : rm.cells = 0 ∧ rm.slots = 0 ∧ rm.frames + 1 ≤ (zrm K).frames ∧ 8 + (maxL + 11) + rm.locals ≤ (zrm K).locals) (hn : As.length = n) (hst : st0 = As.reverse ++ .ref (zad K k i) :: st) (hW : (st.map fun v => v.category).sum ≤ 8) (d : decode cc pc = .ok (.invokevirtual index, 3)) (kk : ∀ σ1, ZO K t (pc + 3) lv st σ1 (ok σ1)) : ZO K t pc lv st0 σ (zCv oc ok) := by
  obtain ⟨p, l, e, R, s, m, args, below, meth, c, Q, g, A, nL, nc, ns⟩ := K
  intro ho H locs ls hP hS hl
  cases hoc : oc with
  | none => rw [hoc] at ho; cases ho
  | some q =>
    obtain ⟨r, σ'⟩ := q
    rw [hoc] at ho
    have hm := hM r σ' hoc g H.size
    rw [show av g.1 = .ref (g.1 k i) :: As from hav] at hm
    have hf := zad_free F.2.2.2.2.2.2.1 F.2.2.2.2.2.2.2.1 hS
    have hrun := zrun_N (st := st) (st0 := st0) (locs := locs) F hL hm hi (hc g) hcl hrm hn hst hW d hP hl
    refine va_callv hrun hS (fun q _ h => hf q h) hf (fun u t1 H1 locs1 ht _ hw hB _ _ hS1 => ?_)
    subst hw
    unfold zAt at hB
    rw [ht] at hB
    exact kk _ ho H1 locs1 ls hB hS1 hl
theorem z_callNq {K : zX} {α : Type} {t : α} {pc : Nat} {lv : List (Option Value)} {st st0 : List Value} {σ : zS} {cc cy : ByteArray} {own : String} {ret rty : Option FieldType} {y : MethodName} {index maxL n ci N kq : Nat} {T : u_T} {rm : Room} {av : (Nat → Nat → Nat) → List Value} {oc : Option (Option Nat × zS)} {okn : zS → Option α} {oks : Nat → zS → Option α} {host : String} (F : zF K cc own ret) (k i : Nat) (As : List Value) (hL : zLkN own index y host cy maxL rty n) (hM : zMq kq (zln K) y cy maxL rty rm av σ oc) (hav : av (zad K) = .ref (zad K k i) :: As) (hi : i < zLim k) (hc : ∀ g, ∃ fs, zC g (σ k i) k i = .inr (ci, fs)) (hcl : vwCl[ci]? = some (y.cls, T, N)) (hrm : rm.cells = 0 ∧ rm.slots = 0 ∧ rm.frames + 1 ≤ (zrm K).frames ∧ 8 + (maxL + 11) + rm.locals ≤ (zrm K).locals) (hn : As.length = n) (hst : st0 = As.reverse ++ .ref (zad K k i) :: st) (hW : (st.map fun v => v.category).sum ≤ 8) (d : decode cc pc = .ok (.invokevirtual index, 3)) (kn : ∀ σ1, ZO K t (pc + 3) lv (.null :: st) σ1 (okn σ1)) (ks : ∀ a σ1, ZO K t (pc + 3) lv (.ref (zad K kq a) :: st) σ1 (oks a σ1)) : ZO K t pc lv st0 σ (zCq oc okn oks) := by
  obtain ⟨p, l, e, R, s, m, args, below, meth, c, Q, g, A, nL, nc, ns⟩ := K
  intro ho H locs ls hP hS hl
  cases hoc : oc with
  | none => rw [hoc] at ho; cases ho
  | some q =>
    obtain ⟨r, σ'⟩ := q
    rw [hoc] at ho
    have hm := hM r σ' hoc g H.size
    rw [show av g.1 = .ref (g.1 k i) :: As from hav] at hm
    have hf := zad_free F.2.2.2.2.2.2.1 F.2.2.2.2.2.2.2.1 hS
    have hrun := zrun_N (st := st) (st0 := st0) (locs := locs) F hL hm hi (hc g) hcl hrm hn hst hW d hP hl
    refine va_callq hrun hS (fun q _ h => hf q h) hf (fun r1 u t1 H1 locs1 ht _ hw hB _ _ hS1 => ?_)
    obtain ⟨rfl, rfl⟩ := hw
    unfold zAt at hB
    rw [ht] at hB
    cases r with
    | none => exact kn _ ho H1 locs1 ls hB hS1 hl
    | some a => exact ks a _ ho H1 locs1 ls hB hS1 hl
theorem z_callSi {K : zX} {α : Type} {t : α} {pc : Nat} {lv : List (Option Value)} {st st0 : List Value} {σ : zS} {cc cy : ByteArray} {own : String} {ret rty : Option FieldType} {y : MethodName} {index maxL n : Nat} {rm : Room} {av : (Nat → Nat → Nat) → List Value} {oc : Option (Int32 × zS)} {ok : Int32 → zS → Option α} (F : zF K cc own ret) (As : List Value) (hL : zLkS own index y cy maxL rty n) (hM : zMi (zln K) y cy maxL rty rm av σ oc) (hav : av (zad K) = As) (hrm : rm.cells = 0 ∧ rm.slots = 0 ∧ rm.frames + 1 ≤ (zrm K).frames ∧ 8 + (maxL + 11) + rm.locals ≤ (zrm K).locals) (hn : As.length = n) (hst : st0 = As.reverse ++ st) (hW : (st.map fun v => v.category).sum ≤ 8) (d : decode cc pc = .ok (.invokestatic index, 3)) (kk : ∀ r σ1, ZO K t (pc + 3) lv (.int r :: st) σ1 (ok r σ1)) : ZO K t pc lv st0 σ (zCi oc ok) := by
  obtain ⟨p, l, e, R, s, m, args, below, meth, c, Q, g, A, nL, nc, ns⟩ := K
  intro ho H locs ls hP hS hl
  cases hoc : oc with
  | none => rw [hoc] at ho; cases ho
  | some q =>
    obtain ⟨r, σ'⟩ := q
    rw [hoc] at ho
    have hm := hM r σ' hoc g H.size
    rw [show av g.1 = As from hav] at hm
    have hf := zad_free F.2.2.2.2.2.2.1 F.2.2.2.2.2.2.2.1 hS
    have hrun := zrun_S (st := st) (st0 := st0) (locs := locs) F hL hm hrm hn hst hW d hP hl
    refine va_calli hrun hS (fun q _ h => hf q h) hf (fun r1 u t1 H1 locs1 ht _ hw hB _ _ hS1 => ?_)
    obtain ⟨rfl, rfl⟩ := hw
    unfold zAt at hB
    rw [ht] at hB
    exact kk _ _ ho H1 locs1 ls hB hS1 hl
theorem z_callSv {K : zX} {α : Type} {t : α} {pc : Nat} {lv : List (Option Value)} {st st0 : List Value} {σ : zS} {cc cy : ByteArray} {own : String} {ret rty : Option FieldType} {y : MethodName} {index maxL n : Nat} {rm : Room} {av : (Nat → Nat → Nat) → List Value} {oc : Option (Int32 × zS)} {ok : zS → Option α} (F : zF K cc own ret) (As : List Value) (hL : zLkS own index y cy maxL rty n) (hM : zMv (zln K) y cy maxL rty rm av σ oc) (hav : av (zad K) = As) (hrm : rm.cells = 0 ∧ rm.slots = 0 ∧ rm.frames + 1 ≤ (zrm K).frames ∧ 8 + (maxL + 11) + rm.locals ≤ (zrm K).locals) (hn : As.length = n) (hst : st0 = As.reverse ++ st) (hW : (st.map fun v => v.category).sum ≤ 8) (d : decode cc pc = .ok (.invokestatic index, 3)) (kk : ∀ σ1, ZO K t (pc + 3) lv st σ1 (ok σ1)) : ZO K t pc lv st0 σ (zCv oc ok) := by
  obtain ⟨p, l, e, R, s, m, args, below, meth, c, Q, g, A, nL, nc, ns⟩ := K
  intro ho H locs ls hP hS hl
  cases hoc : oc with
  | none => rw [hoc] at ho; cases ho
  | some q =>
    obtain ⟨r, σ'⟩ := q
    rw [hoc] at ho
    have hm := hM r σ' hoc g H.size
    rw [show av g.1 = As from hav] at hm
    have hf := zad_free F.2.2.2.2.2.2.1 F.2.2.2.2.2.2.2.1 hS
    have hrun := zrun_S (st := st) (st0 := st0) (locs := locs) F hL hm hrm hn hst hW d hP hl
    refine va_callv hrun hS (fun q _ h => hf q h) hf (fun u t1 H1 locs1 ht _ hw hB _ _ hS1 => ?_)
    subst hw
    unfold zAt at hB
    rw [ht] at hB
    exact kk _ ho H1 locs1 ls hB hS1 hl
