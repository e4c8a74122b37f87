def va_AOA (ty : FieldType) (U : State) : Prop := (Cond.arrayOver (.array ty)).before #[] U = true
theorem va_AOA.of {ty : FieldType} {A : Array Value} {U : State} (h : (Cond.arrayOver (.array ty)).before A U = true) : va_AOA ty U := h
theorem va_AOA.use {ty : FieldType} {A : Array Value} {U : State} (h : va_AOA ty U) : (Cond.arrayOver (.array ty)).before A U = true := h
/-! ===== BEGIN new T[n][m]: the outer array a place, the inner ones among the pooled ===== -/
/-- f, but v at every address of l -/
def vr_up {α : Type} (f : Nat → α) (l : List Nat) (v : α) : Nat → α := fun a => if a ∈ l then v else f a
theorem vr_up_in {α : Type} {f : Nat → α} {l : List Nat} {v : α} {a : Nat} (h : a ∈ l) : vr_up f l v a = v := if_pos h
theorem vr_up_ne {α : Type} {f : Nat → α} {l : List Nat} {v : α} {a : Nat} (h : a ∉ l) : vr_up f l v a = f a := if_neg h
theorem vr_rows {L l : List Nat} {f : Nat → va_E} {e : va_E} (h : ∀ a, a ∈ l → a ∉ L) : va_pl L f ++ l.map (fun a => (a, e)) = va_pl (L ++ l) (vr_up f l e) := by
  unfold va_pl
  rw [List.map_append]
  congr 1
  · apply List.map_congr_left
    intro a ha
    rw [vr_up_ne (fun q => h a q ha)]
  · apply List.map_congr_left
    intro a ha
    rw [vr_up_in ha]
theorem vr_lay {X rows : va_W} {x : Nat × va_E} {pl : va_W} {D : va_G} {cl : List vw_C} {H : Heap} (hP : va_P D cl (((X ++ pl) ++ [x]) ++ rows) H) : va_P D cl ((X ++ [x]) ++ (pl ++ rows)) H := by
  rw [List.append_assoc (X ++ pl)] at hP
  have h := va_P.swap hP
  rw [← List.append_assoc X] at h
  have h2 := va_P.swap h
  rw [List.append_assoc (X ++ [x])] at h2
  exact h2
theorem vr_layD {X rows : va_W} {x : Nat × va_E} {pl : va_W} {A : Nat → Prop} (hD : va_D A (((X ++ pl) ++ [x]) ++ rows)) : va_D A ((X ++ [x]) ++ (pl ++ rows)) := by
  rw [List.append_assoc (X ++ pl)] at hD
  have h := va_D.swap hD
  rw [← List.append_assoc X] at h
  have h2 := va_D.swap h
  rw [List.append_assoc (X ++ [x])] at h2
  exact h2
theorem vr_outer (c : ClassId) (N h0 : Nat) : ∀ i : Nat, Jvm.Free.Multi.outerC c N h0 i = arrV c N (fun j => va_rf (if j < i then some (h0 + 1 + j) else none))
  | 0 => by
    show ({ cls := c, slots := Array.replicate N .null, vm := .none } : Cell) = _
    rw [arrV_new]
    refine congrArg (arrV c N) (funext fun j => ?_)
    simp [va_rf]
  | i + 1 => by
    show (Jvm.Free.Multi.outerC c N h0 i).setSlot i (.ref (h0 + 1 + i)) = _
    rw [vr_outer c N h0 i, arrV_store]
    refine congrArg (arrV c N) (funext fun j => ?_)
    by_cases e : j = i
    · subst e
      simp [updV, va_rf]
    · by_cases h : j < i
      · simp [updV, e, h, Nat.lt_succ_of_lt h]
      · simp [updV, e, h, show ¬ j < i + 1 by omega]
section VGM
variable {p : Program} {l : Launch} {e : Env} {R : Room} {s : State} {m : MethodId} {args : Array Value} {below : List Frame} {meth : Method} {c : Code} {H : Heap} {locs : List Loc} {cells slots : Nat} {Q : State → Prop}
variable {cc : ByteArray} {pc : Nat} {ls : Array Slot} {rest : List Value} {D : va_G} {cl : List vw_C} {A : Nat → Prop} {a : Nat} {tys : List (ClassId × FieldType)} {ws : va_W} {H0 : Heap}
theorem va_mna {X : va_W} {L : List Nat} {f : Nat → va_E} {cc : ByteArray} (hexec : p.tables.exec = Jvm.exec) (hb : c.code = cc) {own : String} {index : Nat} {ty : FieldType} {cy : ClassId} (hown : s.vm.findClass own = some m.cls) (hclink : (Cond.classLink own index ("[" ++ (FieldType.array ty).toString)).before args s = true) (hover : va_AOA ty s) (harr : (Cond.arrayClass ty).before args s = true) (hcy : s.vm.findClass (FieldType.array ty).toString = some cy)
    (hK : va_K D cl tys s) (hP : va_P D cl (X ++ va_pl L f) H) (hD : va_D A (X ++ va_pl L f)) (hS : va_S A H0 H locs) (hA : ∀ q, H0.size ≤ q → A q) {n k : Int32} {N' K' : Nat} {z : vp_A} (hn : ¬ n < 0) (hk : ¬ k < 0) (hN : n.toNatClampNeg = N') (hM : k.toNatClampNeg = K')
    (hb1 : N' * 4 ≤ 536870912) (hb2 : K' * componentBytes ty ≤ 536870912) (hb3 : K' ≤ 536870912) (hdf : fits ty (defaultValue ty) = true) (hdd : (defaultValue ty).isDefault = true) (hcells : cells + (1 + N') ≤ R.cells) (hslots : slots + (N' + N' * K') ≤ R.slots) (hz : ∀ c : ClassId, Jvm.Free.Multi.innerC c K' (defaultValue ty) = vp_cell c z) (hdg : decode cc pc = .ok (.multianewarray index 2, 4))
    (kk : ∀ (q : Nat) (r : Nat → Nat) (cA : ClassId) (H1 : Heap), (∀ i j : Nat, i < N' → j < N' → r i = r j → i = j) → (∀ i : Nat, i < N' → r i ∉ L) → va_K D cl (tys ++ [(cA, .array ty)]) s →
      va_P D cl ((X ++ [(q, .inl (cA, N', .inr (.inr (.inr (.inr (fun i => if i < N' then some (r i) else none))))))]) ++ va_pl (L ++ (List.range N').map r) (vr_up f ((List.range N').map r) (.inl (cy, z)))) H1 → va_D A ((X ++ [(q, .inl (cA, N', .inr (.inr (.inr (.inr (fun i => if i < N' then some (r i) else none))))))]) ++ va_pl (L ++ (List.range N').map r) (vr_up f ((List.range N').map r) (.inl (cy, z)))) → va_S A H0 H1 locs →
      W p l e R s m args below meth c H1 locs (cells + 1 + N') (slots + N' + N' * K') Q (F0 m (pc + 4) ls (.ref q :: rest))) : W p l e R s m args below meth c H locs cells slots Q (F0 m pc ls (.int k :: .int n :: rest)) := by
  subst hN
  subst hM
  intro T hT Xs
  obtain ⟨vm₁, cA, comp, -, fA, fC, hO, -, X', step⟩ := Xs.multianewarray2F hexec hown hclink (va_AOA.use hover) harr (g := F0 m pc ls (.int k :: .int n :: rest)) rfl (by rw [hb]; exact hdg) rfl hn hk hb1 hb2 hb3 hdf hdd hcells hslots
  have ec : some cy = some comp := hcy.symm.trans fC
  cases ec
  generalize hF : Jvm.Free.Multi.fill (T.setVm vm₁) cA cy n.toNatClampNeg k.toNatClampNeg (defaultValue ty) n.toNatClampNeg = F at X' step
  have hTh : (T.setVm vm₁).heap = H := hT
  obtain ⟨f1, f2, -, -⟩ := Jvm.Free.Multi.fill_facts (T.setVm vm₁) cA cy n.toNatClampNeg k.toNatClampNeg (defaultValue ty) n.toNatClampNeg
  rw [hF, hTh] at f1 f2
  have hold : ∀ x : Nat, x < H.size → F.heap[x]? = H[x]? := fun x hx => by
    have := Jvm.Free.Multi.fill_old (T.setVm vm₁) cA cy n.toNatClampNeg k.toNatClampNeg (defaultValue ty) (a := x) (by rw [hTh]; exact hx) n.toNatClampNeg
    rw [hF, hTh] at this
    exact this
  have hrow : ∀ j : Nat, j < n.toNatClampNeg → F.heap[H.size + 1 + j]? = some (vp_cell cy z) := fun j hj => by
    have := Jvm.Free.Multi.fill_inner (T.setVm vm₁) cA cy n.toNatClampNeg k.toNatClampNeg (defaultValue ty) n.toNatClampNeg j hj
    rw [hF, hTh, hz] at this
    exact this
  have hout : Jvm.Free.Multi.outerC cA n.toNatClampNeg H.size n.toNatClampNeg = vp_cell cA (n.toNatClampNeg, .inr (.inr (.inr (.inr (fun i => if i < n.toNatClampNeg then some (H.size + 1 + i) else none))))) := by
    rw [vp_cell_q]
    exact vr_outer cA n.toNatClampNeg H.size n.toNatClampNeg
  rw [hout] at f2
  have hlt : ∀ a, a ∈ L → a < H.size := fun a ha => by
    obtain ⟨k9, hk9⟩ := va_pl_get (X := X) (f := f) ha
    exact (hP k9 _ hk9).lt
  have hnl : ∀ i : Nat, i < n.toNatClampNeg → H.size + 1 + i ∉ L := fun i _ h => by
    have := hlt _ h
    omega
  have hnm : ∀ a, a ∈ (List.range n.toNatClampNeg).map (fun i => H.size + 1 + i) → a ∉ L := fun a ha h => by
    obtain ⟨i, -, rfl⟩ := List.mem_map.mp ha
    have := hlt _ h
    omega
  have hP0 : va_P D cl (X ++ va_pl L f) F.heap := hP.kept (fun k9 x hx => hold x.1 ((hP k9 x hx).lt))
  have hP1 : va_P D cl ((X ++ va_pl L f) ++ [(H.size, .inl (cA, n.toNatClampNeg, .inr (.inr (.inr (.inr (fun i => if i < n.toNatClampNeg then some (H.size + 1 + i) else none))))))]) F.heap := hP0.app (fun k9 x hx => by
    have h0 : k9 < 1 := (List.getElem?_eq_some_iff.mp hx).1
    rw [show k9 = 0 by omega] at hx
    cases hx
    exact f2)
  have hP2 : va_P D cl (((X ++ va_pl L f) ++ [(H.size, .inl (cA, n.toNatClampNeg, .inr (.inr (.inr (.inr (fun i => if i < n.toNatClampNeg then some (H.size + 1 + i) else none))))))]) ++ ((List.range n.toNatClampNeg).map (fun i => H.size + 1 + i)).map (fun a => (a, .inl (cy, z)))) F.heap := hP1.app (fun k9 x hx => by
    obtain ⟨a, ha, rfl⟩ := List.mem_map.mp (List.mem_of_getElem? hx)
    obtain ⟨i, hi, rfl⟩ := List.mem_map.mp ha
    exact hrow i (List.mem_range.mp hi))
  have hD2 : va_D A (((X ++ va_pl L f) ++ [(H.size, .inl (cA, n.toNatClampNeg, .inr (.inr (.inr (.inr (fun i => if i < n.toNatClampNeg then some (H.size + 1 + i) else none))))))]) ++ ((List.range n.toNatClampNeg).map (fun i => H.size + 1 + i)).map (fun a => (a, .inl (cy, z)))) := by
    have hD1 := hD.push (e := .inl (cA, n.toNatClampNeg, .inr (.inr (.inr (.inr (fun i => if i < n.toNatClampNeg then some (H.size + 1 + i) else none)))))) hP rfl (hA _ hS.1)
    generalize hW1 : (X ++ va_pl L f) ++ [(H.size, .inl (cA, n.toNatClampNeg, .inr (.inr (.inr (.inr (fun i => if i < n.toNatClampNeg then some (H.size + 1 + i) else none))))))] = W1 at hD1 hP1 ⊢
    have hle : ∀ (k9 : Nat) (x : Nat × va_E), W1[k9]? = some x → x.1 ≤ H.size := fun k9 x hx => by
      rw [← hW1] at hx
      by_cases hl : k9 < (X ++ va_pl L f).length
      · rw [List.getElem?_append_left hl] at hx
        exact Nat.le_of_lt ((hP k9 x hx).lt)
      · rw [List.getElem?_append_right (by omega)] at hx
        have h0 : k9 - (X ++ va_pl L f).length < 1 := (List.getElem?_eq_some_iff.mp hx).1
        rw [show k9 - (X ++ va_pl L f).length = 0 by omega] at hx
        cases hx
        exact Nat.le_refl _
    have hr : ∀ (k9 : Nat) (x : Nat × va_E), (((List.range n.toNatClampNeg).map (fun i => H.size + 1 + i)).map (fun a => ((a, .inl (cy, z)) : Nat × va_E)))[k9]? = some x → x.1 = H.size + 1 + k9 := fun k9 x hx => by
      rw [List.getElem?_map, List.getElem?_map] at hx
      by_cases h9 : k9 < n.toNatClampNeg
      · rw [List.getElem?_range h9] at hx
        cases hx
        rfl
      · have hn0 : (List.range n.toNatClampNeg)[k9]? = none := List.getElem?_eq_none (by rw [List.length_range]; omega)
        rw [hn0] at hx
        cases hx
    refine ⟨fun i j x y hi hj hxy => ?_, fun k9 x hx => ?_⟩
    · by_cases h1 : i < W1.length <;> by_cases h2 : j < W1.length
      · rw [List.getElem?_append_left h1] at hi
        rw [List.getElem?_append_left h2] at hj
        exact hD1.1 i j x y hi hj hxy
      · rw [List.getElem?_append_left h1] at hi
        rw [List.getElem?_append_right (by omega)] at hj
        have := hle _ _ hi
        have := hr _ _ hj
        omega
      · rw [List.getElem?_append_right (by omega)] at hi
        rw [List.getElem?_append_left h2] at hj
        have := hle _ _ hj
        have := hr _ _ hi
        omega
      · rw [List.getElem?_append_right (by omega)] at hi hj
        have := hr _ _ hi
        have := hr _ _ hj
        omega
    · by_cases h1 : k9 < W1.length
      · rw [List.getElem?_append_left h1] at hx
        exact hD1.2 k9 x hx
      · rw [List.getElem?_append_right (by omega)] at hx
        have := hr _ _ hx
        exact hA _ (by have := hS.1; omega)
  have hAr : ArrOfT s cA (.array ty) := fun N9 z9 => by
    obtain ⟨-, k9, hk9, cm9, hkk9⟩ := (hO 0 0 0).1
    exact ⟨(fun q hq => by cases hq), k9, hk9, cm9, hkk9⟩
  have hK2 : va_K D cl (tys ++ [(cA, .array ty)]) s := ⟨hK.1, fun k9 x hx => by
    by_cases hl : k9 < tys.length
    · rw [List.getElem?_append_left hl] at hx
      exact hK.2 k9 x hx
    · rw [List.getElem?_append_right (by omega)] at hx
      have h0 : k9 - tys.length < 1 := (List.getElem?_eq_some_iff.mp hx).1
      rw [show k9 - tys.length = 0 by omega] at hx
      cases hx
      exact ⟨hAr, fA⟩⟩
  obtain ⟨t, a1, b1⟩ := kk H.size (fun i => H.size + 1 + i) cA F.heap (fun i j _ _ h => by have h9 : H.size + 1 + i = H.size + 1 + j := h; omega) hnl hK2 (by rw [← vr_rows hnm]; exact vr_lay hP2) (by rw [← vr_rows hnm]; exact vr_layD hD2) ⟨by rw [f1]; have := hS.1; omega, fun x h1 h2 => (hold x (Nat.lt_of_lt_of_le h1 hS.1)).trans (hS.2.1 x h1 h2), hS.2.2⟩ F rfl X'
  refine ⟨t, step t ?_, b1⟩
  have e : T.heap.size = H.size := by rw [hT]
  rw [e]
  exact a1
end VGM

/-! constructors: a world as a list -/
def zAO (U : State) : Prop := va_AO "AddedLetters$Generation" U ∧ va_AO "AddedLetters$Node" U ∧ va_AOA .int U
theorem zAO.moved {u U : State} (hvm : u.vm.Alike U.vm) (h : zAO u) : zAO U := ⟨h.1.moved hvm, h.2.1.moved hvm, over_moved hvm h.2.2⟩
def ZI (K : zX) (pc : Nat) (lv : List (Option Value)) (st : List Value) (ws : va_W) (mc ms : Nat) : Prop := match K with
  | (p, l, e, R, s, m, args, below, meth, c, Q, g, A, nL, _, _) => ∀ (H : Heap) (locs : List Loc) (ls : Array Slot), va_P g.2.2 vwCl ws H → va_D A ws → va_S A s.heap H locs → zL ls nL lv → W p l e R s m args below meth c H locs mc ms Q (F0 m pc ls st)
def zFi (K : zX) (cc : ByteArray) (own : String) : Prop := match K with
  | (p, _, _, _, s, m, args, _, meth, c, _, g, A, nL, _, _) => p.tables.exec = Jvm.exec ∧ c.code = cc ∧ c.maxLocals = nL ∧ s.vm.findClass own = some m.cls ∧ (∀ w ∈ zT, w.before args s = true) ∧ zKn g s ∧ zAO s ∧ (∀ q, s.heap.size ≤ q → A q) ∧ meth.locks = false
def zNm (K : zX) : Prop := match K with
  | (_, _, _, _, _, _, _, _, meth, _, _, _, _, _, _, _) => meth.name = "<init>" ∧ meth.sig.returnType = none
def zgg (K : zX) : zG := K.2.2.2.2.2.2.2.2.2.2.2.1
theorem zarrV {cA : ClassId} {n : Nat} {f f' : Nat → Value} (h : ∀ i, i < n → f i = f' i) : arrV cA n f = arrV cA n f' := by
  unfold arrV
  congr 1
  apply Array.ext
  · simp
  · intro i h1 h2
    simp at h1
    simp [h i h1]
section ZI1
variable {K : zX} {pc : Nat} {lv : List (Option Value)} {st : List Value} {ws : va_W} {mc ms : Nat} {cc : ByteArray} {own : String}
theorem zi_iconst (F : zFi K cc own) {n : Int} {v : Int32} (d : decode cc pc = .ok (.iconst n, 1)) (hv : Int32.ofInt n = v) (kk : ZI K (pc + 1) lv (.int v :: st) ws mc ms) : ZI K pc lv st ws mc ms := by
  obtain ⟨p, l, e, R, s, m, args, below, meth, c, Q, g, A, nL, nc, ns⟩ := K
  intro H locs ls hP hD hS hl
  exact lv_iconst F.1 F.2.1 d hv (kk H locs ls hP hD hS hl)
theorem zi_bipush (F : zFi K cc own) {n : Int} {v : Int32} (d : decode cc pc = .ok (.bipush n, 2)) (hv : (Int8.ofInt n).toInt32 = v) (kk : ZI K (pc + 2) lv (.int v :: st) ws mc ms) : ZI K pc lv st ws mc ms := by
  obtain ⟨p, l, e, R, s, m, args, below, meth, c, Q, g, A, nL, nc, ns⟩ := K
  intro H locs ls hP hD hS hl
  exact lv_bipush F.1 F.2.1 d hv (kk H locs ls hP hD hS hl)
theorem zi_sipush (F : zFi K cc own) {n : Int} {v : Int32} (d : decode cc pc = .ok (.sipush n, 3)) (hv : (Int16.ofInt n).toInt32 = v) (kk : ZI K (pc + 3) lv (.int v :: st) ws mc ms) : ZI K pc lv st ws mc ms := by
  obtain ⟨p, l, e, R, s, m, args, below, meth, c, Q, g, A, nL, nc, ns⟩ := K
  intro H locs ls hP hD hS hl
  exact lv_sipush F.1 F.2.1 d hv (kk H locs ls hP hD hS hl)
theorem zi_iload_n (F : zFi K cc own) {x : Int32} {k : Fin 4} (d : decode cc pc = .ok (.iload_n k, 1)) (h : lv[(k : Nat)]? = some (some (.int x))) (kk : ZI K (pc + 1) lv (.int x :: st) ws mc ms) : ZI K pc lv st ws mc ms := by
  obtain ⟨p, l, e, R, s, m, args, below, meth, c, Q, g, A, nL, nc, ns⟩ := K
  intro H locs ls hP hD hS hl
  exact lv_iload_n F.1 F.2.1 d rfl (hl.2.2.1 _ _ h) (kk H locs ls hP hD hS hl)
theorem zi_aload_n (F : zFi K cc own) {x : Nat} {k : Fin 4} (d : decode cc pc = .ok (.aload_n k, 1)) (h : lv[(k : Nat)]? = some (some (.ref x))) (kk : ZI K (pc + 1) lv (.ref x :: st) ws mc ms) : ZI K pc lv st ws mc ms := by
  obtain ⟨p, l, e, R, s, m, args, below, meth, c, Q, g, A, nL, nc, ns⟩ := K
  intro H locs ls hP hD hS hl
  exact lv_aload_n F.1 F.2.1 d rfl (hl.2.2.1 _ _ h) (kk H locs ls hP hD hS hl)
theorem zi_istore_n (F : zFi K cc own) {x : Int32} {k : Fin 4} {lv' : List (Option Value)} (d : decode cc pc = .ok (.istore_n k, 1)) (hn : (k : Nat) < lv.length) (hs : lv.set (k : Nat) (some (.int x)) = lv') (kk : ZI K (pc + 1) lv' st ws mc ms) : ZI K pc lv (.int x :: st) ws mc ms := by
  obtain ⟨p, l, e, R, s, m, args, below, meth, c, Q, g, A, nL, nc, ns⟩ := K
  intro H locs ls hP hD hS hl
  exact lv_istore_n F.1 F.2.1 d rfl hl.has (by rw [← hl.2.2.2.1]; exact hn) rfl (fun ls' h' => kk H locs ls' hP hD hS (hl.store rfl (by rw [← hl.2.2.2.1]; exact hn) hs h'))
theorem zi_astore_n (F : zFi K cc own) {x : Nat} {k : Fin 4} {lv' : List (Option Value)} (d : decode cc pc = .ok (.astore_n k, 1)) (hn : (k : Nat) < lv.length) (hs : lv.set (k : Nat) (some (.ref x)) = lv') (kk : ZI K (pc + 1) lv' st ws mc ms) : ZI K pc lv (.ref x :: st) ws mc ms := by
  obtain ⟨p, l, e, R, s, m, args, below, meth, c, Q, g, A, nL, nc, ns⟩ := K
  intro H locs ls hP hD hS hl
  exact lv_astore_n F.1 F.2.1 d rfl hl.has (by rw [← hl.2.2.2.1]; exact hn) rfl (fun ls' h' => kk H locs ls' hP hD hS (hl.store rfl (by rw [← hl.2.2.2.1]; exact hn) hs h'))
theorem zi_iinc (F : zFi K cc own) {i : Nat} {n : Int} {x v : Int32} {lv' : List (Option Value)} (d : decode cc pc = .ok (.iinc i n, 3)) (h : lv[i]? = some (some (.int x))) (hv : x + Int32.ofInt n = v) (hs : lv.set i (some (.int v)) = lv') (kk : ZI K (pc + 3) lv' st ws mc ms) : ZI K pc lv st ws mc ms := by
  obtain ⟨p, l, e, R, s, m, args, below, meth, c, Q, g, A, nL, nc, ns⟩ := K
  intro H locs ls hP hD hS hl
  obtain ⟨q, hq⟩ := List.getElem?_of_mem (zPr_mem.mpr h)
  have hn : i < nL := by rw [← hl.2.2.2.1]; exact (List.getElem?_eq_some_iff.mp h).1
  exact lv_iinc F.1 F.2.1 d hl.has hq hv hn rfl (fun ls' h' => kk H locs ls' hP hD hS (hl.store rfl hn hs h'))
theorem zi_goto (F : zFi K cc own) {off : Int} (tgt : Nat) (d : decode cc pc = .ok (.goto off, 3)) (ht : (pc : Int) + off = (tgt : Int)) (kk : ZI K tgt lv st ws mc ms) : ZI K pc lv st ws mc ms := by
  obtain ⟨p, l, e, R, s, m, args, below, meth, c, Q, g, A, nL, nc, ns⟩ := K
  intro H locs ls hP hD hS hl
  exact lv_goto F.1 F.2.1 d ht (kk H locs ls hP hD hS hl)
theorem zi_geY (F : zFi K cc own) {x y : Int32} {off : Int} (tgt : Nat) (d : decode cc pc = .ok (.if_icmp .ge off, 3)) (ht : (pc : Int) + off = (tgt : Int)) (h : y ≤ x) (kk : ZI K tgt lv st ws mc ms) : ZI K pc lv (.int y :: .int x :: st) ws mc ms := by
  obtain ⟨p, l, e, R, s, m, args, below, meth, c, Q, g, A, nL, nc, ns⟩ := K
  intro H locs ls hP hD hS hl
  exact lv_icmp_ge F.1 F.2.1 d ht (fun _ => kk H locs ls hP hD hS hl) (fun q => absurd h q)
theorem zi_geN (F : zFi K cc own) {x y : Int32} {off : Int} (tgt : Nat) (d : decode cc pc = .ok (.if_icmp .ge off, 3)) (ht : (pc : Int) + off = (tgt : Int)) (h : ¬ y ≤ x) (kk : ZI K (pc + 3) lv st ws mc ms) : ZI K pc lv (.int y :: .int x :: st) ws mc ms := by
  obtain ⟨p, l, e, R, s, m, args, below, meth, c, Q, g, A, nL, nc, ns⟩ := K
  intro H locs ls hP hD hS hl
  exact lv_icmp_ge F.1 F.2.1 d ht (fun q => absurd q h) (fun _ => kk H locs ls hP hD hS hl)
theorem zi_dup (F : zFi K cc own) {v : Value} (d : decode cc pc = .ok (.dup, 1)) (hc : v.category = 1) (kk : ZI K (pc + 1) lv (v :: v :: st) ws mc ms) : ZI K pc lv (v :: st) ws mc ms := by
  obtain ⟨p, l, e, R, s, m, args, below, meth, c, Q, g, A, nL, nc, ns⟩ := K
  intro H locs ls hP hD hS hl
  exact lv_dup F.1 F.2.1 d hc (kk H locs ls hP hD hS hl)
theorem zi_obj (F : zFi K cc own) {idx a : Nat} (hl1 : Cond.methodLink own idx objectInit ∈ zT) (hl2 : Cond.instanceMethod objectInit ∈ zT) (hl3 : Cond.code objectInit ⟨#[0xb1]⟩ 1 none ∈ zT) (hR : 1 ≤ (zrm K).frames ∧ 20 ≤ (zrm K).locals) (hW : (st.map fun v => v.category).sum ≤ 8) (d : decode cc pc = .ok (.invokespecial idx, 3)) (kk : ZI K (pc + 3) lv st ws mc ms) : ZI K pc lv (.ref a :: st) ws mc ms := by
  obtain ⟨p, l, e, R, s, m, args, below, meth, c, Q, g, A, nL, nc, ns⟩ := K
  intro H locs ls hP hD hS hl
  have hR2 : 1 ≤ R.frames ∧ 20 ≤ R.locals := hR
  have h8 := lv_room (m := m) (pc := pc) (ls := ls) (rest := .ref a :: st) hW
  exact W.objInit F.1 F.2.1 F.2.2.2.1 (F.2.2.2.2.1 _ hl1) (F.2.2.2.2.1 _ hl2) (F.2.2.2.2.1 _ hl3) rfl (hl.1.trans F.2.2.1.symm) rfl d hR2.1 (by omega) (kk H locs ls hP hD hS hl)
theorem zi_get (F : zFi K cc own) (q0 fk : Nat) {a ci : Nat} {fs : List Value} {C : String} {T : u_T} {N index : Nat} {v : Value} (he : ws[q0]? = some (a, .inr (ci, fs))) (hcl : vwCl[ci]? = some (C, T, N)) (hk : fk < N) (hin : ∀ w ∈ u_ws C T N, w ∈ zT) (hl : Cond.fieldLink own index (T fk).1 (T fk).2.1 (T fk).2.2.1 ∈ zT) (hv : fs[fk]? = some v) (d : decode cc pc = .ok (.getfield index, 3)) (kk : ZI K (pc + 3) lv (v :: st) ws mc ms) : ZI K pc lv (.ref a :: st) ws mc ms := by
  obtain ⟨p, l, e, R, s, m, args, below, meth, c, Q, g, A, nL, nc, ns⟩ := K
  intro H locs ls hP hD hS hl2
  exact va_get F.1 F.2.1 F.2.2.2.2.1 hin F.2.2.2.1 F.2.2.2.2.2.1.1 hP q0 he hcl fk hk (F.2.2.2.2.1 _ hl) (fun _ h9 => h9) hv d (kk H locs ls hP hD hS hl2)
theorem zi_put (F : zFi K cc own) (q0 fk : Nat) {a ci : Nat} {fs : List Value} {C : String} {T : u_T} {N index : Nat} {v : Value} {ws' : va_W} {ty : FieldType} (ty0 : Nat → FieldType) (hty : ∀ k, k < N → parseFieldDescriptor (T k).2.2.1 = some (ty0 k)) (hnm : ∀ a, a < N → ∀ b, b < N → a ≠ b → (T a).2.1 ≠ (T b).2.1) (he : ws[q0]? = some (a, .inr (ci, fs))) (hcl : vwCl[ci]? = some (C, T, N)) (hk : fk < N) (hin : ∀ w ∈ u_ws C T N, w ∈ zT) (hl : Cond.fieldLink own index (T fk).1 (T fk).2.1 (T fk).2.2.1 ∈ zT) (hfin : (T fk).2.2.2 = false) (hd : parseFieldDescriptor (T fk).2.2.1 = some ty) (hn : narrow ty v = v) (hfit : fits ty v = true) (hfl : fk < fs.length) (hs : ws.set q0 (a, .inr (ci, fs.set fk v)) = ws') (d : decode cc pc = .ok (.putfield index, 3)) (kk : ZI K (pc + 3) lv st ws' mc ms) : ZI K pc lv (v :: .ref a :: st) ws mc ms := by
  obtain ⟨p, l, e, R, s, m, args, below, meth, c, Q, g, A, nL, nc, ns⟩ := K
  subst hs
  intro H locs ls hP hD hS hl2
  exact va_put F.1 F.2.1 F.2.2.2.2.1 hin ty0 hty hnm F.2.2.2.1 F.2.2.2.2.2.1.1 hP hD hS q0 he hcl fk hk (F.2.2.2.2.1 _ hl) (fun _ h9 => h9) hfin hd hn hfit hfl d (fun H1 locs1 hP1 hD1 hS1 => kk H1 locs1 ls hP1 hD1 hS1 hl2)
theorem zi_putF (F : zFi K cc own) (hm : zNm K) (q0 fk : Nat) {a ci : Nat} {fs : List Value} {C : String} {T : u_T} {N index : Nat} {v : Value} {ws' : va_W} {ty : FieldType} (ty0 : Nat → FieldType) (hty : ∀ k, k < N → parseFieldDescriptor (T k).2.2.1 = some (ty0 k)) (hnm : ∀ a, a < N → ∀ b, b < N → a ≠ b → (T a).2.1 ≠ (T b).2.1) (he : ws[q0]? = some (a, .inr (ci, fs))) (hcl : vwCl[ci]? = some (C, T, N)) (hk : fk < N) (hin : ∀ w ∈ u_ws C T N, w ∈ zT) (hl : Cond.fieldLink own index (T fk).1 (T fk).2.1 (T fk).2.2.1 ∈ zT) (hfin : (T fk).2.2.2 = true) (hdecl : (T fk).1 = own) (hd : parseFieldDescriptor (T fk).2.2.1 = some ty) (hn : narrow ty v = v) (hfit : fits ty v = true) (hfl : fk < fs.length) (hs : ws.set q0 (a, .inr (ci, fs.set fk v)) = ws') (d : decode cc pc = .ok (.putfield index, 3)) (kk : ZI K (pc + 3) lv st ws' mc ms) : ZI K pc lv (v :: .ref a :: st) ws mc ms := by
  obtain ⟨p, l, e, R, s, m, args, below, meth, c, Q, g, A, nL, nc, ns⟩ := K
  subst hs
  intro H locs ls hP hD hS hl2
  exact va_putF F.1 F.2.1 F.2.2.2.2.1 hin ty0 hty hnm F.2.2.2.1 F.2.2.2.2.2.1.1 hP hD hS q0 he hcl fk hk (F.2.2.2.2.1 _ hl) (fun _ h9 => h9) hfin hm.1 hdecl hd hn hfit hfl d (fun H1 locs1 hP1 hD1 hS1 => kk H1 locs1 ls hP1 hD1 hS1 hl2)
theorem zi_iast (F : zFi K cc own) (q0 : Nat) {a n : Nat} {f : Nat → Int32} {j x : Int32} {ws' : va_W} (he : ws[q0]? = some (a, .inl ((zgg K).2.1 0, n, .inl f))) (hj : vp_in j n) (hs : ws.set q0 (a, .inl ((zgg K).2.1 0, n, .inl (upd f j.toNatClampNeg x))) = ws') (d : decode cc pc = .ok (.iastore, 1)) (kk : ZI K (pc + 1) lv st ws' mc ms) : ZI K pc lv (.int x :: .int j :: .ref a :: st) ws mc ms := by
  obtain ⟨p, l, e, R, s, m, args, below, meth, c, Q, g, A, nL, nc, ns⟩ := K
  subst hs
  intro H locs ls hP hD hS hl2
  exact va_iast F.1 F.2.1 F.2.2.2.2.2.1.1 hP hD hS q0 0 he rfl hj d (fun H1 locs1 hP1 hD1 hS1 => kk H1 locs1 ls hP1 hD1 hS1 hl2)
theorem zi_aast (F : zFi K cc own) (q0 t0 qk ci : Nat) {a n v : Nat} {r : vw_C} {vs : List Value} {f : Nat → Option Nat} {j : Int32} {ws' : va_W} (he : ws[q0]? = some (a, .inl ((zgg K).2.1 t0, n, .inr (.inr (.inr (.inr f)))))) (ht : (zTys (zgg K))[t0]? = some ((zgg K).2.1 t0, .object r.1)) (hv : ws[qk]? = some (v, .inr (ci, vs))) (hc : vwCl[ci]? = some r) (hj : vp_in j n) (hs : ws.set q0 (a, .inl ((zgg K).2.1 t0, n, .inr (.inr (.inr (.inr (va_up f j.toNatClampNeg (some v))))))) = ws') (d : decode cc pc = .ok (.aastore, 1)) (kk : ZI K (pc + 1) lv st ws' mc ms) : ZI K pc lv (.ref v :: .int j :: .ref a :: st) ws mc ms := by
  obtain ⟨p, l, e, R, s, m, args, below, meth, c, Q, g, A, nL, nc, ns⟩ := K
  subst hs
  intro H locs ls hP hD hS hl2
  exact va_astq F.1 F.2.1 F.2.2.2.2.2.1.1 hP hD hS q0 t0 qk ci he ht hv hc hj d (fun H1 locs1 hP1 hD1 hS1 => kk H1 locs1 ls hP1 hD1 hS1 hl2)
theorem zi_new (F : zFi K cc own) {ci : Nat} {fs : List Value} {C : String} {T : u_T} {N index : Nat} (ty : Nat → FieldType) (hty : ∀ k, k < N → parseFieldDescriptor (T k).2.2.1 = some (ty k)) (hin : ∀ w ∈ u_ws C T N, w ∈ zT) (hcl : vwCl[ci]? = some (C, T, N)) (h1 : Cond.classLink own index C ∈ zT) (h2 : Cond.instantiable C N ∈ zT) (h3 : Cond.initialized C ∈ zT) (hfs : ∀ j, j < N → defaultValue (ty j) = vp_V fs j) (hR : mc + 1 ≤ (zrm K).cells ∧ ms + N ≤ (zrm K).slots) (d : decode cc pc = .ok (.new index, 3)) (kk : ∀ q, ZI K (pc + 3) lv (.ref q :: st) (ws ++ [(q, .inr (ci, fs))]) (mc + 1) (ms + N)) : ZI K pc lv st ws mc ms := by
  obtain ⟨p, l, e, R, s, m, args, below, meth, c, Q, g, A, nL, nc, ns⟩ := K
  intro H locs ls hP hD hS hl2
  exact va_new F.1 F.2.1 F.2.2.2.2.1 hin ty hty F.2.2.2.1 (F.2.2.2.2.1 _ h1) (F.2.2.2.2.1 _ h2) (F.2.2.2.2.1 _ h3) F.2.2.2.2.2.1.1 hP hD hS F.2.2.2.2.2.2.2.1 hcl hfs hR.1 hR.2 d (fun q H1 hP1 hD1 hS1 => kk q H1 locs ls hP1 hD1 hS1 hl2)
theorem zi_newa (F : zFi K cc own) {atype : ArrayType} {ty : FieldType} (t0 : Nat) {n : Int32} {N' : Nat} (hty : newarray.typeOf atype = ty) (ht : ∀ g, (zTys g)[t0]? = some (g.2.1 t0, ty)) (hra : ∀ U cA, va_RA U cA ty = (U.vm.findClass ("[" ++ ty.toString) = some cA)) (hw : Cond.arrayClass (newarray.typeOf atype) ∈ zT) (ha : ∀ cA : ClassId, vp_cell cA (N', .inl (fun _ => 0)) = arrV cA N' (fun _ => defaultValue ty)) (hn : ¬ n < 0) (hN : n.toNatClampNeg = N') (hb : N' * componentBytes ty ≤ 536870912) (hR : mc + 1 ≤ (zrm K).cells ∧ ms + N' ≤ (zrm K).slots) (d : decode cc pc = .ok (.newarray atype, 2)) (kk : ∀ q, ZI K (pc + 2) lv (.ref q :: st) (ws ++ [(q, .inl ((zgg K).2.1 t0, N', .inl (fun _ => 0)))]) (mc + 1) (ms + N')) : ZI K pc lv (.int n :: st) ws mc ms := by
  obtain ⟨p, l, e, R, s, m, args, below, meth, c, Q, g, A, nL, nc, ns⟩ := K
  intro H locs ls hP hD hS hl2
  refine va_newa F.1 F.2.1 (F.2.2.2.2.1 _ hw) hty F.2.2.2.2.2.1.1 hP hD hS F.2.2.2.2.2.2.2.1 ha hn hN hb hR.1 hR.2 d (fun q cA H1 hK1 hP1 hD1 hS1 => ?_)
  have e1 := (hK1.2 (zTys g).length (cA, ty) (by rw [List.getElem?_append_right (Nat.le_refl _), Nat.sub_self]; rfl)).2
  have e2 := (F.2.2.2.2.2.1.1.2 t0 _ (ht g)).2
  rw [hra] at e1 e2
  cases e1.symm.trans e2
  exact kk q H1 locs ls hP1 hD1 hS1 hl2
theorem zi_newq (F : zFi K cc own) {C : String} {index : Nat} (t0 : Nat) {n : Int32} {N' : Nat} (ht : ∀ g, (zTys g)[t0]? = some (g.2.1 t0, .object C)) (hw : Cond.classLink own index C ∈ zT) (hao : ∀ U, zAO U → va_AO C U) (hn : ¬ n < 0) (hN : n.toNatClampNeg = N') (hb : N' * 4 ≤ 536870912) (hR : mc + 1 ≤ (zrm K).cells ∧ ms + N' ≤ (zrm K).slots) (d : decode cc pc = .ok (.anewarray index, 3)) (kk : ∀ q, ZI K (pc + 3) lv (.ref q :: st) (ws ++ [(q, .inl ((zgg K).2.1 t0, N', .inr (.inr (.inr (.inr (fun _ => none))))))]) (mc + 1) (ms + N')) : ZI K pc lv (.int n :: st) ws mc ms := by
  obtain ⟨p, l, e, R, s, m, args, below, meth, c, Q, g, A, nL, nc, ns⟩ := K
  intro H locs ls hP hD hS hl2
  refine va_newq F.1 F.2.1 F.2.2.2.1 (F.2.2.2.2.1 _ hw) (hao _ F.2.2.2.2.2.2.1) F.2.2.2.2.2.1.1 hP hD hS F.2.2.2.2.2.2.2.1 hn hN hb hR.1 hR.2 d (fun q cA H1 hK1 hP1 hD1 hS1 => ?_)
  obtain ⟨k1, c1, -, -, -, e1⟩ := (hK1.2 (zTys g).length (cA, .object C) (by rw [List.getElem?_append_right (Nat.le_refl _), Nat.sub_self]; rfl)).2
  obtain ⟨k2, c2, -, -, -, e2⟩ := (F.2.2.2.2.2.1.1.2 t0 _ (ht g)).2
  cases e1.symm.trans e2
  exact kk q H1 locs ls hP1 hD1 hS1 hl2
theorem zpl_rows {N' : Nat} {r : Nat → Nat} {f : Nat → va_E} {e : va_E} : va_pl ([] ++ (List.range N').map r) (vr_up f ((List.range N').map r) e) = (List.range N').map (fun i => (r i, e)) := by
  unfold va_pl
  rw [List.nil_append, List.map_map]
  apply List.map_congr_left
  intro i hi
  show (r i, vr_up f ((List.range N').map r) e (r i)) = (r i, e)
  rw [vr_up_in (List.mem_map.mpr ⟨i, hi, rfl⟩)]
theorem zi_mna (F : zFi K cc own) {index : Nat} (hw : Cond.classLink own index "[[I" ∈ zT) (hw2 : Cond.arrayClass .int ∈ zT) (hR : mc + 6 ≤ (zrm K).cells ∧ ms + 45 ≤ (zrm K).slots) (d : decode cc pc = .ok (.multianewarray index 2, 4)) (kk : ∀ (q : Nat) (r : Nat → Nat), ZI K (pc + 4) lv (.ref q :: st) (ws ++ [(q, .inl ((zgg K).2.1 4, 5, .inr (.inr (.inr (.inr (fun i => if i < 5 then some (r i) else none)))))), (r 0, .inl ((zgg K).2.1 0, 8, .inl (fun _ => 0))), (r 1, .inl ((zgg K).2.1 0, 8, .inl (fun _ => 0))), (r 2, .inl ((zgg K).2.1 0, 8, .inl (fun _ => 0))), (r 3, .inl ((zgg K).2.1 0, 8, .inl (fun _ => 0))), (r 4, .inl ((zgg K).2.1 0, 8, .inl (fun _ => 0)))]) (mc + 6) (ms + 45)) : ZI K pc lv (.int 8 :: .int 5 :: st) ws mc ms := by
  obtain ⟨p, l, e, R, s, m, args, below, meth, c, Q, g, A, nL, nc, ns⟩ := K
  intro H locs ls hP hD hS hl2
  have hR2 : mc + 6 ≤ R.cells ∧ ms + 45 ≤ R.slots := hR
  have e2 : s.vm.findClass ("[" ++ FieldType.int.toString) = some (g.2.1 0) := (F.2.2.2.2.2.1.1.2 0 _ rfl).2
  have e4 : s.vm.findClass ("[" ++ (FieldType.array .int).toString) = some (g.2.1 4) := (F.2.2.2.2.2.1.1.2 4 _ rfl).2
  refine va_mna (X := ws) (L := []) (f := fun _ => .inl (0, 0, .inl (fun _ => 0))) (ty := .int) (cy := g.2.1 0) (N' := 5) (K' := 8) (z := (8, .inl (fun _ => 0))) F.1 F.2.1 F.2.2.2.1 (F.2.2.2.2.1 _ hw) F.2.2.2.2.2.2.1.2.2 (F.2.2.2.2.1 _ hw2) e2 F.2.2.2.2.2.1.1 (by rw [show va_pl [] (fun _ => (.inl (0, 0, .inl (fun _ => 0)) : va_E)) = [] from rfl, List.append_nil]; exact hP) (by rw [show va_pl [] (fun _ => (.inl (0, 0, .inl (fun _ => 0)) : va_E)) = [] from rfl, List.append_nil]; exact hD) hS F.2.2.2.2.2.2.2.1 (by decide) (by decide) (by decide) (by decide) (by decide) (by decide) (by decide) (by decide) (by decide) hR2.1 hR2.2 (fun _ => rfl) d (fun q r cA H1 _ _ hK1 hP1 hD1 hS1 => ?_)
  have e1 := (hK1.2 (zTys g).length (cA, .array .int) (by rw [List.getElem?_append_right (Nat.le_refl _), Nat.sub_self]; rfl)).2
  cases (show s.vm.findClass ("[" ++ (FieldType.array .int).toString) = some cA from e1).symm.trans e4
  rw [zpl_rows, List.append_assoc] at hP1 hD1
  exact kk q r H1 locs ls hP1 hD1 hS1 hl2
theorem zi_cong {K : zX} {pc : Nat} {lv : List (Option Value)} {st : List Value} {ws : va_W} {mc ms : Nat} (q0 : Nat) {a n t0 : Nat} {f f' : Nat → Option Nat} {ws' : va_W} (he : ws[q0]? = some (a, .inl ((zgg K).2.1 t0, n, .inr (.inr (.inr (.inr f)))))) (hf : ∀ i, i < n → f i = f' i) (hs : ws.set q0 (a, .inl ((zgg K).2.1 t0, n, .inr (.inr (.inr (.inr f'))))) = ws') (kk : ZI K pc lv st ws' mc ms) : ZI K pc lv st ws mc ms := by
  obtain ⟨p, l, e, R, s, m, args, below, meth, c, Q, g, A, nL, nc, ns⟩ := K
  subst hs
  intro H locs ls hP hD hS hl
  have h1 : H[a]? = some (vp_cell (g.2.1 t0) (n, .inr (.inr (.inr (.inr f))))) := hP q0 _ he
  refine kk H locs ls (hP.set hD he ?_ (fun _ _ => rfl)) (hD.set he) hS hl
  show H[a]? = some (vp_cell (g.2.1 t0) (n, .inr (.inr (.inr (.inr f')))))
  rw [h1, vp_cell_q, vp_cell_q]
  exact congrArg some (zarrV (fun i hi => by rw [hf i hi]))
end ZI1
/-- a constructor's contract: the cells pre, then post q, with mc new cells of ms slots -/
def zMk (l : Launch) (y : MethodName) (cc : ByteArray) (nL : Nat) (rm : Room) (av : List Value) (g : zG) (pre : va_W) (mc ms : Nat) (post : (Nat → Nat) → va_W) : Prop := ∀ sz : Nat, Met l y (zWs y cc nL none) rm (va_Pc av (fun U => U.heap.size = sz ∧ va_P g.2.2 vwCl pre U.heap ∧ zKn g U ∧ zAO U ∧ va_D (fun _ => True) pre)) (va_Qv (fun _ : Nat → Nat => True) (fun q t => va_P g.2.2 vwCl (post q) t.heap ∧ va_D (va_A pre sz) (post q)) (va_A pre sz)) mc ms (va_A pre sz)
def zEk (K : zX) (pre : va_W) (mc ms : Nat) (post : (Nat → Nat) → va_W) : Prop := match K with
  | (_, _, _, _, s, _, args, below, _, _, Q, g, A, _, _, _) => Q = MQ below (va_Qv (fun _ : Nat → Nat => True) (fun q t => va_P g.2.2 vwCl (post q) t.heap ∧ va_D A (post q)) A) args s mc ms A
theorem zMk.of {l : Launch} {y : MethodName} {cc : ByteArray} {nL : Nat} {rm : Room} {av : List Value} {g : zG} {pre : va_W} {mc ms : Nat} {post : (Nat → Nat) → va_W} (own : String) (hy : plainFor y = true) (hown : y.cls = own) (hnm : y.name = "<init>") (hav : av.length ≤ nL) (hac : ∀ v ∈ av, v.category = 1)
    (body : ∀ (K : zX), zFi K cc own → zNm K → zrm K = rm → zln K = l → zgg K = g → zEk K pre mc ms post → ZI K 0 (zEnt av nL) [] pre 0 0) : zMk l y cc nL rm av g pre mc ms post := by
  intro sz
  refine zMet.ofW (cc := cc) (maxL := nL) (ret := none) hy rfl ?_
  intro p e s m args below meth c s₁ B hml hv
  obtain ⟨rfl, hsz, hP, hK, hO, hD0⟩ := hv
  have hts := atoms_spec (ws := zWs y cc nL none) B.pre
  have ho2 : s.vm.findClass own = some m.cls := by rw [← hown]; exact findClass_of_methodNamed B.named
  have hin : meth.name = y.name := (name_of_methodNamed B.named B.method).1
  subst hsz
  have hb := body (p, l, e, rm, s, m, av.toArray, below, meth, c, MQ below (va_Qv (fun _ : Nat → Nat => True) (fun q t => va_P g.2.2 vwCl (post q) t.heap ∧ va_D (va_A pre s.heap.size) (post q)) (va_A pre s.heap.size)) av.toArray s mc ms (va_A pre s.heap.size), g, va_A pre s.heap.size, nL, 0, 0) ⟨B.exec, B.bytes, hml, ho2, fun w hw => hts w (List.mem_cons_of_mem _ hw), hK, hO, fun q h => Or.inr h, B.notSynchronized⟩ ⟨hin.trans hnm, B.returns⟩ rfl rfl rfl rfl
  rw [lg_entry_eq]
  exact hb s.heap [] _ hP hD0.self va_S.rf (zL_entry hac hav)
theorem zi_ret {K : zX} {pc : Nat} {lv : List (Option Value)} {ws pre : va_W} {mc ms : Nat} {cc : ByteArray} {own : String} {post : (Nat → Nat) → va_W} (F : zFi K cc own) (hm : zNm K) (E : zEk K pre mc ms post) (q : Nat → Nat) (perm : List Nat) (h1 : perm.filterMap (fun i => ws[i]?) = post q) (h2 : va_nd perm = true) (h3 : perm.map (fun i => ws[i]?) = (post q).map some) (d : decode cc pc = .ok (.return_, 1)) : ZI K pc lv [] ws mc ms := by
  obtain ⟨p, l, e, R, s, m, args, below, meth, c, Q, g, A, nL, nc, ns⟩ := K
  unfold zEk at E
  subst E
  intro H locs ls hP hD hS hl
  exact W.vret F.1 F.2.1 hm.2 (fun t' ht hW => ⟨⟨q, rfl, trivial, by rw [ht]; exact hP.sub perm h1, hD.sub perm h2 h3⟩, hS.F ht⟩) hS.2.2 d F.2.2.2.2.2.2.2.2
theorem zi_call {K : zX} {pc : Nat} {lv : List (Option Value)} {st st0 : List Value} {ws pre wr : va_W} {mc ms cm cs : Nat} {cc cy : ByteArray} {own host : String} {y : MethodName} {index maxL n a : Nat} {rm : Room} {post : (Nat → Nat) → va_W} (F : zFi K cc own) (As : List Value) (isC isR : List Nat) (h1 : Cond.methodLinkNest own index y host ∈ zNest) (h2 : Cond.instanceMethod y ∈ zT) (h4 : Cond.initialized y.cls ∈ zT) (h5 : Cond.code y cy maxL none ∈ zT) (h6 : zNoMH y n) (hy1 : y.name = "<init>") (hM : zMk (zln K) y cy maxL rm (.ref a :: As) (zgg K) pre cm cs post) (hrm : rm.cells = cm ∧ rm.slots = cs ∧ rm.frames + 1 ≤ (zrm K).frames ∧ 8 + (maxL + 11) + rm.locals ≤ (zrm K).locals) (hR : mc + cm ≤ (zrm K).cells ∧ ms + cs ≤ (zrm K).slots) (hn : As.length = n) (hst : st0 = As.reverse ++ .ref a :: st) (hW : (st.map fun v => v.category).sum ≤ 8) (hC : isC.map (fun i => ws[i]?) = pre.map some) (hCs : isC.filterMap (fun i => ws[i]?) = pre) (hCn : va_nd isC = true) (hRr : isR.map (fun i => ws[i]?) = wr.map some) (hRn : va_nd isR = true) (hdis : ∀ i ∈ isR, i ∉ isC) (d : decode cc pc = .ok (.invokespecial index, 3)) (kk : ∀ q : Nat → Nat, ZI K (pc + 3) lv st (wr ++ post q) (mc + cm) (ms + cs)) : ZI K pc lv st0 ws mc ms := by
  obtain ⟨p, l, e, R, s, m, args, below, meth, c, Q, g, A, nL, nc, ns⟩ := K
  intro H locs ls hP hD hS hl
  have hPc := hP.sub isC hCs
  have hDc := hD.sub isC hCn hC
  have hFc := va_free (wc := pre) hD hS F.2.2.2.2.2.2.2.1 isC hC
  have hrun := va_runIN (p := p) (e := e) (R := R) (below := below) (meth := meth) (locs := locs) (cells := mc) (slots := ms) (g := F0 m pc ls st0) (rest := st) (nL := nL) (Ts := zT) ⟨F.1, F.2.1, F.2.2.1, F.2.2.2.1, F.2.2.2.2.1⟩ (hM H.size) ⟨va_cnB n F.2.2.2.2.1 (zGoodIn (zWs_in h5)) rfl hrm.1 hrm.2.1 (F.2.2.2.2.2.1.2 _ h1) (F.2.2.2.2.1 _ h4) h6 hrm.2.2, hy1, F.2.2.2.2.1 _ h2⟩ ⟨fun a' U g' mk q => ⟨q.1, q.2.1, q.2.2.1, zKn.same (U := U.calling g' mk a') q.2.2.2.1 rfl, q.2.2.2.2.1.moved (U := U.calling g' mk a') (Vm.Alike.refl U.vm), q.2.2.2.2.2⟩, fun U hU hW' => ⟨rfl, by rw [hU], by rw [hU]; exact hPc, F.2.2.2.2.2.1.warm hW', F.2.2.2.2.2.2.1.moved hW'.alike, hDc.weaken (fun _ _ _ _ => trivial)⟩⟩ rfl hn hl.1 hst (lv_room hW) d hR
  refine va_callv hrun hS (fun q _ h => hFc q h) hFc (fun u t1 H1 locs1 ht _ _ hB _ hk1 hS1 => ?_)
  obtain ⟨hP1, hD1⟩ := hB
  rw [ht] at hP1
  obtain ⟨hP2, hD2⟩ := va_join hP hD isC isR hC hRr hRn hdis hk1 hFc hP1 hD1
  exact kk u H1 locs1 ls hP2 hD2 hS1 hl
theorem zi_callP {K : zX} {pc : Nat} {lv : List (Option Value)} {st st0 : List Value} {ws pre wr : va_W} {mc ms cm cs : Nat} {cc cy : ByteArray} {own : String} {y : MethodName} {index maxL n a : Nat} {rm : Room} {post : (Nat → Nat) → va_W} (F : zFi K cc own) (As : List Value) (isC isR : List Nat) (h1 : Cond.methodLink own index y ∈ zT) (h2 : Cond.instanceMethod y ∈ zT) (h4 : Cond.initialized y.cls ∈ zT) (h5 : Cond.code y cy maxL none ∈ zT) (h6 : zNoMH y n) (hy1 : y.name = "<init>") (hM : zMk (zln K) y cy maxL rm (.ref a :: As) (zgg K) pre cm cs post) (hrm : rm.cells = cm ∧ rm.slots = cs ∧ rm.frames + 1 ≤ (zrm K).frames ∧ 8 + (maxL + 11) + rm.locals ≤ (zrm K).locals) (hR : mc + cm ≤ (zrm K).cells ∧ ms + cs ≤ (zrm K).slots) (hn : As.length = n) (hst : st0 = As.reverse ++ .ref a :: st) (hW : (st.map fun v => v.category).sum ≤ 8) (hC : isC.map (fun i => ws[i]?) = pre.map some) (hCs : isC.filterMap (fun i => ws[i]?) = pre) (hCn : va_nd isC = true) (hRr : isR.map (fun i => ws[i]?) = wr.map some) (hRn : va_nd isR = true) (hdis : ∀ i ∈ isR, i ∉ isC) (d : decode cc pc = .ok (.invokespecial index, 3)) (kk : ∀ q : Nat → Nat, ZI K (pc + 3) lv st (wr ++ post q) (mc + cm) (ms + cs)) : ZI K pc lv st0 ws mc ms := by
  obtain ⟨p, l, e, R, s, m, args, below, meth, c, Q, g, A, nL, nc, ns⟩ := K
  intro H locs ls hP hD hS hl
  have hPc := hP.sub isC hCs
  have hDc := hD.sub isC hCn hC
  have hFc := va_free (wc := pre) hD hS F.2.2.2.2.2.2.2.1 isC hC
  have hrun := va_runI (p := p) (e := e) (R := R) (below := below) (meth := meth) (locs := locs) (cells := mc) (slots := ms) (g := F0 m pc ls st0) (rest := st) (nL := nL) (Ts := zT) ⟨F.1, F.2.1, F.2.2.1, F.2.2.2.1, F.2.2.2.2.1⟩ (hM H.size) (cwI n F.2.2.2.2.1 (zGoodIn (zWs_in h5)) rfl hrm.1 hrm.2.1 (F.2.2.2.2.1 _ h4) (F.2.2.2.2.1 _ h1) (F.2.2.2.2.1 _ h2) hy1 h6 hrm.2.2) ⟨fun a' U g' mk q => ⟨q.1, q.2.1, q.2.2.1, zKn.same (U := U.calling g' mk a') q.2.2.2.1 rfl, q.2.2.2.2.1.moved (U := U.calling g' mk a') (Vm.Alike.refl U.vm), q.2.2.2.2.2⟩, fun U hU hW' => ⟨rfl, by rw [hU], by rw [hU]; exact hPc, F.2.2.2.2.2.1.warm hW', F.2.2.2.2.2.2.1.moved hW'.alike, hDc.weaken (fun _ _ _ _ => trivial)⟩⟩ rfl hn hl.1 hst (lv_room hW) d hR
  refine va_callv hrun hS (fun q _ h => hFc q h) hFc (fun u t1 H1 locs1 ht _ _ hB _ hk1 hS1 => ?_)
  obtain ⟨hP1, hD1⟩ := hB
  rw [ht] at hP1
  obtain ⟨hP2, hD2⟩ := va_join hP hD isC isR hC hRr hRn hdis hk1 hFc hP1 hD1
  exact kk u H1 locs1 ls hP2 hD2 hS1 hl
