def zT : List Cond := lw_tbl.filter goodWord
/-! The state picture: (kind, number, place) to an int; addresses by (kind, number). -/
abbrev zS : Type := Nat → Nat → Nat → Int32
abbrev zG : Type := (Nat → Nat → Nat) × (Nat → ClassId) × va_G
abbrev zX : Type := Program × Launch × Env × Room × State × MethodId × Array Value × List Frame × Method × Code × (State → Prop) × zG × (Nat → Prop) × Nat × Nat × Nat
def zad (K : zX) (k i : Nat) : Nat := K.2.2.2.2.2.2.2.2.2.2.2.1.1 k i
def zrm (K : zX) : Room := K.2.2.2.1
def zln (K : zX) : Launch := K.2.1
def zU (σ : zS) (k i j : Nat) (v : Int32) : zS := fun a b => if a = k ∧ b = i then upd (σ a b) j v else σ a b
def zLim (k : Nat) : Nat := if k = 13 ∨ k = 14 then 3 else if k = 15 ∨ k = 16 ∨ k = 17 then 12 else if k = 18 then 61 else if k < 37 then 1 else 0
def zIds : List (Nat × Nat) := (List.range 37).flatMap (fun k => (List.range (zLim k)).map (fun i => (k, i)))

/-- a cell: kind k, number i, its ints f -/
def zC (g : zG) (f : Nat → Int32) (k i : Nat) : va_E := match k with
  | 0 => .inr (8, [.ref (g.1 1 0), .ref (g.1 7 0), .ref (g.1 9 0), .ref (g.1 10 0), .ref (g.1 19 0)])
  | 1 => .inr (6, [.ref (g.1 2 0), .ref (g.1 3 0), .ref (g.1 4 0), .int (f 3), .int (f 4), .int (f 5), .int (f 6), .int (f 7)])
  | 2 => .inl (g.2.1 0, 10, .inl f)
  | 3 => .inl (g.2.1 0, 8, .inl f)
  | 4 => .inr (5, [.ref (g.1 5 0), .ref (g.1 6 0), .int (f 2)])
  | 5 => .inl (g.2.1 0, 16, .inl f)
  | 6 => .inl (g.2.1 0, 16, .inl f)
  | 7 => .inr (7, [.ref (g.1 8 0), .int (f 1)])
  | 8 => .inl (g.2.1 0, 12, .inl f)
  | 9 => .inr (0, [.int (f 0), .int (f 1)])
  | 10 => .inr (2, [.ref (g.1 11 0), .ref (g.1 9 0), .ref (g.1 18 60), .ref (g.1 12 0), .int (f 4), .int (f 5)])
  | 11 => .inl (g.2.1 2, 3, .inr (.inr (.inr (.inr (fun j => some (g.1 13 ((f j).toNatClampNeg % 3)))))))
  | 12 => .inl (g.2.1 1, 4, .inl f)
  | 13 => .inr (1, [.ref (g.1 14 i), .int (f 1), .int (f 2)])
  | 14 => .inl (g.2.1 3, 4, .inr (.inr (.inr (.inr (fun j => some (g.1 15 (4 * i + j)))))))
  | 15 => .inr (3, [.ref (g.1 16 i), .ref (g.1 17 i)])
  | 16 => .inl (g.2.1 4, 5, .inr (.inr (.inr (.inr (fun j => some (g.1 18 (5 * i + j)))))))
  | 17 => .inl (g.2.1 1, 5, .inl f)
  | 18 => .inl (g.2.1 0, 8, .inl f)
  | 19 => .inr (4, [.ref (g.1 20 0), .int (f 1)])
  | 20 => .inl (g.2.1 0, 60, .inl f)
  | 21 => .inr (9, [.int (f 0), .ref (g.1 22 0), .ref (g.1 23 0), .int (f 3), .ref (g.1 24 0), .ref (g.1 25 0), .int (f 6), .int (f 7), .int (f 8), .int (f 9), .ref (g.1 26 0), .int (f 11), .int (f 12), .int (f 13), .int (f 14), .ref (g.1 27 0), .ref (g.1 28 0), .ref (g.1 29 0), .ref (g.1 30 0), .int (f 19), .ref (g.1 31 0), .ref (g.1 32 0), .ref (g.1 33 0), .ref (g.1 34 0), .ref (g.1 35 0), .ref (g.1 36 0), .int (f 26)])
  | 22 => .inl (g.2.1 0, 10, .inl f)
  | 23 => .inl (g.2.1 0, 8, .inl f)
  | 24 => .inl (g.2.1 0, 16, .inl f)
  | 25 => .inl (g.2.1 0, 16, .inl f)
  | 26 => .inl (g.2.1 0, 12, .inl f)
  | 27 => .inl (g.2.1 0, 3, .inl f)
  | 28 => .inl (g.2.1 0, 3, .inl f)
  | 29 => .inl (g.2.1 0, 12, .inl f)
  | 30 => .inl (g.2.1 0, 480, .inl f)
  | 31 => .inl (g.2.1 0, 4, .inl f)
  | 32 => .inl (g.2.1 0, 4, .inl f)
  | 33 => .inl (g.2.1 0, 17, .inl f)
  | 34 => .inl (g.2.1 0, 8, .inl f)
  | 35 => .inl (g.2.1 0, 8, .inl f)
  | _ => .inl (g.2.1 0, 60, .inl f)
def zW (g : zG) (σ : zS) : va_W := zIds.map (fun q => (g.1 q.1 q.2, zC g (σ q.1 q.2) q.1 q.2))
def zTys (g : zG) : List (ClassId × FieldType) := [(g.2.1 0, .int), (g.2.1 1, .boolean), (g.2.1 2, .object "AddedLetters$Generation"), (g.2.1 3, .object "AddedLetters$Node"), (g.2.1 4, .array .int)]

def zNest : List Cond := [.fieldLinkNest "AddedLetters" 97 "AddedLetters$Queue" "letters" "[I" "AddedLetters", .fieldLinkNest "AddedLetters$Relay" 75 "AddedLetters$Queue" "letters" "[I" "AddedLetters", .fieldLinkNest "AddedLetters" 101 "AddedLetters$Queue" "stations" "[I" "AddedLetters", .fieldLinkNest "AddedLetters$Relay" 72 "AddedLetters$Queue" "stations" "[I" "AddedLetters", .fieldLinkNest "AddedLetters" 84 "AddedLetters$Queue" "size" "I" "AddedLetters", .fieldLinkNest "AddedLetters$Relay" 51 "AddedLetters$Queue" "size" "I" "AddedLetters", .fieldLinkNest "AddedLetters" 104 "AddedLetters$Relay" "held" "[I" "AddedLetters", .fieldLinkNest "AddedLetters" 71 "AddedLetters$Relay" "queue" "LAddedLetters$Queue;" "AddedLetters", .fieldLinkNest "AddedLetters" 209 "AddedLetters$Relay" "there" "I" "AddedLetters", .fieldLinkNest "AddedLetters" 88 "AddedLetters$Relay" "onAir" "I" "AddedLetters", .fieldLinkNest "AddedLetters" 91 "AddedLetters$Relay" "limit" "I" "AddedLetters", .fieldLinkNest "AddedLetters" 217 "AddedLetters$Relay" "sent" "I" "AddedLetters", .fieldLinkNest "AddedLetters" 220 "AddedLetters$Relay" "served" "I" "AddedLetters", .fieldLinkNest "AddedLetters" 131 "AddedLetters$Tape" "size" "I" "AddedLetters", .fieldLinkNest "AddedLetters$Mixing" 82 "AddedLetters$Field" "p" "I" "AddedLetters", .fieldLinkNest "AddedLetters" 135 "AddedLetters$Field" "p" "I" "AddedLetters", .fieldLinkNest "AddedLetters" 226 "AddedLetters$Field" "seed" "I" "AddedLetters", .fieldLinkNest "AddedLetters$Mixing" 74 "AddedLetters$Node" "cells" "[[I" "AddedLetters", .fieldLinkNest "AddedLetters$Paper" 29 "AddedLetters$Node" "led" "[Z" "AddedLetters", .fieldLinkNest "AddedLetters$Mixing" 71 "AddedLetters$Node" "led" "[Z" "AddedLetters", .fieldLinkNest "AddedLetters$Mixing" 44 "AddedLetters$Generation" "nodes" "[LAddedLetters$Node;" "AddedLetters", .fieldLinkNest "AddedLetters$Mixing" 37 "AddedLetters$Generation" "number" "I" "AddedLetters", .fieldLinkNest "AddedLetters" 196 "AddedLetters$Generation" "number" "I" "AddedLetters", .fieldLinkNest "AddedLetters" 160 "AddedLetters$Generation" "n" "I" "AddedLetters", .fieldLinkNest "AddedLetters" 192 "AddedLetters$Mixing" "slots" "[LAddedLetters$Generation;" "AddedLetters", .fieldLinkNest "AddedLetters" 189 "AddedLetters$Mixing" "open" "I" "AddedLetters", .fieldLinkNest "AddedLetters" 223 "AddedLetters$Mixing" "begun" "I" "AddedLetters", .methodLinkNest "AddedLetters" 11 ⟨"AddedLetters$Relay", "<init>", "()V"⟩ "AddedLetters", .methodLinkNest "AddedLetters$Relay" 20 ⟨"AddedLetters$Queue", "<init>", "()V"⟩ "AddedLetters", .methodLinkNest "AddedLetters" 18 ⟨"AddedLetters$Tape", "<init>", "()V"⟩ "AddedLetters", .methodLinkNest "AddedLetters" 25 ⟨"AddedLetters$Field", "<init>", "()V"⟩ "AddedLetters", .methodLinkNest "AddedLetters" 32 ⟨"AddedLetters$Mixing", "<init>", "(LAddedLetters$Field;)V"⟩ "AddedLetters", .methodLinkNest "AddedLetters$Mixing" 29 ⟨"AddedLetters$Generation", "<init>", "()V"⟩ "AddedLetters", .methodLinkNest "AddedLetters$Generation" 17 ⟨"AddedLetters$Node", "<init>", "()V"⟩ "AddedLetters", .methodLinkNest "AddedLetters" 41 ⟨"AddedLetters$Paper", "<init>", "()V"⟩ "AddedLetters", .methodLinkNest "AddedLetters" 46 ⟨"AddedLetters$Relay", "putLetter", "(II)Z"⟩ "AddedLetters", .methodLinkNest "AddedLetters" 50 ⟨"AddedLetters$Relay", "isThere", "(I)Z"⟩ "AddedLetters", .methodLinkNest "AddedLetters" 54 ⟨"AddedLetters$Relay", "takeLetter", "(I)I"⟩ "AddedLetters", .methodLinkNest "AddedLetters$Relay" 43 ⟨"AddedLetters$Queue", "removeLetter", "(I)I"⟩ "AddedLetters", .methodLinkNest "AddedLetters" 61 ⟨"AddedLetters$Relay", "holds", "(II)Z"⟩ "AddedLetters", .methodLinkNest "AddedLetters" 64 ⟨"AddedLetters$Relay", "give", "(II)Z"⟩ "AddedLetters", .methodLinkNest "AddedLetters$Relay" 47 ⟨"AddedLetters$Queue", "removePair", "(II)Z"⟩ "AddedLetters", .methodLinkNest "AddedLetters" 67 ⟨"AddedLetters$Relay", "takeFrom", "(II)V"⟩ "AddedLetters", .methodLinkNest "AddedLetters" 75 ⟨"AddedLetters$Queue", "indexOf", "(II)I"⟩ "AddedLetters", .methodLinkNest "AddedLetters" 81 ⟨"AddedLetters$Queue", "add", "(II)Z"⟩ "AddedLetters", .methodLinkNest "AddedLetters" 94 ⟨"AddedLetters$Relay", "clear", "()V"⟩ "AddedLetters", .methodLinkNest "AddedLetters" 107 ⟨"AddedLetters$Relay", "isSum", "(I)Z"⟩ "AddedLetters", .methodLinkNest "AddedLetters" 110 ⟨"AddedLetters$Relay", "readBy", "(II)I"⟩ "AddedLetters", .methodLinkNest "AddedLetters" 113 ⟨"AddedLetters$Relay", "bodyOf", "(I)I"⟩ "AddedLetters", .methodLinkNest "AddedLetters" 116 ⟨"AddedLetters$Relay", "countServed", "(I)I"⟩ "AddedLetters", .methodLinkNest "AddedLetters" 119 ⟨"AddedLetters$Relay", "openers", "(I)I"⟩ "AddedLetters", .methodLinkNest "AddedLetters" 122 ⟨"AddedLetters$Relay", "findBest", "()I"⟩ "AddedLetters", .methodLinkNest "AddedLetters" 126 ⟨"AddedLetters$Relay", "deliver", "(I)I"⟩ "AddedLetters", .methodLinkNest "AddedLetters" 129 ⟨"AddedLetters$Tape", "add", "(I)Z"⟩ "AddedLetters", .methodLinkNest "AddedLetters" 132 ⟨"AddedLetters$Tape", "toldNumber", "()I"⟩ "AddedLetters", .methodLinkNest "AddedLetters" 138 ⟨"AddedLetters$Mixing", "forget", "()V"⟩ "AddedLetters", .methodLinkNest "AddedLetters" 141 ⟨"AddedLetters$Mixing", "begin", "(II)I"⟩ "AddedLetters", .methodLinkNest "AddedLetters$Mixing" 48 ⟨"AddedLetters$Generation", "renew", "(II)V"⟩ "AddedLetters", .methodLinkNest "AddedLetters$Generation" 25 ⟨"AddedLetters$Node", "clear", "()V"⟩ "AddedLetters", .methodLinkNest "AddedLetters$Mixing" 61 ⟨"AddedLetters$Field", "left", "(I)I"⟩ "AddedLetters", .methodLinkNest "AddedLetters$Mixing" 55 ⟨"AddedLetters$Node", "take", "([ILAddedLetters$Field;)Z"⟩ "AddedLetters", .methodLinkNest "AddedLetters$Node" 20 ⟨"AddedLetters$Field", "left", "(I)I"⟩ "AddedLetters", .methodLinkNest "AddedLetters$Node" 41 ⟨"AddedLetters$Field", "inverse", "(I)I"⟩ "AddedLetters", .methodLinkNest "AddedLetters" 144 ⟨"AddedLetters$Mixing", "nodeOf", "(II)LAddedLetters$Node;"⟩ "AddedLetters", .methodLinkNest "AddedLetters" 148 ⟨"AddedLetters$Node", "height", "()I"⟩ "AddedLetters", .methodLinkNest "AddedLetters" 153 ⟨"AddedLetters$Mixing", "find", "(I)LAddedLetters$Generation;"⟩ "AddedLetters", .methodLinkNest "AddedLetters" 157 ⟨"AddedLetters$Node", "placeOf", "(I)I"⟩ "AddedLetters", .methodLinkNest "AddedLetters" 165 ⟨"AddedLetters$Node", "cell", "(II)I"⟩ "AddedLetters", .methodLinkNest "AddedLetters" 168 ⟨"AddedLetters$Node", "knows", "(I)Z"⟩ "AddedLetters", .methodLinkNest "AddedLetters" 171 ⟨"AddedLetters$Mixing", "carry", "(LAddedLetters$Node;LAddedLetters$Node;I)Z"⟩ "AddedLetters", .methodLinkNest "AddedLetters$Mixing" 67 ⟨"AddedLetters$Node", "mixInto", "([ILAddedLetters$Field;I)V"⟩ "AddedLetters", .methodLinkNest "AddedLetters$Node" 30 ⟨"AddedLetters$Field", "cut", "(I)I"⟩ "AddedLetters", .methodLinkNest "AddedLetters" 175 ⟨"AddedLetters$Field", "nextDrawn", "()I"⟩ "AddedLetters", .methodLinkNest "AddedLetters" 178 ⟨"AddedLetters$Mixing", "leastNew", "(LAddedLetters$Node;LAddedLetters$Node;)I"⟩ "AddedLetters", .methodLinkNest "AddedLetters$Mixing" 78 ⟨"AddedLetters$Node", "newLead", "([ILAddedLetters$Field;)I"⟩ "AddedLetters", .methodLinkNest "AddedLetters" 182 ⟨"AddedLetters$Mixing", "leastNewForAll", "(LAddedLetters$Generation;I)I"⟩ "AddedLetters", .methodLinkNest "AddedLetters$Mixing" 95 ⟨"AddedLetters$Node", "height", "()I"⟩ "AddedLetters", .methodLinkNest "AddedLetters" 186 ⟨"AddedLetters$Mixing", "takeOutDone", "()I"⟩ "AddedLetters", .methodLinkNest "AddedLetters$Mixing" 106 ⟨"AddedLetters$Generation", "isDone", "()Z"⟩ "AddedLetters", .methodLinkNest "AddedLetters$Generation" 28 ⟨"AddedLetters$Node", "height", "()I"⟩ "AddedLetters", .methodLinkNest "AddedLetters" 199 ⟨"AddedLetters$Paper", "writeSum", "(II)V"⟩ "AddedLetters", .methodLinkNest "AddedLetters" 202 ⟨"AddedLetters$Paper", "answer", "(I)I"⟩ "AddedLetters", .methodLinkNest "AddedLetters" 205 ⟨"AddedLetters$Paper", "writeRows", "(LAddedLetters$Node;I)V"⟩ "AddedLetters", .methodLinkNest "AddedLetters$Paper" 39 ⟨"AddedLetters$Node", "cell", "(II)I"⟩ "AddedLetters"]
def zNestW : Cond → Bool
  | .fieldLinkNest .. => true
  | .methodLinkNest .. => true
  | _ => false
theorem zNest_ok : zNest.all zNestW = true := by decide +kernel
theorem zNest_warm {w : Cond} (h : zNestW w = true) {s U : State} (hW : s.WarmedH U.vm) (hZ : va_Nw w s) : va_Nw w U := by
  cases w <;> first | (simp [zNestW] at h; done) | exact va_Nw.warmF hW hZ | exact va_Nw.warmM hW hZ
theorem zNest_same {w : Cond} (h : zNestW w = true) {s U : State} (hW : s.vm = U.vm) (hZ : va_Nw w s) : va_Nw w U := by
  cases w <;> first | (simp [zNestW] at h; done) | exact va_Nw.same rfl hW hZ
def zKn (g : zG) (U : State) : Prop := va_K g.2.2 vwCl (zTys g) U ∧ ∀ w ∈ zNest, va_Nw w U
theorem zKn.warm {g : zG} {s U : State} (h : zKn g s) (hW : s.WarmedH U.vm) : zKn g U := ⟨va_K.moved hW.alike h.1, fun w hw => zNest_warm (List.all_eq_true.mp zNest_ok w hw) hW (h.2 w hw)⟩
theorem zKn.same {g : zG} {s U : State} (h : zKn g s) (hW : s.vm = U.vm) : zKn g U := ⟨va_K.moved (by rw [hW]; exact Vm.Alike.refl U.vm) h.1, fun w hw => zNest_same (List.all_eq_true.mp zNest_ok w hw) hW (h.2 w hw)⟩
/-! ids -/
theorem zIds_mem {k i : Nat} (h : i < zLim k) : (k, i) ∈ zIds := by
  have hk : k < 37 := by
    unfold zLim at h
    repeat' split at h
    all_goals omega
  exact List.mem_flatMap.mpr ⟨k, List.mem_range.mpr hk, List.mem_map.mpr ⟨i, List.mem_range.mpr h, rfl⟩⟩
theorem zIds_nd : zIds.Nodup := by decide +kernel
theorem zW_at {g : zG} {σ : zS} {k i : Nat} (h : i < zLim k) : ∃ q : Nat, zIds[q]? = some (k, i) ∧ (zW g σ)[q]? = some (g.1 k i, zC g (σ k i) k i) := by
  obtain ⟨q, hq⟩ := List.getElem?_of_mem (zIds_mem h)
  exact ⟨q, hq, by unfold zW; rw [List.getElem?_map, hq]; rfl⟩
theorem zW_set {g : zG} {σ σ' : zS} {k i q : Nat} {e : va_E} (hq : zIds[q]? = some (k, i)) (he : zC g (σ' k i) k i = e) (ho : ∀ a b, (a, b) ≠ (k, i) → σ' a b = σ a b) : (zW g σ).set q (g.1 k i, e) = zW g σ' := by
  apply List.ext_getElem?
  intro j
  have hl : q < (zW g σ).length := by unfold zW; rw [List.length_map]; exact (List.getElem?_eq_some_iff.mp hq).1
  by_cases hj : j = q
  · subst hj
    rw [List.getElem?_set_self hl]
    unfold zW
    rw [List.getElem?_map, hq, ← he]
    rfl
  · rw [List.getElem?_set_ne (Ne.symm hj)]
    unfold zW
    rw [List.getElem?_map, List.getElem?_map]
    cases hz : zIds[j]? with
    | none => rfl
    | some x =>
      have hne : x ≠ (k, i) := by
        intro hx
        subst hx
        exact hj ((List.getElem?_inj (List.getElem?_eq_some_iff.mp hz).1 zIds_nd).mp (hz.trans hq.symm))
      show some (g.1 x.1 x.2, zC g (σ x.1 x.2) x.1 x.2) = some (g.1 x.1 x.2, zC g (σ' x.1 x.2) x.1 x.2)
      rw [ho x.1 x.2 hne]
theorem zD_any {g : zG} {A : Nat → Prop} {σ σ' : zS} (h : va_D A (zW g σ)) : va_D A (zW g σ') := by
  have key : ∀ (n : Nat) (q : Nat × va_E), (zW g σ')[n]? = some q → ∃ q0, (zW g σ)[n]? = some q0 ∧ q0.1 = q.1 := by
    intro n q hn
    unfold zW at hn ⊢
    rw [List.getElem?_map] at hn ⊢
    cases hz : zIds[n]? with
    | none => rw [hz] at hn; cases hn
    | some x => rw [hz] at hn; cases hn; exact ⟨_, rfl, rfl⟩
  refine ⟨fun i j x y hi hj hxy => ?_, fun n q hn => ?_⟩
  · obtain ⟨x0, h1, h2⟩ := key i x hi
    obtain ⟨y0, h3, h4⟩ := key j y hj
    exact h.1 i j x0 y0 h1 h3 (h2.trans (hxy.trans h4.symm))
  · obtain ⟨q0, h1, h2⟩ := key n q hn
    rw [← h2]; exact h.2 n q0 h1
theorem zU_at {σ : zS} {k i j : Nat} {v : Int32} : zU σ k i j v k i = upd (σ k i) j v := by unfold zU; rw [if_pos ⟨rfl, rfl⟩]
theorem zU_ne {σ : zS} {k i j : Nat} {v : Int32} : ∀ a b, (a, b) ≠ (k, i) → zU σ k i j v a b = σ a b := by
  intro a b h
  unfold zU
  rw [if_neg (fun q => h (by rw [q.1, q.2]))]
/-! locals -/
def zL (ls : Array Slot) (nL : Nat) (lv : List (Option Value)) : Prop := ls.size = nL ∧ lv_wf ls ∧ (∀ (i : Nat) (v : Value), lv[i]? = some (some v) → ls[i]? = some (.val v)) ∧ lv.length = nL ∧ ∀ (i : Nat) (v : Value), lv[i]? = some (some v) → v.category = 1
def zPr (lv : List (Option Value)) : List (Nat × Value) := (List.range lv.length).filterMap (fun i => match lv[i]? with | some (some v) => some (i, v) | _ => none)
theorem zPr_mem {lv : List (Option Value)} {i : Nat} {v : Value} : (i, v) ∈ zPr lv ↔ lv[i]? = some (some v) := by
  unfold zPr
  rw [List.mem_filterMap]
  constructor
  · rintro ⟨j, hj, h⟩
    split at h
    · next w hw => cases h; exact hw
    · cases h
  · intro h
    refine ⟨i, List.mem_range.mpr (List.getElem?_eq_some_iff.mp h).1, ?_⟩
    rw [h]
theorem zL.has {ls : Array Slot} {nL : Nat} {lv : List (Option Value)} (h : zL ls nL lv) : lv_has ls nL (zPr lv) := ⟨h.1, h.2.1, fun q hq => h.2.2.1 q.1 q.2 (zPr_mem.mp (by cases q; exact hq))⟩
theorem zL.store {ls ls' : Array Slot} {nL i : Nat} {lv lv' : List (Option Value)} {v : Value} (h : zL ls nL lv) (hc : v.category = 1) (hi : i < nL) (hs : lv.set i (some v) = lv') (h' : lv_has ls' nL ((i, v) :: (zPr lv).filter (fun q => !(q.1 == i) && !(q.1 + 1 == i && q.2.category == 2)))) : zL ls' nL lv' := by
  subst hs
  have hlen : i < lv.length := by rw [h.2.2.2.1]; exact hi
  have key : ∀ (j : Nat) (w : Value), (lv.set i (some v))[j]? = some (some w) → (j = i ∧ w = v) ∨ (j ≠ i ∧ lv[j]? = some (some w)) := by
    intro j w hj
    by_cases e : j = i
    · subst e
      rw [List.getElem?_set_self hlen] at hj
      cases hj
      exact Or.inl ⟨rfl, rfl⟩
    · rw [List.getElem?_set_ne (Ne.symm e)] at hj
      exact Or.inr ⟨e, hj⟩
  refine ⟨h'.1, h'.2.1, fun j w hj => ?_, by rw [List.length_set]; exact h.2.2.2.1, fun j w hj => ?_⟩
  · rcases key j w hj with ⟨rfl, rfl⟩ | ⟨e, hj⟩
    · exact h'.2.2 (j, w) List.mem_cons_self
    · refine h'.2.2 (j, w) (List.mem_cons_of_mem _ (List.mem_filter.mpr ⟨zPr_mem.mpr hj, ?_⟩))
      have hc2 := h.2.2.2.2 j w hj
      simp [e, hc2]
  · rcases key j w hj with ⟨rfl, rfl⟩ | ⟨e, hj⟩
    · exact hc
    · exact h.2.2.2.2 j w hj
/-! the judgement -/
def ZO (K : zX) {α : Type} (t : α) (pc : Nat) (lv : List (Option Value)) (st : List Value) (σ : zS) (o : Option α) : Prop := match K with
  | (p, l, e, R, s, m, args, below, meth, c, Q, g, A, nL, nc, ns) => o = some t → ∀ (H : Heap) (locs : List Loc) (ls : Array Slot), va_P g.2.2 vwCl (zW g σ) H → va_S A s.heap H locs → zL ls nL lv → W p l e R s m args below meth c H locs nc ns Q (F0 m pc ls st)
/-- what is fixed in a method -/
def zF (K : zX) (cc : ByteArray) (own : String) (ret : Option FieldType) : Prop := match K with
  | (p, _, _, R, s, m, args, _, meth, c, _, g, A, nL, nc, ns) => p.tables.exec = Jvm.exec ∧ c.code = cc ∧ c.maxLocals = nL ∧ s.vm.findClass own = some m.cls ∧ (∀ w ∈ zT, w.before args s = true) ∧ zKn g s ∧ va_D A (zW g (fun _ _ _ => 0)) ∧ (∀ q, s.heap.size ≤ q → A q) ∧ meth.sig.returnType = ret ∧ meth.locks = false ∧ nc ≤ R.cells ∧ ns ≤ R.slots
def zB {α β : Type} (x : α) (k : α → Option β) : Option β := k x
def zIx {α : Type} (i : Int32) (n : Nat) (o : Option α) : Option α := if i < 0 ∨ n ≤ i.toNatClampNeg then none else o
def zGd {α : Type} (c : Prop) [Decidable c] (o : Option α) : Option α := if c then o else none
def zSt (l : Launch) : Prop := l = l
section ZR
variable {K : zX} {α : Type} {t : α} {pc : Nat} {lv : List (Option Value)} {st : List Value} {σ : zS} {o o1 o2 : Option α} {cc : ByteArray} {own : String} {ret : Option FieldType}
theorem z_none : ZO K t pc lv st σ none := by
  obtain ⟨p, l, e, R, s, m, args, below, meth, c, Q, g, A, nL, nc, ns⟩ := K
  intro h
  cases h
theorem z_ix {i : Int32} {n : Nat} (k : vp_in i n → ZO K t pc lv st σ o) : ZO K t pc lv st σ (zIx i n o) := by
  unfold zIx
  by_cases h : i < 0 ∨ n ≤ i.toNatClampNeg
  · rw [if_pos h]; exact z_none
  · rw [if_neg h]; exact k h
theorem z_gd {q : Prop} [Decidable q] (k : q → ZO K t pc lv st σ o) : ZO K t pc lv st σ (zGd q o) := by
  unfold zGd
  by_cases h : q
  · rw [if_pos h]; exact k h
  · rw [if_neg h]; exact z_none
theorem z_B {β : Type} {x : β} {k : β → Option α} (kk : ∀ y, ZO K t pc lv st σ (k y)) : ZO K t pc lv st σ (zB x k) := kk x

theorem z_iconst (F : zF K cc own ret) {n : Int} {v : Int32} (d : decode cc pc = .ok (.iconst n, 1)) (hv : Int32.ofInt n = v) (kk : ZO K t (pc + 1) lv (.int v :: st) σ o) : ZO K t pc lv st σ o := by
  obtain ⟨p, l, e, R, s, m, args, below, meth, c, Q, g, A, nL, nc, ns⟩ := K
  intro ho H locs ls hP hS hl
  exact lv_iconst F.1 F.2.1 d hv (kk ho H locs ls hP hS hl)
theorem z_bipush (F : zF K cc own ret) {n : Int} {v : Int32} (d : decode cc pc = .ok (.bipush n, 2)) (hv : (Int8.ofInt n).toInt32 = v) (kk : ZO K t (pc + 2) lv (.int v :: st) σ o) : ZO K t pc lv st σ o := by
  obtain ⟨p, l, e, R, s, m, args, below, meth, c, Q, g, A, nL, nc, ns⟩ := K
  intro ho H locs ls hP hS hl
  exact lv_bipush F.1 F.2.1 d hv (kk ho H locs ls hP hS hl)
theorem z_sipush (F : zF K cc own ret) {n : Int} {v : Int32} (d : decode cc pc = .ok (.sipush n, 3)) (hv : (Int16.ofInt n).toInt32 = v) (kk : ZO K t (pc + 3) lv (.int v :: st) σ o) : ZO K t pc lv st σ o := by
  obtain ⟨p, l, e, R, s, m, args, below, meth, c, Q, g, A, nL, nc, ns⟩ := K
  intro ho H locs ls hP hS hl
  exact lv_sipush F.1 F.2.1 d hv (kk ho H locs ls hP hS hl)
theorem z_iload_n (F : zF K cc own ret) {x : Int32} {k : Fin 4} (d : decode cc pc = .ok (.iload_n k, 1)) (h : lv[(k : Nat)]? = some (some (.int x))) (kk : ZO K t (pc + 1) lv (.int x :: st) σ o) : ZO K t pc lv st σ o := by
  obtain ⟨p, l, e, R, s, m, args, below, meth, c, Q, g, A, nL, nc, ns⟩ := K
  intro ho H locs ls hP hS hl
  exact lv_iload_n F.1 F.2.1 d rfl (hl.2.2.1 _ _ h) (kk ho H locs ls hP hS hl)
theorem z_iload (F : zF K cc own ret) {x : Int32} {i : Nat} (d : decode cc pc = .ok (.iload i, 2)) (h : lv[i]? = some (some (.int x))) (kk : ZO K t (pc + 2) lv (.int x :: st) σ o) : ZO K t pc lv st σ o := by
  obtain ⟨p, l, e, R, s, m, args, below, meth, c, Q, g, A, nL, nc, ns⟩ := K
  intro ho H locs ls hP hS hl
  exact lv_iload F.1 F.2.1 d (hl.2.2.1 _ _ h) (kk ho H locs ls hP hS hl)
theorem z_aload_n (F : zF K cc own ret) {x : Nat} {k : Fin 4} (d : decode cc pc = .ok (.aload_n k, 1)) (h : lv[(k : Nat)]? = some (some (.ref x))) (kk : ZO K t (pc + 1) lv (.ref x :: st) σ o) : ZO K t pc lv st σ o := by
  obtain ⟨p, l, e, R, s, m, args, below, meth, c, Q, g, A, nL, nc, ns⟩ := K
  intro ho H locs ls hP hS hl
  exact lv_aload_n F.1 F.2.1 d rfl (hl.2.2.1 _ _ h) (kk ho H locs ls hP hS hl)
theorem z_aload (F : zF K cc own ret) {x : Nat} {i : Nat} (d : decode cc pc = .ok (.aload i, 2)) (h : lv[i]? = some (some (.ref x))) (kk : ZO K t (pc + 2) lv (.ref x :: st) σ o) : ZO K t pc lv st σ o := by
  obtain ⟨p, l, e, R, s, m, args, below, meth, c, Q, g, A, nL, nc, ns⟩ := K
  intro ho H locs ls hP hS hl
  exact lv_aload F.1 F.2.1 d (hl.2.2.1 _ _ h) (kk ho H locs ls hP hS hl)
theorem z_aload_nN (F : zF K cc own ret) {k : Fin 4} (d : decode cc pc = .ok (.aload_n k, 1)) (h : lv[(k : Nat)]? = some (some .null)) (kk : ZO K t (pc + 1) lv (.null :: st) σ o) : ZO K t pc lv st σ o := by
  obtain ⟨p, l, e, R, s, m, args, below, meth, c, Q, g, A, nL, nc, ns⟩ := K
  intro ho H locs ls hP hS hl
  exact lv_aload_nN F.1 F.2.1 d rfl (hl.2.2.1 _ _ h) (kk ho H locs ls hP hS hl)
theorem z_aloadN (F : zF K cc own ret) {i : Nat} (d : decode cc pc = .ok (.aload i, 2)) (h : lv[i]? = some (some .null)) (kk : ZO K t (pc + 2) lv (.null :: st) σ o) : ZO K t pc lv st σ o := by
  obtain ⟨p, l, e, R, s, m, args, below, meth, c, Q, g, A, nL, nc, ns⟩ := K
  intro ho H locs ls hP hS hl
  exact lv_aloadN F.1 F.2.1 d (hl.2.2.1 _ _ h) (kk ho H locs ls hP hS hl)
theorem z_istore_n (F : zF K cc own ret) {x : Int32} {k : Fin 4} {lv' : List (Option Value)} (d : decode cc pc = .ok (.istore_n k, 1)) (hn : (k : Nat) < lv.length) (hs : lv.set (k : Nat) (some (.int x)) = lv') (kk : ZO K t (pc + 1) lv' st σ o) : ZO K t pc lv (.int x :: st) σ o := by
  obtain ⟨p, l, e, R, s, m, args, below, meth, c, Q, g, A, nL, nc, ns⟩ := K
  intro ho H locs ls hP hS hl
  exact lv_istore_n F.1 F.2.1 d rfl hl.has (by rw [← hl.2.2.2.1]; exact hn) rfl (fun ls' h' => kk ho H locs ls' hP hS (hl.store rfl (by rw [← hl.2.2.2.1]; exact hn) hs h'))
theorem z_istore (F : zF K cc own ret) {x : Int32} {i : Nat} {lv' : List (Option Value)} (d : decode cc pc = .ok (.istore i, 2)) (hn : i < lv.length) (hs : lv.set i (some (.int x)) = lv') (kk : ZO K t (pc + 2) lv' st σ o) : ZO K t pc lv (.int x :: st) σ o := by
  obtain ⟨p, l, e, R, s, m, args, below, meth, c, Q, g, A, nL, nc, ns⟩ := K
  intro ho H locs ls hP hS hl
  exact lv_istore F.1 F.2.1 d hl.has (by rw [← hl.2.2.2.1]; exact hn) rfl (fun ls' h' => kk ho H locs ls' hP hS (hl.store rfl (by rw [← hl.2.2.2.1]; exact hn) hs h'))
theorem z_astore_n (F : zF K cc own ret) {x : Nat} {k : Fin 4} {lv' : List (Option Value)} (d : decode cc pc = .ok (.astore_n k, 1)) (hn : (k : Nat) < lv.length) (hs : lv.set (k : Nat) (some (.ref x)) = lv') (kk : ZO K t (pc + 1) lv' st σ o) : ZO K t pc lv (.ref x :: st) σ o := by
  obtain ⟨p, l, e, R, s, m, args, below, meth, c, Q, g, A, nL, nc, ns⟩ := K
  intro ho H locs ls hP hS hl
  exact lv_astore_n F.1 F.2.1 d rfl hl.has (by rw [← hl.2.2.2.1]; exact hn) rfl (fun ls' h' => kk ho H locs ls' hP hS (hl.store rfl (by rw [← hl.2.2.2.1]; exact hn) hs h'))
theorem z_astore (F : zF K cc own ret) {x : Nat} {i : Nat} {lv' : List (Option Value)} (d : decode cc pc = .ok (.astore i, 2)) (hn : i < lv.length) (hs : lv.set i (some (.ref x)) = lv') (kk : ZO K t (pc + 2) lv' st σ o) : ZO K t pc lv (.ref x :: st) σ o := by
  obtain ⟨p, l, e, R, s, m, args, below, meth, c, Q, g, A, nL, nc, ns⟩ := K
  intro ho H locs ls hP hS hl
  exact lv_astore F.1 F.2.1 d hl.has (by rw [← hl.2.2.2.1]; exact hn) rfl (fun ls' h' => kk ho H locs ls' hP hS (hl.store rfl (by rw [← hl.2.2.2.1]; exact hn) hs h'))
theorem z_iadd (F : zF K cc own ret) {x y : Int32} (d : decode cc pc = .ok (.iadd, 1)) (kk : ZO K t (pc + 1) lv (.int (x + y) :: st) σ o) : ZO K t pc lv (.int y :: .int x :: st) σ o := by
  obtain ⟨p, l, e, R, s, m, args, below, meth, c, Q, g, A, nL, nc, ns⟩ := K
  intro ho H locs ls hP hS hl
  exact lv_iadd F.1 F.2.1 d (kk ho H locs ls hP hS hl)
theorem z_isub (F : zF K cc own ret) {x y : Int32} (d : decode cc pc = .ok (.isub, 1)) (kk : ZO K t (pc + 1) lv (.int (x - y) :: st) σ o) : ZO K t pc lv (.int y :: .int x :: st) σ o := by
  obtain ⟨p, l, e, R, s, m, args, below, meth, c, Q, g, A, nL, nc, ns⟩ := K
  intro ho H locs ls hP hS hl
  exact lv_isub F.1 F.2.1 d (kk ho H locs ls hP hS hl)
theorem z_imul (F : zF K cc own ret) {x y : Int32} (d : decode cc pc = .ok (.imul, 1)) (kk : ZO K t (pc + 1) lv (.int (x * y) :: st) σ o) : ZO K t pc lv (.int y :: .int x :: st) σ o := by
  obtain ⟨p, l, e, R, s, m, args, below, meth, c, Q, g, A, nL, nc, ns⟩ := K
  intro ho H locs ls hP hS hl
  exact lv_imul F.1 F.2.1 d (kk ho H locs ls hP hS hl)
theorem z_iand (F : zF K cc own ret) {x y : Int32} (d : decode cc pc = .ok (.iand, 1)) (kk : ZO K t (pc + 1) lv (.int (x &&& y) :: st) σ o) : ZO K t pc lv (.int y :: .int x :: st) σ o := by
  obtain ⟨p, l, e, R, s, m, args, below, meth, c, Q, g, A, nL, nc, ns⟩ := K
  intro ho H locs ls hP hS hl
  exact lv_iand F.1 F.2.1 d (kk ho H locs ls hP hS hl)
theorem z_ior (F : zF K cc own ret) {x y : Int32} (d : decode cc pc = .ok (.ior, 1)) (kk : ZO K t (pc + 1) lv (.int (x ||| y) :: st) σ o) : ZO K t pc lv (.int y :: .int x :: st) σ o := by
  obtain ⟨p, l, e, R, s, m, args, below, meth, c, Q, g, A, nL, nc, ns⟩ := K
  intro ho H locs ls hP hS hl
  exact lv_ior F.1 F.2.1 d (kk ho H locs ls hP hS hl)
theorem z_ixor (F : zF K cc own ret) {x y : Int32} (d : decode cc pc = .ok (.ixor, 1)) (kk : ZO K t (pc + 1) lv (.int (x ^^^ y) :: st) σ o) : ZO K t pc lv (.int y :: .int x :: st) σ o := by
  obtain ⟨p, l, e, R, s, m, args, below, meth, c, Q, g, A, nL, nc, ns⟩ := K
  intro ho H locs ls hP hS hl
  exact lv_ixor F.1 F.2.1 d (kk ho H locs ls hP hS hl)
theorem z_ishl (F : zF K cc own ret) {x y : Int32} (d : decode cc pc = .ok (.ishl, 1)) (kk : ZO K t (pc + 1) lv (.int (x <<< (y &&& 31)) :: st) σ o) : ZO K t pc lv (.int y :: .int x :: st) σ o := by
  obtain ⟨p, l, e, R, s, m, args, below, meth, c, Q, g, A, nL, nc, ns⟩ := K
  intro ho H locs ls hP hS hl
  exact lv_ishl F.1 F.2.1 d (kk ho H locs ls hP hS hl)
theorem z_ishr (F : zF K cc own ret) {x y : Int32} (d : decode cc pc = .ok (.ishr, 1)) (kk : ZO K t (pc + 1) lv (.int (x >>> (y &&& 31)) :: st) σ o) : ZO K t pc lv (.int y :: .int x :: st) σ o := by
  obtain ⟨p, l, e, R, s, m, args, below, meth, c, Q, g, A, nL, nc, ns⟩ := K
  intro ho H locs ls hP hS hl
  exact lv_ishr F.1 F.2.1 d (kk ho H locs ls hP hS hl)
theorem z_iushr (F : zF K cc own ret) {x y : Int32} (d : decode cc pc = .ok (.iushr, 1)) (kk : ZO K t (pc + 1) lv (.int ((x.toUInt32 >>> (y.toUInt32 &&& Int32.toUInt32 31)).toInt32) :: st) σ o) : ZO K t pc lv (.int y :: .int x :: st) σ o := by
  obtain ⟨p, l, e, R, s, m, args, below, meth, c, Q, g, A, nL, nc, ns⟩ := K
  intro ho H locs ls hP hS hl
  exact lv_iushr F.1 F.2.1 d rfl (kk ho H locs ls hP hS hl)
theorem z_idiv (F : zF K cc own ret) {x y : Int32} (hne : ¬ y = 0) (d : decode cc pc = .ok (.idiv, 1)) (kk : ZO K t (pc + 1) lv (.int (x / y) :: st) σ o) : ZO K t pc lv (.int y :: .int x :: st) σ o := by
  obtain ⟨p, l, e, R, s, m, args, below, meth, c, Q, g, A, nL, nc, ns⟩ := K
  intro ho H locs ls hP hS hl
  exact lv_idiv F.1 F.2.1 d hne (kk ho H locs ls hP hS hl)
theorem z_irem (F : zF K cc own ret) {x y : Int32} (hne : ¬ y = 0) (d : decode cc pc = .ok (.irem, 1)) (kk : ZO K t (pc + 1) lv (.int (x - x / y * y) :: st) σ o) : ZO K t pc lv (.int y :: .int x :: st) σ o := by
  obtain ⟨p, l, e, R, s, m, args, below, meth, c, Q, g, A, nL, nc, ns⟩ := K
  intro ho H locs ls hP hS hl
  exact lv_irem F.1 F.2.1 d hne (kk ho H locs ls hP hS hl)
theorem z_ineg (F : zF K cc own ret) {x : Int32} (d : decode cc pc = .ok (.ineg, 1)) (kk : ZO K t (pc + 1) lv (.int (-x) :: st) σ o) : ZO K t pc lv (.int x :: st) σ o := by
  obtain ⟨p, l, e, R, s, m, args, below, meth, c, Q, g, A, nL, nc, ns⟩ := K
  intro ho H locs ls hP hS hl
  exact lv_ineg F.1 F.2.1 d (kk ho H locs ls hP hS hl)
theorem z_dup (F : zF K cc own ret) {v : Value} (d : decode cc pc = .ok (.dup, 1)) (hc : v.category = 1) (kk : ZO K t (pc + 1) lv (v :: v :: st) σ o) : ZO K t pc lv (v :: st) σ o := by
  obtain ⟨p, l, e, R, s, m, args, below, meth, c, Q, g, A, nL, nc, ns⟩ := K
  intro ho H locs ls hP hS hl
  exact lv_dup F.1 F.2.1 d hc (kk ho H locs ls hP hS hl)
theorem z_pop (F : zF K cc own ret) {v : Value} (d : decode cc pc = .ok (.pop, 1)) (hc : v.category = 1) (kk : ZO K t (pc + 1) lv st σ o) : ZO K t pc lv (v :: st) σ o := by
  obtain ⟨p, l, e, R, s, m, args, below, meth, c, Q, g, A, nL, nc, ns⟩ := K
  intro ho H locs ls hP hS hl
  exact lv_pop F.1 F.2.1 d hc (kk ho H locs ls hP hS hl)
theorem z_dup2 (F : zF K cc own ret) {v w : Value} (d : decode cc pc = .ok (.dup2, 1)) (hc : v.category = 1) (hd : w.category = 1) (kk : ZO K t (pc + 1) lv (v :: w :: v :: w :: st) σ o) : ZO K t pc lv (v :: w :: st) σ o := by
  obtain ⟨p, l, e, R, s, m, args, below, meth, c, Q, g, A, nL, nc, ns⟩ := K
  intro ho H locs ls hP hS hl
  exact lv_dup2_11 F.1 F.2.1 d hc hd (kk ho H locs ls hP hS hl)
theorem z_goto (F : zF K cc own ret) {off : Int} (tgt : Nat) (d : decode cc pc = .ok (.goto off, 3)) (ht : (pc : Int) + off = (tgt : Int)) (kk : ZO K t tgt lv st σ o) : ZO K t pc lv st σ o := by
  obtain ⟨p, l, e, R, s, m, args, below, meth, c, Q, g, A, nL, nc, ns⟩ := K
  intro ho H locs ls hP hS hl
  exact lv_goto F.1 F.2.1 d ht (kk ho H locs ls hP hS hl)
theorem z_null (F : zF K cc own ret) (d : decode cc pc = .ok (.aconst_null, 1)) (kk : ZO K t (pc + 1) lv (.null :: st) σ o) : ZO K t pc lv st σ o := by
  obtain ⟨p, l, e, R, s, m, args, below, meth, c, Q, g, A, nL, nc, ns⟩ := K
  intro ho H locs ls hP hS hl
  exact lv_null F.1 F.2.1 d (kk ho H locs ls hP hS hl)
theorem z_ifnullN (F : zF K cc own ret) {off : Int} (tgt : Nat) (d : decode cc pc = .ok (.ifnull off, 3)) (ht : (pc : Int) + off = (tgt : Int)) (kk : ZO K t tgt lv st σ o) : ZO K t pc lv (.null :: st) σ o := by
  obtain ⟨p, l, e, R, s, m, args, below, meth, c, Q, g, A, nL, nc, ns⟩ := K
  intro ho H locs ls hP hS hl
  exact lv_ifnullN F.1 F.2.1 d ht (kk ho H locs ls hP hS hl)
theorem z_ifnonnullN (F : zF K cc own ret) {off : Int} (d : decode cc pc = .ok (.ifnonnull off, 3)) (kk : ZO K t (pc + 3) lv st σ o) : ZO K t pc lv (.null :: st) σ o := by
  obtain ⟨p, l, e, R, s, m, args, below, meth, c, Q, g, A, nL, nc, ns⟩ := K
  intro ho H locs ls hP hS hl
  exact lv_ifnonnullN F.1 F.2.1 d (kk ho H locs ls hP hS hl)
theorem z_ifnull (F : zF K cc own ret) {x : Nat} {off : Int} (d : decode cc pc = .ok (.ifnull off, 3)) (kk : ZO K t (pc + 3) lv st σ o) : ZO K t pc lv (.ref x :: st) σ o := by
  obtain ⟨p, l, e, R, s, m, args, below, meth, c, Q, g, A, nL, nc, ns⟩ := K
  intro ho H locs ls hP hS hl
  exact lv_ifnull F.1 F.2.1 d (kk ho H locs ls hP hS hl)
theorem z_ifnonnull (F : zF K cc own ret) {x : Nat} {off : Int} (tgt : Nat) (d : decode cc pc = .ok (.ifnonnull off, 3)) (ht : (pc : Int) + off = (tgt : Int)) (kk : ZO K t tgt lv st σ o) : ZO K t pc lv (.ref x :: st) σ o := by
  obtain ⟨p, l, e, R, s, m, args, below, meth, c, Q, g, A, nL, nc, ns⟩ := K
  intro ho H locs ls hP hS hl
  exact lv_ifnonnull F.1 F.2.1 d ht (kk ho H locs ls hP hS hl)
theorem z_iinc (F : zF K cc own ret) {i : Nat} {n : Int} {x : Int32} (v : Int32) {lv' : List (Option Value)} (d : decode cc pc = .ok (.iinc i n, 3)) (h : lv[i]? = some (some (.int x))) (hv : x + Int32.ofInt n = v) (hs : lv.set i (some (.int v)) = lv') (kk : ZO K t (pc + 3) lv' st σ o) : ZO K t pc lv st σ o := by
  obtain ⟨p, l, e, R, s, m, args, below, meth, c, Q, g, A, nL, nc, ns⟩ := K
  intro ho H locs ls hP hS hl
  obtain ⟨q, hq⟩ := List.getElem?_of_mem (zPr_mem.mpr h)
  have hn : i < nL := by rw [← hl.2.2.2.1]; exact (List.getElem?_eq_some_iff.mp h).1
  exact lv_iinc F.1 F.2.1 d hl.has hq hv hn rfl (fun ls' h' => kk ho H locs ls' hP hS (hl.store rfl hn hs h'))
theorem z_if_eq (F : zF K cc own ret) {x : Int32} {off : Int} (tgt : Nat) (d : decode cc pc = .ok (.ifCond .eq off, 3)) (ht : (pc : Int) + off = (tgt : Int)) (kt : x = 0 → ZO K t tgt lv st σ o1) (kf : ¬ x = 0 → ZO K t (pc + 3) lv st σ o2) : ZO K t pc lv (.int x :: st) σ (if x = 0 then o1 else o2) := by
  obtain ⟨p, l, e, R, s, m, args, below, meth, c, Q, g, A, nL, nc, ns⟩ := K
  intro ho H locs ls hP hS hl
  exact lv_if_eq F.1 F.2.1 d ht (fun h => kt h (by rw [if_pos h] at ho; exact ho) H locs ls hP hS hl) (fun h => kf h (by rw [if_neg h] at ho; exact ho) H locs ls hP hS hl)
theorem z_if_lt (F : zF K cc own ret) {x : Int32} {off : Int} (tgt : Nat) (d : decode cc pc = .ok (.ifCond .lt off, 3)) (ht : (pc : Int) + off = (tgt : Int)) (kt : x < 0 → ZO K t tgt lv st σ o1) (kf : ¬ x < 0 → ZO K t (pc + 3) lv st σ o2) : ZO K t pc lv (.int x :: st) σ (if x < 0 then o1 else o2) := by
  obtain ⟨p, l, e, R, s, m, args, below, meth, c, Q, g, A, nL, nc, ns⟩ := K
  intro ho H locs ls hP hS hl
  exact lv_if_lt F.1 F.2.1 d ht (fun h => kt h (by rw [if_pos h] at ho; exact ho) H locs ls hP hS hl) (fun h => kf h (by rw [if_neg h] at ho; exact ho) H locs ls hP hS hl)
theorem z_if_ge (F : zF K cc own ret) {x : Int32} {off : Int} (tgt : Nat) (d : decode cc pc = .ok (.ifCond .ge off, 3)) (ht : (pc : Int) + off = (tgt : Int)) (kt : 0 ≤ x → ZO K t tgt lv st σ o1) (kf : ¬ 0 ≤ x → ZO K t (pc + 3) lv st σ o2) : ZO K t pc lv (.int x :: st) σ (if 0 ≤ x then o1 else o2) := by
  obtain ⟨p, l, e, R, s, m, args, below, meth, c, Q, g, A, nL, nc, ns⟩ := K
  intro ho H locs ls hP hS hl
  exact lv_if_ge F.1 F.2.1 d ht (fun h => kt h (by rw [if_pos h] at ho; exact ho) H locs ls hP hS hl) (fun h => kf h (by rw [if_neg h] at ho; exact ho) H locs ls hP hS hl)
theorem z_if_gt (F : zF K cc own ret) {x : Int32} {off : Int} (tgt : Nat) (d : decode cc pc = .ok (.ifCond .gt off, 3)) (ht : (pc : Int) + off = (tgt : Int)) (kt : 0 < x → ZO K t tgt lv st σ o1) (kf : ¬ 0 < x → ZO K t (pc + 3) lv st σ o2) : ZO K t pc lv (.int x :: st) σ (if 0 < x then o1 else o2) := by
  obtain ⟨p, l, e, R, s, m, args, below, meth, c, Q, g, A, nL, nc, ns⟩ := K
  intro ho H locs ls hP hS hl
  exact lv_if_gt F.1 F.2.1 d ht (fun h => kt h (by rw [if_pos h] at ho; exact ho) H locs ls hP hS hl) (fun h => kf h (by rw [if_neg h] at ho; exact ho) H locs ls hP hS hl)
theorem z_if_le (F : zF K cc own ret) {x : Int32} {off : Int} (tgt : Nat) (d : decode cc pc = .ok (.ifCond .le off, 3)) (ht : (pc : Int) + off = (tgt : Int)) (kt : x ≤ 0 → ZO K t tgt lv st σ o1) (kf : ¬ x ≤ 0 → ZO K t (pc + 3) lv st σ o2) : ZO K t pc lv (.int x :: st) σ (if x ≤ 0 then o1 else o2) := by
  obtain ⟨p, l, e, R, s, m, args, below, meth, c, Q, g, A, nL, nc, ns⟩ := K
  intro ho H locs ls hP hS hl
  exact lv_if_le F.1 F.2.1 d ht (fun h => kt h (by rw [if_pos h] at ho; exact ho) H locs ls hP hS hl) (fun h => kf h (by rw [if_neg h] at ho; exact ho) H locs ls hP hS hl)
theorem z_if_ne (F : zF K cc own ret) {x : Int32} {off : Int} (tgt : Nat) (d : decode cc pc = .ok (.ifCond .ne off, 3)) (ht : (pc : Int) + off = (tgt : Int)) (kt : ¬ x = 0 → ZO K t tgt lv st σ o1) (kf : x = 0 → ZO K t (pc + 3) lv st σ o2) : ZO K t pc lv (.int x :: st) σ (if x = 0 then o2 else o1) := by
  obtain ⟨p, l, e, R, s, m, args, below, meth, c, Q, g, A, nL, nc, ns⟩ := K
  intro ho H locs ls hP hS hl
  exact lv_if_ne F.1 F.2.1 d ht (fun h => kt h (by rw [if_neg h] at ho; exact ho) H locs ls hP hS hl) (fun h => kf h (by rw [if_pos h] at ho; exact ho) H locs ls hP hS hl)
theorem z_icmp_eq (F : zF K cc own ret) {x y : Int32} {off : Int} (tgt : Nat) (d : decode cc pc = .ok (.if_icmp .eq off, 3)) (ht : (pc : Int) + off = (tgt : Int)) (kt : x = y → ZO K t tgt lv st σ o1) (kf : ¬ x = y → ZO K t (pc + 3) lv st σ o2) : ZO K t pc lv (.int y :: .int x :: st) σ (if x = y then o1 else o2) := by
  obtain ⟨p, l, e, R, s, m, args, below, meth, c, Q, g, A, nL, nc, ns⟩ := K
  intro ho H locs ls hP hS hl
  exact lv_icmp_eq F.1 F.2.1 d ht (fun h => kt h (by rw [if_pos h] at ho; exact ho) H locs ls hP hS hl) (fun h => kf h (by rw [if_neg h] at ho; exact ho) H locs ls hP hS hl)
theorem z_icmp_lt (F : zF K cc own ret) {x y : Int32} {off : Int} (tgt : Nat) (d : decode cc pc = .ok (.if_icmp .lt off, 3)) (ht : (pc : Int) + off = (tgt : Int)) (kt : x < y → ZO K t tgt lv st σ o1) (kf : ¬ x < y → ZO K t (pc + 3) lv st σ o2) : ZO K t pc lv (.int y :: .int x :: st) σ (if x < y then o1 else o2) := by
  obtain ⟨p, l, e, R, s, m, args, below, meth, c, Q, g, A, nL, nc, ns⟩ := K
  intro ho H locs ls hP hS hl
  exact lv_icmp_lt F.1 F.2.1 d ht (fun h => kt h (by rw [if_pos h] at ho; exact ho) H locs ls hP hS hl) (fun h => kf h (by rw [if_neg h] at ho; exact ho) H locs ls hP hS hl)
theorem z_icmp_ge (F : zF K cc own ret) {x y : Int32} {off : Int} (tgt : Nat) (d : decode cc pc = .ok (.if_icmp .ge off, 3)) (ht : (pc : Int) + off = (tgt : Int)) (kt : y ≤ x → ZO K t tgt lv st σ o1) (kf : ¬ y ≤ x → ZO K t (pc + 3) lv st σ o2) : ZO K t pc lv (.int y :: .int x :: st) σ (if y ≤ x then o1 else o2) := by
  obtain ⟨p, l, e, R, s, m, args, below, meth, c, Q, g, A, nL, nc, ns⟩ := K
  intro ho H locs ls hP hS hl
  exact lv_icmp_ge F.1 F.2.1 d ht (fun h => kt h (by rw [if_pos h] at ho; exact ho) H locs ls hP hS hl) (fun h => kf h (by rw [if_neg h] at ho; exact ho) H locs ls hP hS hl)
theorem z_icmp_gt (F : zF K cc own ret) {x y : Int32} {off : Int} (tgt : Nat) (d : decode cc pc = .ok (.if_icmp .gt off, 3)) (ht : (pc : Int) + off = (tgt : Int)) (kt : y < x → ZO K t tgt lv st σ o1) (kf : ¬ y < x → ZO K t (pc + 3) lv st σ o2) : ZO K t pc lv (.int y :: .int x :: st) σ (if y < x then o1 else o2) := by
  obtain ⟨p, l, e, R, s, m, args, below, meth, c, Q, g, A, nL, nc, ns⟩ := K
  intro ho H locs ls hP hS hl
  exact lv_icmp_gt F.1 F.2.1 d ht (fun h => kt h (by rw [if_pos h] at ho; exact ho) H locs ls hP hS hl) (fun h => kf h (by rw [if_neg h] at ho; exact ho) H locs ls hP hS hl)
theorem z_icmp_le (F : zF K cc own ret) {x y : Int32} {off : Int} (tgt : Nat) (d : decode cc pc = .ok (.if_icmp .le off, 3)) (ht : (pc : Int) + off = (tgt : Int)) (kt : x ≤ y → ZO K t tgt lv st σ o1) (kf : ¬ x ≤ y → ZO K t (pc + 3) lv st σ o2) : ZO K t pc lv (.int y :: .int x :: st) σ (if x ≤ y then o1 else o2) := by
  obtain ⟨p, l, e, R, s, m, args, below, meth, c, Q, g, A, nL, nc, ns⟩ := K
  intro ho H locs ls hP hS hl
  exact lv_icmp_le F.1 F.2.1 d ht (fun h => kt h (by rw [if_pos h] at ho; exact ho) H locs ls hP hS hl) (fun h => kf h (by rw [if_neg h] at ho; exact ho) H locs ls hP hS hl)
theorem z_icmp_ne (F : zF K cc own ret) {x y : Int32} {off : Int} (tgt : Nat) (d : decode cc pc = .ok (.if_icmp .ne off, 3)) (ht : (pc : Int) + off = (tgt : Int)) (kt : ¬ x = y → ZO K t tgt lv st σ o1) (kf : x = y → ZO K t (pc + 3) lv st σ o2) : ZO K t pc lv (.int y :: .int x :: st) σ (if x = y then o2 else o1) := by
  obtain ⟨p, l, e, R, s, m, args, below, meth, c, Q, g, A, nL, nc, ns⟩ := K
  intro ho H locs ls hP hS hl
  exact lv_icmp_ne F.1 F.2.1 d ht (fun h => kt h (by rw [if_neg h] at ho; exact ho) H locs ls hP hS hl) (fun h => kf h (by rw [if_pos h] at ho; exact ho) H locs ls hP hS hl)
theorem z_tabIn (F : zF K cc own ret) {dflt lo hi : Int} {offs : Array Int} {len : Nat} {x : Int32} {off : Int} (tgt : Nat) (d : decode cc pc = .ok (.tableswitch dflt lo hi offs, len)) (h1 : ¬ x.toInt < lo) (h2 : ¬ hi < x.toInt) (h3 : offs[(x.toInt - lo).toNat]? = some off) (ht : (pc : Int) + off = (tgt : Int)) (kk : ZO K t tgt lv st σ o) : ZO K t pc lv (.int x :: st) σ o := by
  obtain ⟨p, l, e, R, s, m, args, below, meth, c, Q, g, A, nL, nc, ns⟩ := K
  intro ho H locs ls hP hS hl
  exact lv_tableIn F.1 F.2.1 d h1 h2 h3 ht (kk ho H locs ls hP hS hl)
theorem z_tabOut (F : zF K cc own ret) {dflt lo hi : Int} {offs : Array Int} {len : Nat} {x : Int32} (tgt : Nat) (d : decode cc pc = .ok (.tableswitch dflt lo hi offs, len)) (h : x.toInt < lo ∨ hi < x.toInt) (ht : (pc : Int) + dflt = (tgt : Int)) (kk : ZO K t tgt lv st σ o) : ZO K t pc lv (.int x :: st) σ o := by
  obtain ⟨p, l, e, R, s, m, args, below, meth, c, Q, g, A, nL, nc, ns⟩ := K
  intro ho H locs ls hP hS hl
  exact lv_tableOut F.1 F.2.1 d h ht (kk ho H locs ls hP hS hl)
theorem z_ldci (F : zF K cc own ret) {index : Nat} {v : Int32} (hw : Cond.constant own index v ∈ zT) (d : decode cc pc = .ok (.ldc index, 2)) (kk : ZO K t (pc + 2) lv (.int v :: st) σ o) : ZO K t pc lv st σ o := by
  obtain ⟨p, l, e, R, s, m, args, below, meth, c, Q, g, A, nL, nc, ns⟩ := K
  intro ho H locs ls hP hS hl
  exact lv_ldc F.1 F.2.1 F.2.2.2.1 (F.2.2.2.2.1 _ hw) d (kk ho H locs ls hP hS hl)
/-! cells -/
theorem z_get (F : zF K cc own ret) (k i fk : Nat) {ci : Nat} {fs : zG → List Value} {C : String} {T : u_T} {N index : Nat} {v : Value} (hi : i < zLim k) (hc : ∀ g, zC g (σ k i) k i = .inr (ci, fs g)) (hcl : vwCl[ci]? = some (C, T, N)) (hk : fk < N) (hin : ∀ w ∈ u_ws C T N, w ∈ zT) (hl : Cond.fieldLink own index (T fk).1 (T fk).2.1 (T fk).2.2.1 ∈ zT) (hv : (fs (K.2.2.2.2.2.2.2.2.2.2.2.1))[fk]? = some v) (d : decode cc pc = .ok (.getfield index, 3)) (kk : ZO K t (pc + 3) lv (v :: st) σ o) : ZO K t pc lv (.ref (zad K k i) :: st) σ o := by
  obtain ⟨p, l, e, R, s, m, args, below, meth, c, Q, g, A, nL, nc, ns⟩ := K
  intro ho H locs ls hP hS hl2
  obtain ⟨q, -, hq⟩ := zW_at (g := g) (σ := σ) hi
  rw [hc g] at hq
  exact va_get F.1 F.2.1 F.2.2.2.2.1 hin F.2.2.2.1 F.2.2.2.2.2.1.1 hP q hq hcl fk hk (F.2.2.2.2.1 _ hl) (fun _ h9 => h9) hv d (kk ho H locs ls hP hS hl2)
theorem z_getN (F : zF K cc own ret) (k i fk : Nat) {host : String} {ci : Nat} {fs : zG → List Value} {C : String} {T : u_T} {N index : Nat} {v : Value} (hi : i < zLim k) (hc : ∀ g, zC g (σ k i) k i = .inr (ci, fs g)) (hcl : vwCl[ci]? = some (C, T, N)) (hk : fk < N) (hin : ∀ w ∈ u_ws C T N, w ∈ zT) (hl : Cond.fieldLinkNest own index (T fk).1 (T fk).2.1 (T fk).2.2.1 host ∈ zNest) (hv : (fs (K.2.2.2.2.2.2.2.2.2.2.2.1))[fk]? = some v) (d : decode cc pc = .ok (.getfield index, 3)) (kk : ZO K t (pc + 3) lv (v :: st) σ o) : ZO K t pc lv (.ref (zad K k i) :: st) σ o := by
  obtain ⟨p, l, e, R, s, m, args, below, meth, c, Q, g, A, nL, nc, ns⟩ := K
  intro ho H locs ls hP hS hl2
  obtain ⟨q, -, hq⟩ := zW_at (g := g) (σ := σ) hi
  rw [hc g] at hq
  exact va_getN F.1 F.2.1 F.2.2.2.2.1 hin F.2.2.2.1 F.2.2.2.2.2.1.1 hP q hq hcl fk hk (va_Nw.use rfl (F.2.2.2.2.2.1.2 _ hl)) (fun _ h9 => h9) hv d (kk ho H locs ls hP hS hl2)
theorem z_put (F : zF K cc own ret) (k i fk : Nat) {ci : Nat} {fs : zG → List Value} {C : String} {T : u_T} {N index : Nat} {x : Int32} {ok : zS → Option α} (ty0 : Nat → FieldType) (hty : ∀ k, k < N → parseFieldDescriptor (T k).2.2.1 = some (ty0 k)) (hnm : ∀ a, a < N → ∀ b, b < N → a ≠ b → (T a).2.1 ≠ (T b).2.1) (hi : i < zLim k) (hc : ∀ g, zC g (σ k i) k i = .inr (ci, fs g)) (hcl : vwCl[ci]? = some (C, T, N)) (hk : fk < N) (hin : ∀ w ∈ u_ws C T N, w ∈ zT) (hl : Cond.fieldLink own index (T fk).1 (T fk).2.1 (T fk).2.2.1 ∈ zT) (hfin : (T fk).2.2.2 = false) (hd : parseFieldDescriptor (T fk).2.2.1 = some .int) (hfl : ∀ g, fk < (fs g).length) (hc2 : ∀ g, zC g (upd (σ k i) fk x) k i = .inr (ci, (fs g).set fk (.int x))) (d : decode cc pc = .ok (.putfield index, 3)) (kk : ∀ σ1, ZO K t (pc + 3) lv st σ1 (ok σ1)) : ZO K t pc lv (.int x :: .ref (zad K k i) :: st) σ (zB (zU σ k i fk x) ok) := by
  obtain ⟨p, l, e, R, s, m, args, below, meth, c, Q, g, A, nL, nc, ns⟩ := K
  intro ho H locs ls hP hS hl2
  obtain ⟨q, hq0, hq⟩ := zW_at (g := g) (σ := σ) hi
  rw [hc g] at hq
  refine va_put F.1 F.2.1 F.2.2.2.2.1 hin ty0 hty hnm F.2.2.2.1 F.2.2.2.2.2.1.1 hP (zD_any F.2.2.2.2.2.2.1) hS q hq hcl fk hk (F.2.2.2.2.1 _ hl) (fun _ h9 => h9) hfin hd rfl rfl (hfl g) d (fun H1 locs1 hP1 _ hS1 => ?_)
  rw [zW_set (σ' := zU σ k i fk x) hq0 (by rw [zU_at]; exact hc2 g) zU_ne] at hP1
  exact kk _ ho H1 locs1 ls hP1 hS1 hl2
theorem z_putN (F : zF K cc own ret) (k i fk : Nat) {host : String} {ci : Nat} {fs : zG → List Value} {C : String} {T : u_T} {N index : Nat} {x : Int32} {ok : zS → Option α} (ty0 : Nat → FieldType) (hty : ∀ k, k < N → parseFieldDescriptor (T k).2.2.1 = some (ty0 k)) (hnm : ∀ a, a < N → ∀ b, b < N → a ≠ b → (T a).2.1 ≠ (T b).2.1) (hi : i < zLim k) (hc : ∀ g, zC g (σ k i) k i = .inr (ci, fs g)) (hcl : vwCl[ci]? = some (C, T, N)) (hk : fk < N) (hin : ∀ w ∈ u_ws C T N, w ∈ zT) (hl : Cond.fieldLinkNest own index (T fk).1 (T fk).2.1 (T fk).2.2.1 host ∈ zNest) (hfin : (T fk).2.2.2 = false) (hd : parseFieldDescriptor (T fk).2.2.1 = some .int) (hfl : ∀ g, fk < (fs g).length) (hc2 : ∀ g, zC g (upd (σ k i) fk x) k i = .inr (ci, (fs g).set fk (.int x))) (d : decode cc pc = .ok (.putfield index, 3)) (kk : ∀ σ1, ZO K t (pc + 3) lv st σ1 (ok σ1)) : ZO K t pc lv (.int x :: .ref (zad K k i) :: st) σ (zB (zU σ k i fk x) ok) := by
  obtain ⟨p, l, e, R, s, m, args, below, meth, c, Q, g, A, nL, nc, ns⟩ := K
  intro ho H locs ls hP hS hl2
  obtain ⟨q, hq0, hq⟩ := zW_at (g := g) (σ := σ) hi
  rw [hc g] at hq
  refine va_putN F.1 F.2.1 F.2.2.2.2.1 hin ty0 hty hnm F.2.2.2.1 F.2.2.2.2.2.1.1 hP (zD_any F.2.2.2.2.2.2.1) hS q hq hcl fk hk (va_Nw.use rfl (F.2.2.2.2.2.1.2 _ hl)) (fun _ h9 => h9) hfin hd rfl rfl (hfl g) d (fun H1 locs1 hP1 _ hS1 => ?_)
  rw [zW_set (σ' := zU σ k i fk x) hq0 (by rw [zU_at]; exact hc2 g) zU_ne] at hP1
  exact kk _ ho H1 locs1 ls hP1 hS1 hl2
theorem z_iald (F : zF K cc own ret) (k i : Nat) {n : Nat} {j : Int32} (hi : i < zLim k) (hc : ∀ g, zC g (σ k i) k i = .inl (g.2.1 0, n, .inl (σ k i))) (hj : vp_in j n) (d : decode cc pc = .ok (.iaload, 1)) (kk : ZO K t (pc + 1) lv (.int (σ k i j.toNatClampNeg) :: st) σ o) : ZO K t pc lv (.int j :: .ref (zad K k i) :: st) σ o := by
  obtain ⟨p, l, e, R, s, m, args, below, meth, c, Q, g, A, nL, nc, ns⟩ := K
  intro ho H locs ls hP hS hl2
  obtain ⟨q, hq0, hq⟩ := zW_at (g := g) (σ := σ) hi
  rw [hc g] at hq
  exact va_iald F.1 F.2.1 F.2.2.2.2.2.1.1 hP q 0 hq rfl hj d (kk ho H locs ls hP hS hl2)
theorem z_zald (F : zF K cc own ret) (k i : Nat) {n : Nat} {j : Int32} (hi : i < zLim k) (hc : ∀ g, zC g (σ k i) k i = .inl (g.2.1 1, n, .inl (σ k i))) (hj : vp_in j n) (d : decode cc pc = .ok (.baload, 1)) (kk : ZO K t (pc + 1) lv (.int (σ k i j.toNatClampNeg) :: st) σ o) : ZO K t pc lv (.int j :: .ref (zad K k i) :: st) σ o := by
  obtain ⟨p, l, e, R, s, m, args, below, meth, c, Q, g, A, nL, nc, ns⟩ := K
  intro ho H locs ls hP hS hl2
  obtain ⟨q, hq0, hq⟩ := zW_at (g := g) (σ := σ) hi
  rw [hc g] at hq
  exact va_zald F.1 F.2.1 F.2.2.2.2.2.1.1 hP q 1 hq rfl hj d (kk ho H locs ls hP hS hl2)
theorem z_iast (F : zF K cc own ret) (k i : Nat) {n : Nat} {j x : Int32} {ok : zS → Option α} (hi : i < zLim k) (hc : ∀ g (f : Nat → Int32), zC g f k i = .inl (g.2.1 0, n, .inl f)) (hj : vp_in j n) (d : decode cc pc = .ok (.iastore, 1)) (kk : ∀ σ1, ZO K t (pc + 1) lv st σ1 (ok σ1)) : ZO K t pc lv (.int x :: .int j :: .ref (zad K k i) :: st) σ (zB (zU σ k i j.toNatClampNeg x) ok) := by
  obtain ⟨p, l, e, R, s, m, args, below, meth, c, Q, g, A, nL, nc, ns⟩ := K
  intro ho H locs ls hP hS hl2
  obtain ⟨q, hq0, hq⟩ := zW_at (g := g) (σ := σ) hi
  rw [hc g] at hq
  refine va_iast F.1 F.2.1 F.2.2.2.2.2.1.1 hP (zD_any F.2.2.2.2.2.2.1) hS q 0 hq rfl hj d (fun H1 locs1 hP1 _ hS1 => ?_)
  rw [zW_set (σ' := zU σ k i j.toNatClampNeg x) hq0 (by rw [zU_at]; exact hc g _) zU_ne] at hP1
  exact kk _ ho H1 locs1 ls hP1 hS1 hl2
theorem z_zast (F : zF K cc own ret) (k i : Nat) {n : Nat} {j x : Int32} {ok : zS → Option α} (hi : i < zLim k) (hc : ∀ g (f : Nat → Int32), zC g f k i = .inl (g.2.1 1, n, .inl f)) (hj : vp_in j n) (d : decode cc pc = .ok (.bastore, 1)) (kk : ∀ σ1, ZO K t (pc + 1) lv st σ1 (ok σ1)) : ZO K t pc lv (.int x :: .int j :: .ref (zad K k i) :: st) σ (zB (zU σ k i j.toNatClampNeg (vp_nar .boolean x)) ok) := by
  obtain ⟨p, l, e, R, s, m, args, below, meth, c, Q, g, A, nL, nc, ns⟩ := K
  intro ho H locs ls hP hS hl2
  obtain ⟨q, hq0, hq⟩ := zW_at (g := g) (σ := σ) hi
  rw [hc g] at hq
  refine va_zast F.1 F.2.1 F.2.2.2.2.2.1.1 hP (zD_any F.2.2.2.2.2.2.1) hS q 1 hq rfl hj d (fun H1 locs1 hP1 _ hS1 => ?_)
  rw [zW_set (σ' := zU σ k i j.toNatClampNeg (vp_nar .boolean x)) hq0 (by rw [zU_at]; exact hc g _) zU_ne] at hP1
  exact kk _ ho H1 locs1 ls hP1 hS1 hl2
theorem z_alen (F : zF K cc own ret) (k i : Nat) {n : Nat} {v : Int32} (hi : i < zLim k) (hc : ∀ g, zC g (σ k i) k i = .inl (g.2.1 0, n, .inl (σ k i))) (hv : Int32.ofNat n = v) (d : decode cc pc = .ok (.arraylength, 1)) (kk : ZO K t (pc + 1) lv (.int v :: st) σ o) : ZO K t pc lv (.ref (zad K k i) :: st) σ o := by
  obtain ⟨p, l, e, R, s, m, args, below, meth, c, Q, g, A, nL, nc, ns⟩ := K
  intro ho H locs ls hP hS hl2
  obtain ⟨q, hq0, hq⟩ := zW_at (g := g) (σ := σ) hi
  rw [hc g] at hq
  exact va_alen F.1 F.2.1 F.2.2.2.2.2.1.1 hP q 0 hq rfl hv d (kk ho H locs ls hP hS hl2)
/-- a row of references: kind k to kind k2 -/
theorem z_aald (F : zF K cc own ret) (k i k2 i2 tt : Nat) {n : Nat} {ty : FieldType} {j : Int32} {f : zG → Nat → Option Nat} (hi : i < zLim k) (hc : ∀ g, zC g (σ k i) k i = .inl (g.2.1 tt, n, .inr (.inr (.inr (.inr (f g)))))) (ht : ∀ g, (zTys g)[tt]? = some (g.2.1 tt, ty)) (hr : ty.isReference = true) (hj : vp_in j n) (hf : ∀ g : zG, f g j.toNatClampNeg = some (g.1 k2 i2)) (d : decode cc pc = .ok (.aaload, 1)) (kk : ZO K t (pc + 1) lv (.ref (zad K k2 i2) :: st) σ o) : ZO K t pc lv (.int j :: .ref (zad K k i) :: st) σ o := by
  obtain ⟨p, l, e, R, s, m, args, below, meth, c, Q, g, A, nL, nc, ns⟩ := K
  intro ho H locs ls hP hS hl2
  obtain ⟨q, hq0, hq⟩ := zW_at (g := g) (σ := σ) hi
  rw [hc g] at hq
  have hlt : j.toNatClampNeg < n := Nat.not_le.mp fun q => hj (Or.inr q)
  have k1 := kk ho H locs ls hP hS hl2
  exact W.aald (v := va_rf (f g j.toNatClampNeg)) (ty := ty) F.1 F.2.1 (hP q _ hq) ((F.2.2.2.2.2.1.1.2 tt _ (ht g)).1 n (fun j => va_rf (f g j))) hr (fun q => by cases q) (by show ¬ (j < 0 ∨ (arrV _ _ _).slots.size ≤ _); rw [arrV_size]; exact hj) (by show (arrV _ _ _).slots[_]? = _; rw [arrV_read _ _ hlt]) rfl rfl d (by rw [hf g]; exact k1)
/-- slots[j] = a generation -/
theorem z_slot (F : zF K cc own ret) {j : Int32} {g2 : Nat} {ok : zS → Option α} (hg : g2 < 3) (hj : vp_in j 3) (d : decode cc pc = .ok (.aastore, 1)) (kk : ∀ σ1, ZO K t (pc + 1) lv st σ1 (ok σ1)) : ZO K t pc lv (.ref (zad K 13 g2) :: .int j :: .ref (zad K 11 0) :: st) σ (zB (zU σ 11 0 j.toNatClampNeg (nI g2)) ok) := by
  obtain ⟨p, l, e, R, s, m, args, below, meth, c, Q, g, A, nL, nc, ns⟩ := K
  intro ho H locs ls hP hS hl2
  obtain ⟨q, hq0, hq⟩ := zW_at (g := g) (σ := σ) (k := 11) (i := 0) (by decide)
  obtain ⟨q2, hq20, hq2⟩ := zW_at (g := g) (σ := σ) (k := 13) (i := g2) (by show g2 < 3; exact hg)
  refine va_astq F.1 F.2.1 F.2.2.2.2.2.1.1 hP (zD_any F.2.2.2.2.2.2.1) hS q 2 q2 1 hq rfl hq2 rfl hj d (fun H1 locs1 hP1 _ hS1 => ?_)
  rw [zW_set (σ' := zU σ 11 0 j.toNatClampNeg (nI g2)) hq0 (by
    rw [zU_at]
    show Sum.inl (_, _, Sum.inr (Sum.inr (Sum.inr (Sum.inr _)))) = Sum.inl (_, _, Sum.inr (Sum.inr (Sum.inr (Sum.inr _))))
    refine congrArg (fun z : Nat → Option Nat => (Sum.inl (g.2.1 2, 3, Sum.inr (Sum.inr (Sum.inr (Sum.inr z)))) : va_E)) ?_
    funext a
    unfold va_up upd
    by_cases ha : a = j.toNatClampNeg
    · rw [if_pos ha, if_pos ha, nI_clamp (by omega), Nat.mod_eq_of_lt hg]
    · rw [if_neg ha, if_neg ha]) zU_ne] at hP1
  exact kk _ ho H1 locs1 ls hP1 hS1 hl2
end ZR

