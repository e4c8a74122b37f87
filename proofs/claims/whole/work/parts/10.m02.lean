def fX2_carry (n1 : Nat) (n2 : Nat) (a3 : Int32) (σ : zS) : Option (Int32 × zS) := zCv (fX3_mixInto n1 60 a3 σ) (fun s1 => zCi (fX3_take n2 60 s1) (fun x3 s2 => zGd (x3 = 0 ∨ x3 = 1) (some (x3, s2))))
abbrev rmX2_carry : Room := { frames := 5, cells := 0, slots := 0, locals := 116 }
set_option maxRecDepth 100000 in
set_option maxHeartbeats 4000000 in
theorem tX2_carry (l : Launch) (σ : zS) (n1 : Nat) (n2 : Nat) (a3 : Int32) (h_n1 : n1 < 12) (h_n2 : n2 < 12) : zMi l yX2_carry cX2_carry 4 (some .boolean) rmX2_carry (fun ad => [.ref (ad 10 0), .ref (ad 15 n1), .ref (ad 15 n2), .int a3]) σ (fX2_carry n1 n2 a3 σ) := by
  refine zMi.of RX2 (by decide +kernel) rfl (fun _ => Nat.le_of_ble_eq_true rfl) (fun _ => zcat rfl) (fun K t F hR hL E => ?_)
  show ZO K t 0 [some (.ref (zad K 10 0)), some (.ref (zad K 15 n1)), some (.ref (zad K 15 n2)), some (.int a3)] [] σ (zCv (fX3_mixInto n1 60 a3 σ) (fun s1 => zCi (fX3_take n2 60 s1) (fun x3 s2 => zGd (x3 = 0 ∨ x3 = 1) (some (x3, s2)))))
  refine z_aload_n (pc := 0) F dX2_carry_0 rfl ?_
  refine z_aload_n (pc := 1) F dX2_carry_1 rfl ?_
  refine z_get (pc := 2) F 10 0 2 (v := .ref (zad K 18 60)) (by decide) (fun _ => rfl) rfl (by decide) inlX2 lk_RX2_17 rfl dX2_carry_2 ?_
  refine z_aload_n (pc := 5) F dX2_carry_5 rfl ?_
  refine z_get (pc := 6) F 10 0 1 (v := .ref (zad K 9 0)) (by decide) (fun _ => rfl) rfl (by decide) inlX2 lk_RX2_25 rfl dX2_carry_6 ?_
  refine z_iload_n (pc := 9) F dX2_carry_9 rfl ?_
  refine z_callNv (pc := 10) (st := []) F 15 n1 [.ref (zad K 18 60), .ref (zad K 9 0), .int a3] cl_RX2_67 (tX3_mixInto (zln K) σ n1 60 a3 h_n1 (by decide)) rfl h_n1 (fun _ => ⟨_, rfl⟩) rfl (by rw [hR]; exact ⟨rfl, rfl, Nat.le_of_ble_eq_true rfl, Nat.le_of_ble_eq_true rfl⟩) rfl rfl (Nat.le_of_ble_eq_true rfl) dX2_carry_10 (fun s1 => ?_)
  refine z_aload_n (pc := 13) F dX2_carry_13 rfl ?_
  refine z_aload_n (pc := 14) F dX2_carry_14 rfl ?_
  refine z_get (pc := 15) F 10 0 2 (v := .ref (zad K 18 60)) (by decide) (fun _ => rfl) rfl (by decide) inlX2 lk_RX2_17 rfl dX2_carry_15 ?_
  refine z_aload_n (pc := 18) F dX2_carry_18 rfl ?_
  refine z_get (pc := 19) F 10 0 1 (v := .ref (zad K 9 0)) (by decide) (fun _ => rfl) rfl (by decide) inlX2 lk_RX2_25 rfl dX2_carry_19 ?_
  refine z_callNi (pc := 22) (st := []) F 15 n2 [.ref (zad K 18 60), .ref (zad K 9 0)] cl_RX2_55 (tX3_take (zln K) s1 n2 60 h_n2 (by decide)) rfl h_n2 (fun _ => ⟨_, rfl⟩) rfl (by rw [hR]; exact ⟨rfl, rfl, Nat.le_of_ble_eq_true rfl, Nat.le_of_ble_eq_true rfl⟩) rfl rfl (Nat.le_of_ble_eq_true rfl) dX2_carry_22 (fun x3 s2 => ?_)
  refine z_gd (fun h4 => ?_)
  exact z_zret (pc := 25) F E (zNarB h4) dX2_carry_25
def fX2_countMixes_4 (a1 : Int32) (k4_1 : Int32 → zS → Option (Int32 × zS)) : Nat → Int32 → Int32 → zS → Option (Int32 × zS)
  | 0, _, _, _ => none
  | (n4_1 + 1), v2_4_1, v3_4_1, w4_1 => if a1 ≤ v3_4_1 then k4_1 v2_4_1 w4_1 else if (5 : Int32) ≤ v3_4_1 then k4_1 v2_4_1 w4_1 else zB (v2_4_1 * (w4_1 9 0 0)) (fun x2 => zB (v3_4_1 + 1) (fun x3 => fX2_countMixes_4 a1 k4_1 n4_1 x2 x3 w4_1))
def fX2_countMixes (a1 : Int32) (σ : zS) : Option (Int32 × zS) := fX2_countMixes_4 a1 (fun (u2_4_1 : Int32) (y4_1 : zS) => (some (u2_4_1, y4_1) : Option (Int32 × zS))) zN (1 : Int32) (0 : Int32) σ
abbrev rmX2_countMixes : Room := { frames := 0, cells := 0, slots := 0, locals := 0 }
set_option maxRecDepth 100000 in
set_option maxHeartbeats 4000000 in
theorem tX2_countMixes (l : Launch) (σ : zS) (a1 : Int32) : zMi l yX2_countMixes cX2_countMixes 4 (some .int) rmX2_countMixes (fun ad => [.ref (ad 10 0), .int a1]) σ (fX2_countMixes a1 σ) := by
  refine zMi.of RX2 (by decide +kernel) rfl (fun _ => Nat.le_of_ble_eq_true rfl) (fun _ => zcat rfl) (fun K t F hR hL E => ?_)
  show ZO K t 0 [some (.ref (zad K 10 0)), some (.int a1), none, none] [] σ (fX2_countMixes_4 a1 (fun (u2_4_1 : Int32) (y4_1 : zS) => (some (u2_4_1, y4_1) : Option (Int32 × zS))) zN (1 : Int32) (0 : Int32) σ)
  refine z_iconst (pc := 0) F (v := 1) dX2_countMixes_0 (by decide) ?_
  refine z_istore_n (pc := 1) F (lv' := [some (.ref (zad K 10 0)), some (.int a1), some (.int (1 : Int32)), none]) dX2_countMixes_1 (zlt rfl) rfl ?_
  refine z_iconst (pc := 2) F (v := 0) dX2_countMixes_2 (by decide) ?_
  refine z_istore_n (pc := 3) F (lv' := [some (.ref (zad K 10 0)), some (.int a1), some (.int (1 : Int32)), some (.int (0 : Int32))]) dX2_countMixes_3 (zlt rfl) rfl ?_
  have hk4_1 : ∀ (u2_4_1 : Int32) (y4_1 : zS), ZO K t 30 [none, none, some (.int u2_4_1), none] [] y4_1 ((fun (u2_4_1 : Int32) (y4_1 : zS) => (some (u2_4_1, y4_1) : Option (Int32 × zS))) u2_4_1 y4_1) := by
    intro u2_4_1 y4_1
    show ZO K t 30 [none, none, some (.int u2_4_1), none] [] y4_1 (some (u2_4_1, y4_1))
    refine z_iload_n (pc := 30) F dX2_countMixes_30 rfl ?_
    exact z_iret (pc := 31) F E dX2_countMixes_31
  have L4_1 : ∀ (n4_1 : Nat) (v2_4_1 : Int32) (v3_4_1 : Int32) (w4_1 : zS), ZO K t 4 [some (.ref (zad K 10 0)), some (.int a1), some (.int v2_4_1), some (.int v3_4_1)] [] w4_1 (fX2_countMixes_4 a1 (fun (u2_4_1 : Int32) (y4_1 : zS) => (some (u2_4_1, y4_1) : Option (Int32 × zS))) n4_1 v2_4_1 v3_4_1 w4_1) := by
    revert hk4_1; generalize (fun (u2_4_1 : Int32) (y4_1 : zS) => (some (u2_4_1, y4_1) : Option (Int32 × zS))) = k4_1; intro hk4_1
    intro n4_1
    induction n4_1 with
    | zero => intro v2_4_1 v3_4_1 w4_1; exact z_none
    | succ n4_1 ih4_1 =>
      intro v2_4_1 v3_4_1 w4_1
      show ZO K t 4 [some (.ref (zad K 10 0)), some (.int a1), some (.int v2_4_1), some (.int v3_4_1)] [] w4_1 (if a1 ≤ v3_4_1 then k4_1 v2_4_1 w4_1 else if (5 : Int32) ≤ v3_4_1 then k4_1 v2_4_1 w4_1 else zB (v2_4_1 * (w4_1 9 0 0)) (fun x2 => zB (v3_4_1 + 1) (fun x3 => fX2_countMixes_4 a1 k4_1 n4_1 x2 x3 w4_1)))
      refine z_iload_n (pc := 4) F dX2_countMixes_4 rfl ?_
      refine z_iload_n (pc := 5) F dX2_countMixes_5 rfl ?_
      refine z_icmp_ge (pc := 6) F 30 dX2_countMixes_6 (by decide) (fun h5 => ?_) (fun h5 => ?_)
      · refine z_wk [false, false, true, false] (lv' := [none, none, some (.int v2_4_1), none]) rfl ?_
        exact hk4_1 v2_4_1 w4_1
      · refine z_iload_n (pc := 9) F dX2_countMixes_9 rfl ?_
        refine z_iconst (pc := 10) F (v := 5) dX2_countMixes_10 (by decide) ?_
        refine z_icmp_ge (pc := 11) F 30 dX2_countMixes_11 (by decide) (fun h4 => ?_) (fun h4 => ?_)
        · refine z_wk [false, false, true, false] (lv' := [none, none, some (.int v2_4_1), none]) rfl ?_
          exact hk4_1 v2_4_1 w4_1
        · refine z_iload_n (pc := 14) F dX2_countMixes_14 rfl ?_
          refine z_aload_n (pc := 15) F dX2_countMixes_15 rfl ?_
          refine z_get (pc := 16) F 10 0 1 (v := .ref (zad K 9 0)) (by decide) (fun _ => rfl) rfl (by decide) inlX2 lk_RX2_25 rfl dX2_countMixes_16 ?_
          refine z_getN (pc := 19) F 9 0 0 (v := .int (w4_1 9 0 0)) (by decide) (fun _ => rfl) rfl (by decide) inlX0 lk_RX2_82 rfl dX2_countMixes_19 ?_
          refine z_imul (pc := 22) F dX2_countMixes_22 ?_
          refine z_Bi (fun x2 => ?_)
          refine z_istore_n (pc := 23) F (lv' := [some (.ref (zad K 10 0)), some (.int a1), some (.int x2), some (.int v3_4_1)]) dX2_countMixes_23 (zlt rfl) rfl ?_
          refine z_iincB (pc := 24) F (lv' := fun x3 => [some (.ref (zad K 10 0)), some (.int a1), some (.int x2), some (.int x3)]) dX2_countMixes_24 rfl rfl (fun _ => rfl) (fun x3 => ?_)
          refine z_goto (pc := 27) F 4 dX2_countMixes_27 (by decide) ?_
          exact ih4_1 x2 x3 w4_1
  exact L4_1 zN (1 : Int32) (0 : Int32) σ
def fX2_find_2 (a1 : Int32) (k2_1 : zS → Option (Option Nat × zS)) : Nat → Int32 → zS → Option (Option Nat × zS)
  | 0, _, _ => none
  | (n2_1 + 1), v2_2_1, w2_1 => if (w2_1 10 0 4) ≤ v2_2_1 then k2_1 w2_1 else zIx v2_2_1 3 (zB ((w2_1 11 0 v2_2_1.toNatClampNeg).toNatClampNeg % 3) (fun i3 => zGd (i3 < 3) (if (w2_1 13 i3 1) = a1 then zIx v2_2_1 3 (zB ((w2_1 11 0 v2_2_1.toNatClampNeg).toNatClampNeg % 3) (fun i7 => zGd (i7 < 3) (some (some i7, w2_1)))) else zB (v2_2_1 + 1) (fun x5 => fX2_find_2 a1 k2_1 n2_1 x5 w2_1))))
def fX2_find (a1 : Int32) (σ : zS) : Option (Option Nat × zS) := fX2_find_2 a1 (fun (y2_1 : zS) => (some (none, y2_1) : Option (Option Nat × zS))) zN (0 : Int32) σ
abbrev rmX2_find : Room := { frames := 0, cells := 0, slots := 0, locals := 0 }
set_option maxRecDepth 100000 in
set_option maxHeartbeats 4000000 in
theorem tX2_find (l : Launch) (σ : zS) (a1 : Int32) : zMq 13 l yX2_find cX2_find 3 (some (.object "AddedLetters$Generation")) rmX2_find (fun ad => [.ref (ad 10 0), .int a1]) σ (fX2_find a1 σ) := by
  refine zMq.of RX2 (by decide +kernel) rfl (fun _ => Nat.le_of_ble_eq_true rfl) (fun _ => zcat rfl) (fun K t F hR hL E => ?_)
  show ZO K t 0 [some (.ref (zad K 10 0)), some (.int a1), none] [] σ (fX2_find_2 a1 (fun (y2_1 : zS) => (some (none, y2_1) : Option (Option Nat × zS))) zN (0 : Int32) σ)
  refine z_iconst (pc := 0) F (v := 0) dX2_find_0 (by decide) ?_
  refine z_istore_n (pc := 1) F (lv' := [some (.ref (zad K 10 0)), some (.int a1), some (.int (0 : Int32))]) dX2_find_1 (zlt rfl) rfl ?_
  have hk2_1 : ∀ (y2_1 : zS), ZO K t 36 [none, none, none] [] y2_1 ((fun (y2_1 : zS) => (some (none, y2_1) : Option (Option Nat × zS))) y2_1) := by
    intro y2_1
    show ZO K t 36 [none, none, none] [] y2_1 (some (none, y2_1))
    refine z_null (pc := 36) F dX2_find_36 ?_
    exact z_aretN (pc := 37) F E dX2_find_37
  have L2_1 : ∀ (n2_1 : Nat) (v2_2_1 : Int32) (w2_1 : zS), ZO K t 2 [some (.ref (zad K 10 0)), some (.int a1), some (.int v2_2_1)] [] w2_1 (fX2_find_2 a1 (fun (y2_1 : zS) => (some (none, y2_1) : Option (Option Nat × zS))) n2_1 v2_2_1 w2_1) := by
    revert hk2_1; generalize (fun (y2_1 : zS) => (some (none, y2_1) : Option (Option Nat × zS))) = k2_1; intro hk2_1
    intro n2_1
    induction n2_1 with
    | zero => intro v2_2_1 w2_1; exact z_none
    | succ n2_1 ih2_1 =>
      intro v2_2_1 w2_1
      show ZO K t 2 [some (.ref (zad K 10 0)), some (.int a1), some (.int v2_2_1)] [] w2_1 (if (w2_1 10 0 4) ≤ v2_2_1 then k2_1 w2_1 else zIx v2_2_1 3 (zB ((w2_1 11 0 v2_2_1.toNatClampNeg).toNatClampNeg % 3) (fun i3 => zGd (i3 < 3) (if (w2_1 13 i3 1) = a1 then zIx v2_2_1 3 (zB ((w2_1 11 0 v2_2_1.toNatClampNeg).toNatClampNeg % 3) (fun i7 => zGd (i7 < 3) (some (some i7, w2_1)))) else zB (v2_2_1 + 1) (fun x5 => fX2_find_2 a1 k2_1 n2_1 x5 w2_1)))))
      refine z_iload_n (pc := 2) F dX2_find_2 rfl ?_
      refine z_aload_n (pc := 3) F dX2_find_3 rfl ?_
      refine z_get (pc := 4) F 10 0 4 (v := .int (w2_1 10 0 4)) (by decide) (fun _ => rfl) rfl (by decide) inlX2 lk_RX2_30 rfl dX2_find_4 ?_
      refine z_icmp_ge (pc := 7) F 36 dX2_find_7 (by decide) (fun h10 => ?_) (fun h10 => ?_)
      · refine z_wk [false, false, false] (lv' := [none, none, none]) rfl ?_
        exact hk2_1  w2_1
      · refine z_aload_n (pc := 10) F dX2_find_10 rfl ?_
        refine z_get (pc := 11) F 10 0 0 (v := .ref (zad K 11 0)) (by decide) (fun _ => rfl) rfl (by decide) inlX2 lk_RX2_11 rfl dX2_find_11 ?_
        refine z_iload_n (pc := 14) F dX2_find_14 rfl ?_
        refine z_ix (fun h2 => ?_)
        refine z_aald (pc := 15) F 11 0 13 ((w2_1 11 0 v2_2_1.toNatClampNeg).toNatClampNeg % 3) 2 (by decide) (fun _ => rfl) (fun _ => rfl) rfl h2 (fun _ => rfl) dX2_find_15 ?_
        refine z_Br (fun i3 => ?_)
        refine z_gd (fun h4 => ?_)
        refine z_getN (pc := 16) F 13 i3 1 (v := .int (w2_1 13 i3 1)) h4 (fun _ => rfl) rfl (by decide) inlX1 lk_RX2_37 rfl dX2_find_16 ?_
        refine z_iload_n (pc := 19) F dX2_find_19 rfl ?_
        refine z_icmp_ne (pc := 20) F 30 dX2_find_20 (by decide) (fun h9 => ?_) (fun h9 => ?_)
        · refine z_iincB (pc := 30) F (lv' := fun x5 => [some (.ref (zad K 10 0)), some (.int a1), some (.int x5)]) dX2_find_30 rfl rfl (fun _ => rfl) (fun x5 => ?_)
          refine z_goto (pc := 33) F 2 dX2_find_33 (by decide) ?_
          exact ih2_1 x5 w2_1
        · refine z_aload_n (pc := 23) F dX2_find_23 rfl ?_
          refine z_get (pc := 24) F 10 0 0 (v := .ref (zad K 11 0)) (by decide) (fun _ => rfl) rfl (by decide) inlX2 lk_RX2_11 rfl dX2_find_24 ?_
          refine z_iload_n (pc := 27) F dX2_find_27 rfl ?_
          refine z_ix (fun h6 => ?_)
          refine z_aald (pc := 28) F 11 0 13 ((w2_1 11 0 v2_2_1.toNatClampNeg).toNatClampNeg % 3) 2 (by decide) (fun _ => rfl) (fun _ => rfl) rfl h6 (fun _ => rfl) dX2_find_28 ?_
          refine z_Br (fun i7 => ?_)
          refine z_gd (fun h8 => ?_)
          exact z_aret (pc := 29) (i := i7) F E dX2_find_29
  exact L2_1 zN (0 : Int32) σ
def fX2_forget (σ : zS) : Option (Int32 × zS) := zB (zU σ 10 0 4 (0 : Int32)) (fun s1 => zB (zU s1 10 0 5 (0 : Int32)) (fun s2 => some ((0 : Int32), s2)))
abbrev rmX2_forget : Room := { frames := 0, cells := 0, slots := 0, locals := 0 }
set_option maxRecDepth 100000 in
set_option maxHeartbeats 4000000 in
theorem tX2_forget (l : Launch) (σ : zS) : zMv l yX2_forget cX2_forget 1 none rmX2_forget (fun ad => [.ref (ad 10 0)]) σ (fX2_forget σ) := by
  refine zMv.of RX2 (by decide +kernel) rfl (fun _ => Nat.le_of_ble_eq_true rfl) (fun _ => zcat rfl) (fun K t F hR hL E => ?_)
  show ZO K t 0 [some (.ref (zad K 10 0))] [] σ (zB (zU σ 10 0 4 (0 : Int32)) (fun s1 => zB (zU s1 10 0 5 (0 : Int32)) (fun s2 => some ((0 : Int32), s2))))
  refine z_aload_n (pc := 0) F dX2_forget_0 rfl ?_
  refine z_iconst (pc := 1) F (v := 0) dX2_forget_1 (by decide) ?_
  refine z_put (pc := 2) F 10 0 4 tyX2 tyX2_ok nmX2 (by decide) (fun _ => rfl) rfl (by decide) inlX2 lk_RX2_30 rfl (by decide +kernel) (fun _ => Nat.le_of_ble_eq_true rfl) (fun _ => rfl) dX2_forget_2 (fun s1 => ?_)
  refine z_aload_n (pc := 5) F dX2_forget_5 rfl ?_
  refine z_iconst (pc := 6) F (v := 0) dX2_forget_6 (by decide) ?_
  refine z_put (pc := 7) F 10 0 5 tyX2 tyX2_ok nmX2 (by decide) (fun _ => rfl) rfl (by decide) inlX2 lk_RX2_34 rfl (by decide +kernel) (fun _ => Nat.le_of_ble_eq_true rfl) (fun _ => rfl) dX2_forget_7 (fun s2 => ?_)
  exact z_vret (pc := 10) (x := 0) F E dX2_forget_10
def fX2_leastNew_5 (n1 : Nat) (n2 : Nat) (k5_1 : zS → Option (Int32 × zS)) : Nat → Int32 → Int32 → zS → Option (Int32 × zS)
  | 0, _, _, _ => none
  | (n5_1 + 1), v3_5_1, v4_5_1, w5_1 => if (5 : Int32) ≤ v4_5_1 then k5_1 w5_1 else zIx v4_5_1 5 (if (w5_1 17 n1 v4_5_1.toNatClampNeg) = 0 then zB (v4_5_1 + 1) (fun x3 => fX2_leastNew_5 n1 n2 k5_1 n5_1 v3_5_1 x3 w5_1) else zIx v4_5_1 5 (zB (5 * n1 + v4_5_1.toNatClampNeg) (fun i5 => zGd (i5 < 61) (zCi (fX3_newLead n2 i5 w5_1) (fun x8 s7 => if x8 < 0 then zB (v3_5_1 * (s7 9 0 0)) (fun x9 => zB (v4_5_1 + 1) (fun x10 => fX2_leastNew_5 n1 n2 k5_1 n5_1 x9 x10 s7)) else some (v3_5_1, s7))))))
def fX2_leastNew (n1 : Nat) (n2 : Nat) (σ : zS) : Option (Int32 × zS) := fX2_leastNew_5 n1 n2 (fun (y5_1 : zS) => (some ((-9 : Int32), y5_1) : Option (Int32 × zS))) zN (1 : Int32) (0 : Int32) σ
abbrev rmX2_leastNew : Room := { frames := 4, cells := 0, slots := 0, locals := 91 }
set_option maxRecDepth 100000 in
set_option maxHeartbeats 4000000 in
theorem tX2_leastNew (l : Launch) (σ : zS) (n1 : Nat) (n2 : Nat) (h_n1 : n1 < 12) (h_n2 : n2 < 12) : zMi l yX2_leastNew cX2_leastNew 5 (some .int) rmX2_leastNew (fun ad => [.ref (ad 10 0), .ref (ad 15 n1), .ref (ad 15 n2)]) σ (fX2_leastNew n1 n2 σ) := by
  refine zMi.of RX2 (by decide +kernel) rfl (fun _ => Nat.le_of_ble_eq_true rfl) (fun _ => zcat rfl) (fun K t F hR hL E => ?_)
  show ZO K t 0 [some (.ref (zad K 10 0)), some (.ref (zad K 15 n1)), some (.ref (zad K 15 n2)), none, none] [] σ (fX2_leastNew_5 n1 n2 (fun (y5_1 : zS) => (some ((-9 : Int32), y5_1) : Option (Int32 × zS))) zN (1 : Int32) (0 : Int32) σ)
  refine z_iconst (pc := 0) F (v := 1) dX2_leastNew_0 (by decide) ?_
  refine z_istore_n (pc := 1) F (lv' := [some (.ref (zad K 10 0)), some (.ref (zad K 15 n1)), some (.ref (zad K 15 n2)), some (.int (1 : Int32)), none]) dX2_leastNew_1 (zlt rfl) rfl ?_
  refine z_iconst (pc := 2) F (v := 0) dX2_leastNew_2 (by decide) ?_
  refine z_istore (pc := 3) F (lv' := [some (.ref (zad K 10 0)), some (.ref (zad K 15 n1)), some (.ref (zad K 15 n2)), some (.int (1 : Int32)), some (.int (0 : Int32))]) dX2_leastNew_3 (zlt rfl) rfl ?_
  have hk5_1 : ∀ (y5_1 : zS), ZO K t 57 [none, none, none, none, none] [] y5_1 ((fun (y5_1 : zS) => (some ((-9 : Int32), y5_1) : Option (Int32 × zS))) y5_1) := by
    intro y5_1
    show ZO K t 57 [none, none, none, none, none] [] y5_1 (some ((-9 : Int32), y5_1))
    refine z_bipush (pc := 57) F (v := -9) dX2_leastNew_57 (by decide) ?_
    exact z_iret (pc := 59) F E dX2_leastNew_59
  have L5_1 : ∀ (n5_1 : Nat) (v3_5_1 : Int32) (v4_5_1 : Int32) (w5_1 : zS), ZO K t 5 [some (.ref (zad K 10 0)), some (.ref (zad K 15 n1)), some (.ref (zad K 15 n2)), some (.int v3_5_1), some (.int v4_5_1)] [] w5_1 (fX2_leastNew_5 n1 n2 (fun (y5_1 : zS) => (some ((-9 : Int32), y5_1) : Option (Int32 × zS))) n5_1 v3_5_1 v4_5_1 w5_1) := by
    revert hk5_1; generalize (fun (y5_1 : zS) => (some ((-9 : Int32), y5_1) : Option (Int32 × zS))) = k5_1; intro hk5_1
    intro n5_1
    induction n5_1 with
    | zero => intro v3_5_1 v4_5_1 w5_1; exact z_none
    | succ n5_1 ih5_1 =>
      intro v3_5_1 v4_5_1 w5_1
      show ZO K t 5 [some (.ref (zad K 10 0)), some (.ref (zad K 15 n1)), some (.ref (zad K 15 n2)), some (.int v3_5_1), some (.int v4_5_1)] [] w5_1 (if (5 : Int32) ≤ v4_5_1 then k5_1 w5_1 else zIx v4_5_1 5 (if (w5_1 17 n1 v4_5_1.toNatClampNeg) = 0 then zB (v4_5_1 + 1) (fun x3 => fX2_leastNew_5 n1 n2 k5_1 n5_1 v3_5_1 x3 w5_1) else zIx v4_5_1 5 (zB (5 * n1 + v4_5_1.toNatClampNeg) (fun i5 => zGd (i5 < 61) (zCi (fX3_newLead n2 i5 w5_1) (fun x8 s7 => if x8 < 0 then zB (v3_5_1 * (s7 9 0 0)) (fun x9 => zB (v4_5_1 + 1) (fun x10 => fX2_leastNew_5 n1 n2 k5_1 n5_1 x9 x10 s7)) else some (v3_5_1, s7)))))))
      refine z_iload (pc := 5) F dX2_leastNew_5 rfl ?_
      refine z_iconst (pc := 7) F (v := 5) dX2_leastNew_7 (by decide) ?_
      refine z_icmp_ge (pc := 8) F 57 dX2_leastNew_8 (by decide) (fun h13 => ?_) (fun h13 => ?_)
      · refine z_wk [false, false, false, false, false] (lv' := [none, none, none, none, none]) rfl ?_
        exact hk5_1  w5_1
      · refine z_aload_n (pc := 11) F dX2_leastNew_11 rfl ?_
        refine z_getN (pc := 12) F 15 n1 1 (v := .ref (zad K 17 n1)) h_n1 (fun _ => rfl) rfl (by decide) inlX3 lk_RX2_71 rfl dX2_leastNew_12 ?_
        refine z_iload (pc := 15) F dX2_leastNew_15 rfl ?_
        refine z_ix (fun h2 => ?_)
        refine z_zald (pc := 17) F 17 n1 h_n1 (fun _ => rfl) h2 dX2_leastNew_17 ?_
        refine z_if_eq (pc := 18) F 51 dX2_leastNew_18 (by decide) (fun h12 => ?_) (fun h12 => ?_)
        · refine z_iincB (pc := 51) F (lv' := fun x3 => [some (.ref (zad K 10 0)), some (.ref (zad K 15 n1)), some (.ref (zad K 15 n2)), some (.int v3_5_1), some (.int x3)]) dX2_leastNew_51 rfl rfl (fun _ => rfl) (fun x3 => ?_)
          refine z_goto (pc := 54) F 5 dX2_leastNew_54 (by decide) ?_
          exact ih5_1 v3_5_1 x3 w5_1
        · refine z_aload_n (pc := 21) F dX2_leastNew_21 rfl ?_
          refine z_aload_n (pc := 22) F dX2_leastNew_22 rfl ?_
          refine z_getN (pc := 23) F 15 n1 0 (v := .ref (zad K 16 n1)) h_n1 (fun _ => rfl) rfl (by decide) inlX3 lk_RX2_74 rfl dX2_leastNew_23 ?_
          refine z_iload (pc := 26) F dX2_leastNew_26 rfl ?_
          refine z_ix (fun h4 => ?_)
          refine z_aald (pc := 28) F 16 n1 18 (5 * n1 + v4_5_1.toNatClampNeg) 4 h_n1 (fun _ => rfl) (fun _ => rfl) rfl h4 (fun _ => rfl) dX2_leastNew_28 ?_
          refine z_Br (fun i5 => ?_)
          refine z_gd (fun h6 => ?_)
          refine z_aload_n (pc := 29) F dX2_leastNew_29 rfl ?_
          refine z_get (pc := 30) F 10 0 1 (v := .ref (zad K 9 0)) (by decide) (fun _ => rfl) rfl (by decide) inlX2 lk_RX2_25 rfl dX2_leastNew_30 ?_
          refine z_callNi (pc := 33) (st := []) F 15 n2 [.ref (zad K 18 i5), .ref (zad K 9 0)] cl_RX2_78 (tX3_newLead (zln K) w5_1 n2 i5 h_n2 h6) rfl h_n2 (fun _ => ⟨_, rfl⟩) rfl (by rw [hR]; exact ⟨rfl, rfl, Nat.le_of_ble_eq_true rfl, Nat.le_of_ble_eq_true rfl⟩) rfl rfl (Nat.le_of_ble_eq_true rfl) dX2_leastNew_33 (fun x8 s7 => ?_)
          refine z_if_lt (pc := 36) F 41 dX2_leastNew_36 (by decide) (fun h11 => ?_) (fun h11 => ?_)
          · refine z_iload_n (pc := 41) F dX2_leastNew_41 rfl ?_
            refine z_aload_n (pc := 42) F dX2_leastNew_42 rfl ?_
            refine z_get (pc := 43) F 10 0 1 (v := .ref (zad K 9 0)) (by decide) (fun _ => rfl) rfl (by decide) inlX2 lk_RX2_25 rfl dX2_leastNew_43 ?_
            refine z_getN (pc := 46) F 9 0 0 (v := .int (s7 9 0 0)) (by decide) (fun _ => rfl) rfl (by decide) inlX0 lk_RX2_82 rfl dX2_leastNew_46 ?_
            refine z_imul (pc := 49) F dX2_leastNew_49 ?_
            refine z_Bi (fun x9 => ?_)
            refine z_istore_n (pc := 50) F (lv' := [some (.ref (zad K 10 0)), some (.ref (zad K 15 n1)), some (.ref (zad K 15 n2)), some (.int x9), some (.int v4_5_1)]) dX2_leastNew_50 (zlt rfl) rfl ?_
            refine z_iincB (pc := 51) F (lv' := fun x10 => [some (.ref (zad K 10 0)), some (.ref (zad K 15 n1)), some (.ref (zad K 15 n2)), some (.int x9), some (.int x10)]) dX2_leastNew_51 rfl rfl (fun _ => rfl) (fun x10 => ?_)
            refine z_goto (pc := 54) F 5 dX2_leastNew_54 (by decide) ?_
            exact ih5_1 x9 x10 s7
          · refine z_iload_n (pc := 39) F dX2_leastNew_39 rfl ?_
            exact z_iret (pc := 40) F E dX2_leastNew_40
  exact L5_1 zN (1 : Int32) (0 : Int32) σ
def fX2_raisesAll_2 (n1 : Nat) (k2_1 : zS → Option (Int32 × zS)) : Nat → Int32 → zS → Option (Int32 × zS)
  | 0, _, _ => none
  | (n2_1 + 1), v2_2_1, w2_1 => if (4 : Int32) ≤ v2_2_1 then k2_1 w2_1 else zIx v2_2_1 4 (if (w2_1 12 0 v2_2_1.toNatClampNeg) = 0 then zB (v2_2_1 + 1) (fun x3 => fX2_raisesAll_2 n1 k2_1 n2_1 x3 w2_1) else zIx v2_2_1 4 (zB (4 * n1 + v2_2_1.toNatClampNeg) (fun i5 => zGd (i5 < 12) (zCi (fX3_newLead i5 60 w2_1) (fun x8 s7 => if 0 ≤ x8 then zB (v2_2_1 + 1) (fun x9 => fX2_raisesAll_2 n1 k2_1 n2_1 x9 s7) else some ((0 : Int32), s7))))))
def fX2_raisesAll (n1 : Nat) (σ : zS) : Option (Int32 × zS) := fX2_raisesAll_2 n1 (fun (y2_1 : zS) => (some ((1 : Int32), y2_1) : Option (Int32 × zS))) zN (0 : Int32) σ
abbrev rmX2_raisesAll : Room := { frames := 4, cells := 0, slots := 0, locals := 91 }
set_option maxRecDepth 100000 in
set_option maxHeartbeats 4000000 in
theorem tX2_raisesAll (l : Launch) (σ : zS) (n1 : Nat) (h_n1 : n1 < 3) : zMi l yX2_raisesAll cX2_raisesAll 3 (some .boolean) rmX2_raisesAll (fun ad => [.ref (ad 10 0), .ref (ad 13 n1)]) σ (fX2_raisesAll n1 σ) := by
  refine zMi.of RX2 (by decide +kernel) rfl (fun _ => Nat.le_of_ble_eq_true rfl) (fun _ => zcat rfl) (fun K t F hR hL E => ?_)
  show ZO K t 0 [some (.ref (zad K 10 0)), some (.ref (zad K 13 n1)), none] [] σ (fX2_raisesAll_2 n1 (fun (y2_1 : zS) => (some ((1 : Int32), y2_1) : Option (Int32 × zS))) zN (0 : Int32) σ)
  refine z_iconst (pc := 0) F (v := 0) dX2_raisesAll_0 (by decide) ?_
  refine z_istore_n (pc := 1) F (lv' := [some (.ref (zad K 10 0)), some (.ref (zad K 13 n1)), some (.int (0 : Int32))]) dX2_raisesAll_1 (zlt rfl) rfl ?_
  have hk2_1 : ∀ (y2_1 : zS), ZO K t 44 [none, none, none] [] y2_1 ((fun (y2_1 : zS) => (some ((1 : Int32), y2_1) : Option (Int32 × zS))) y2_1) := by
    intro y2_1
    show ZO K t 44 [none, none, none] [] y2_1 (some ((1 : Int32), y2_1))
    refine z_iconst (pc := 44) F (v := 1) dX2_raisesAll_44 (by decide) ?_
    exact z_zret (pc := 45) F E (by decide) dX2_raisesAll_45
  have L2_1 : ∀ (n2_1 : Nat) (v2_2_1 : Int32) (w2_1 : zS), ZO K t 2 [some (.ref (zad K 10 0)), some (.ref (zad K 13 n1)), some (.int v2_2_1)] [] w2_1 (fX2_raisesAll_2 n1 (fun (y2_1 : zS) => (some ((1 : Int32), y2_1) : Option (Int32 × zS))) n2_1 v2_2_1 w2_1) := by
    revert hk2_1; generalize (fun (y2_1 : zS) => (some ((1 : Int32), y2_1) : Option (Int32 × zS))) = k2_1; intro hk2_1
    intro n2_1
    induction n2_1 with
    | zero => intro v2_2_1 w2_1; exact z_none
    | succ n2_1 ih2_1 =>
      intro v2_2_1 w2_1
      show ZO K t 2 [some (.ref (zad K 10 0)), some (.ref (zad K 13 n1)), some (.int v2_2_1)] [] w2_1 (if (4 : Int32) ≤ v2_2_1 then k2_1 w2_1 else zIx v2_2_1 4 (if (w2_1 12 0 v2_2_1.toNatClampNeg) = 0 then zB (v2_2_1 + 1) (fun x3 => fX2_raisesAll_2 n1 k2_1 n2_1 x3 w2_1) else zIx v2_2_1 4 (zB (4 * n1 + v2_2_1.toNatClampNeg) (fun i5 => zGd (i5 < 12) (zCi (fX3_newLead i5 60 w2_1) (fun x8 s7 => if 0 ≤ x8 then zB (v2_2_1 + 1) (fun x9 => fX2_raisesAll_2 n1 k2_1 n2_1 x9 s7) else some ((0 : Int32), s7)))))))
      refine z_iload_n (pc := 2) F dX2_raisesAll_2 rfl ?_
      refine z_iconst (pc := 3) F (v := 4) dX2_raisesAll_3 (by decide) ?_
      refine z_icmp_ge (pc := 4) F 44 dX2_raisesAll_4 (by decide) (fun h12 => ?_) (fun h12 => ?_)
      · refine z_wk [false, false, false] (lv' := [none, none, none]) rfl ?_
        exact hk2_1  w2_1
      · refine z_aload_n (pc := 7) F dX2_raisesAll_7 rfl ?_
        refine z_get (pc := 8) F 10 0 3 (v := .ref (zad K 12 0)) (by decide) (fun _ => rfl) rfl (by decide) inlX2 lk_RX2_21 rfl dX2_raisesAll_8 ?_
        refine z_iload_n (pc := 11) F dX2_raisesAll_11 rfl ?_
        refine z_ix (fun h2 => ?_)
        refine z_zald (pc := 12) F 12 0 (by decide) (fun _ => rfl) h2 dX2_raisesAll_12 ?_
        refine z_if_eq (pc := 13) F 38 dX2_raisesAll_13 (by decide) (fun h11 => ?_) (fun h11 => ?_)
        · refine z_iincB (pc := 38) F (lv' := fun x3 => [some (.ref (zad K 10 0)), some (.ref (zad K 13 n1)), some (.int x3)]) dX2_raisesAll_38 rfl rfl (fun _ => rfl) (fun x3 => ?_)
          refine z_goto (pc := 41) F 2 dX2_raisesAll_41 (by decide) ?_
          exact ih2_1 x3 w2_1
        · refine z_aload_n (pc := 16) F dX2_raisesAll_16 rfl ?_
          refine z_getN (pc := 17) F 13 n1 0 (v := .ref (zad K 14 n1)) h_n1 (fun _ => rfl) rfl (by decide) inlX1 lk_RX2_44 rfl dX2_raisesAll_17 ?_
          refine z_iload_n (pc := 20) F dX2_raisesAll_20 rfl ?_
          refine z_ix (fun h4 => ?_)
          refine z_aald (pc := 21) F 14 n1 15 (4 * n1 + v2_2_1.toNatClampNeg) 3 h_n1 (fun _ => rfl) (fun _ => rfl) rfl h4 (fun _ => rfl) dX2_raisesAll_21 ?_
          refine z_Br (fun i5 => ?_)
          refine z_gd (fun h6 => ?_)
          refine z_aload_n (pc := 22) F dX2_raisesAll_22 rfl ?_
          refine z_get (pc := 23) F 10 0 2 (v := .ref (zad K 18 60)) (by decide) (fun _ => rfl) rfl (by decide) inlX2 lk_RX2_17 rfl dX2_raisesAll_23 ?_
          refine z_aload_n (pc := 26) F dX2_raisesAll_26 rfl ?_
          refine z_get (pc := 27) F 10 0 1 (v := .ref (zad K 9 0)) (by decide) (fun _ => rfl) rfl (by decide) inlX2 lk_RX2_25 rfl dX2_raisesAll_27 ?_
          refine z_callNi (pc := 30) (st := []) F 15 i5 [.ref (zad K 18 60), .ref (zad K 9 0)] cl_RX2_78 (tX3_newLead (zln K) w2_1 i5 60 h6 (by decide)) rfl h6 (fun _ => ⟨_, rfl⟩) rfl (by rw [hR]; exact ⟨rfl, rfl, Nat.le_of_ble_eq_true rfl, Nat.le_of_ble_eq_true rfl⟩) rfl rfl (Nat.le_of_ble_eq_true rfl) dX2_raisesAll_30 (fun x8 s7 => ?_)
          refine z_if_ge (pc := 33) F 38 dX2_raisesAll_33 (by decide) (fun h10 => ?_) (fun h10 => ?_)
          · refine z_iincB (pc := 38) F (lv' := fun x9 => [some (.ref (zad K 10 0)), some (.ref (zad K 13 n1)), some (.int x9)]) dX2_raisesAll_38 rfl rfl (fun _ => rfl) (fun x9 => ?_)
            refine z_goto (pc := 41) F 2 dX2_raisesAll_41 (by decide) ?_
            exact ih2_1 x9 s7
          · refine z_iconst (pc := 36) F (v := 0) dX2_raisesAll_36 (by decide) ?_
            exact z_zret (pc := 37) F E (by decide) dX2_raisesAll_37
  exact L2_1 zN (0 : Int32) σ
def fJ9_max_7cf53 (a1 : Int32) (a2 : Int32) (σ : zS) : Option (Int32 × zS) := if a1 < a2 then some (a2, σ) else some (a1, σ)
abbrev rmJ9_max_7cf53 : Room := { frames := 0, cells := 0, slots := 0, locals := 0 }
set_option maxRecDepth 100000 in
set_option maxHeartbeats 4000000 in
theorem tJ9_max_7cf53 (l : Launch) (σ : zS) (a1 : Int32) (a2 : Int32) : zMi l yJ9_max_7cf53 cJ9_max_7cf53 2 (some .int) rmJ9_max_7cf53 (fun _ => [.int a1, .int a2]) σ (fJ9_max_7cf53 a1 a2 σ) := by
  refine zMi.of RJ9 (by decide +kernel) rfl (fun _ => Nat.le_of_ble_eq_true rfl) (fun _ => zcat rfl) (fun K t F hR hL E => ?_)
  show ZO K t 0 [some (.int a1), some (.int a2)] [] σ (if a1 < a2 then some (a2, σ) else some (a1, σ))
  refine z_iload_n (pc := 0) F dJ9_max_7cf53_0 rfl ?_
  refine z_iload_n (pc := 1) F dJ9_max_7cf53_1 rfl ?_
  refine z_icmp_lt (pc := 2) F 9 dJ9_max_7cf53_2 (by decide) (fun h1 => ?_) (fun h1 => ?_)
  · refine z_iload_n (pc := 9) F dJ9_max_7cf53_9 rfl ?_
    exact z_iret (pc := 10) F E dJ9_max_7cf53_10
  · refine z_iload_n (pc := 5) F dJ9_max_7cf53_5 rfl ?_
    refine z_goto (pc := 6) F 10 dJ9_max_7cf53_6 (by decide) ?_
    exact z_iret (pc := 10) F E dJ9_max_7cf53_10
def fX2_leastNewForAll_103 (n1 : Nat) (i2 : Nat) (x8 : Int32) (k103_9 : zS → Option (Int32 × zS)) : Nat → Int32 → zS → Option (Int32 × zS)
  | 0, _, _ => none
  | (n103_9 + 1), v6_103_9, w103_9 => if x8 ≤ v6_103_9 then k103_9 w103_9 else zCv (fX3_mixInto i2 60 v6_103_9 w103_9) (fun s10 => zCi (fX2_raisesAll n1 s10) (fun x12 s11 => if x12 = 0 then zB (v6_103_9 + 1) (fun x13 => fX2_leastNewForAll_103 n1 i2 x8 k103_9 n103_9 x13 s11) else some (v6_103_9, s11)))
def fX2_leastNewForAll_14 (n1 : Nat) (a2 : Int32) (i2 : Nat) (k14_4 : Int32 → zS → Option (Int32 × zS)) : Nat → Int32 → Int32 → zS → Option (Int32 × zS)
  | 0, _, _, _ => none
  | (n14_4 + 1), v4_14_4, v5_14_4, w14_4 => if (4 : Int32) ≤ v5_14_4 then k14_4 v4_14_4 w14_4 else if v5_14_4 = a2 then if (-9 : Int32) = (-9 : Int32) then zIx v5_14_4 4 (zB (zU w14_4 12 0 v5_14_4.toNatClampNeg (vp_nar .boolean (0 : Int32))) (fun s34 => zCi (fJ9_max_7cf53 v4_14_4 (-9 : Int32) s34) (fun x36 s35 => zB (v5_14_4 + 1) (fun x37 => fX2_leastNewForAll_14 n1 a2 i2 k14_4 n14_4 x36 x37 s35)))) else zIx v5_14_4 4 (zB (zU w14_4 12 0 v5_14_4.toNatClampNeg (vp_nar .boolean (1 : Int32))) (fun s39 => zCi (fJ9_max_7cf53 v4_14_4 (-9 : Int32) s39) (fun x41 s40 => zB (v5_14_4 + 1) (fun x42 => fX2_leastNewForAll_14 n1 a2 i2 k14_4 n14_4 x41 x42 s40)))) else zIx v5_14_4 4 (zB (4 * n1 + v5_14_4.toNatClampNeg) (fun i18 => zGd (i18 < 12) (zCi (fX2_leastNew i2 i18 w14_4) (fun x21 s20 => if x21 = (-9 : Int32) then zIx v5_14_4 4 (zB (zU s20 12 0 v5_14_4.toNatClampNeg (vp_nar .boolean (0 : Int32))) (fun s23 => zCi (fJ9_max_7cf53 v4_14_4 x21 s23) (fun x25 s24 => zB (v5_14_4 + 1) (fun x26 => fX2_leastNewForAll_14 n1 a2 i2 k14_4 n14_4 x25 x26 s24)))) else zIx v5_14_4 4 (zB (zU s20 12 0 v5_14_4.toNatClampNeg (vp_nar .boolean (1 : Int32))) (fun s28 => zCi (fJ9_max_7cf53 v4_14_4 x21 s28) (fun x30 s29 => zB (v5_14_4 + 1) (fun x31 => fX2_leastNewForAll_14 n1 a2 i2 k14_4 n14_4 x30 x31 s29))))))))
def fX2_leastNewForAll (n1 : Nat) (a2 : Int32) (σ : zS) : Option (Int32 × zS) := zIx a2 4 (zB (4 * n1 + a2.toNatClampNeg) (fun i2 => zGd (i2 < 12) (fX2_leastNewForAll_14 n1 a2 i2 (fun (u4_14_4 : Int32) (y14_4 : zS) => (if u4_14_4 = (-9 : Int32) then some ((-9 : Int32), y14_4) else zCi (fX3_height i2 y14_4) (fun x6 s5 => zCi (fX2_countMixes x6 s5) (fun x8 s7 => fX2_leastNewForAll_103 n1 i2 x8 (fun (y103_9 : zS) => (some ((-9 : Int32), y103_9) : Option (Int32 × zS))) zN u4_14_4 s7)) : Option (Int32 × zS))) zN (-9 : Int32) (0 : Int32) σ)))
abbrev rmX2_leastNewForAll : Room := { frames := 5, cells := 0, slots := 0, locals := 115 }
set_option maxRecDepth 100000 in
set_option maxHeartbeats 4000000 in
theorem tX2_leastNewForAll (l : Launch) (σ : zS) (n1 : Nat) (a2 : Int32) (h_n1 : n1 < 3) : zMi l yX2_leastNewForAll cX2_leastNewForAll 7 (some .int) rmX2_leastNewForAll (fun ad => [.ref (ad 10 0), .ref (ad 13 n1), .int a2]) σ (fX2_leastNewForAll n1 a2 σ) := by
  refine zMi.of RX2 (by decide +kernel) rfl (fun _ => Nat.le_of_ble_eq_true rfl) (fun _ => zcat rfl) (fun K t F hR hL E => ?_)
  show ZO K t 0 [some (.ref (zad K 10 0)), some (.ref (zad K 13 n1)), some (.int a2), none, none, none, none] [] σ (zIx a2 4 (zB (4 * n1 + a2.toNatClampNeg) (fun i2 => zGd (i2 < 12) (fX2_leastNewForAll_14 n1 a2 i2 (fun (u4_14_4 : Int32) (y14_4 : zS) => (if u4_14_4 = (-9 : Int32) then some ((-9 : Int32), y14_4) else zCi (fX3_height i2 y14_4) (fun x6 s5 => zCi (fX2_countMixes x6 s5) (fun x8 s7 => fX2_leastNewForAll_103 n1 i2 x8 (fun (y103_9 : zS) => (some ((-9 : Int32), y103_9) : Option (Int32 × zS))) zN u4_14_4 s7)) : Option (Int32 × zS))) zN (-9 : Int32) (0 : Int32) σ))))
  refine z_aload_n (pc := 0) F dX2_leastNewForAll_0 rfl ?_
  refine z_getN (pc := 1) F 13 n1 0 (v := .ref (zad K 14 n1)) h_n1 (fun _ => rfl) rfl (by decide) inlX1 lk_RX2_44 rfl dX2_leastNewForAll_1 ?_
  refine z_iload_n (pc := 4) F dX2_leastNewForAll_4 rfl ?_
  refine z_ix (fun h1 => ?_)
  refine z_aald (pc := 5) F 14 n1 15 (4 * n1 + a2.toNatClampNeg) 3 h_n1 (fun _ => rfl) (fun _ => rfl) rfl h1 (fun _ => rfl) dX2_leastNewForAll_5 ?_
  refine z_Br (fun i2 => ?_)
  refine z_gd (fun h3 => ?_)
  refine z_astore_n (pc := 6) F (lv' := [some (.ref (zad K 10 0)), some (.ref (zad K 13 n1)), some (.int a2), some (.ref (zad K 15 i2)), none, none, none]) dX2_leastNewForAll_6 (zlt rfl) rfl ?_
  refine z_bipush (pc := 7) F (v := -9) dX2_leastNewForAll_7 (by decide) ?_
  refine z_istore (pc := 9) F (lv' := [some (.ref (zad K 10 0)), some (.ref (zad K 13 n1)), some (.int a2), some (.ref (zad K 15 i2)), some (.int (-9 : Int32)), none, none]) dX2_leastNewForAll_9 (zlt rfl) rfl ?_
  refine z_iconst (pc := 11) F (v := 0) dX2_leastNewForAll_11 (by decide) ?_
  refine z_istore (pc := 12) F (lv' := [some (.ref (zad K 10 0)), some (.ref (zad K 13 n1)), some (.int a2), some (.ref (zad K 15 i2)), some (.int (-9 : Int32)), some (.int (0 : Int32)), none]) dX2_leastNewForAll_12 (zlt rfl) rfl ?_
  have hk14_4 : ∀ (u4_14_4 : Int32) (y14_4 : zS), ZO K t 79 [some (.ref (zad K 10 0)), some (.ref (zad K 13 n1)), none, some (.ref (zad K 15 i2)), some (.int u4_14_4), none, none] [] y14_4 ((fun (u4_14_4 : Int32) (y14_4 : zS) => (if u4_14_4 = (-9 : Int32) then some ((-9 : Int32), y14_4) else zCi (fX3_height i2 y14_4) (fun x6 s5 => zCi (fX2_countMixes x6 s5) (fun x8 s7 => fX2_leastNewForAll_103 n1 i2 x8 (fun (y103_9 : zS) => (some ((-9 : Int32), y103_9) : Option (Int32 × zS))) zN u4_14_4 s7)) : Option (Int32 × zS))) u4_14_4 y14_4) := by
    intro u4_14_4 y14_4
    show ZO K t 79 [some (.ref (zad K 10 0)), some (.ref (zad K 13 n1)), none, some (.ref (zad K 15 i2)), some (.int u4_14_4), none, none] [] y14_4 (if u4_14_4 = (-9 : Int32) then some ((-9 : Int32), y14_4) else zCi (fX3_height i2 y14_4) (fun x6 s5 => zCi (fX2_countMixes x6 s5) (fun x8 s7 => fX2_leastNewForAll_103 n1 i2 x8 (fun (y103_9 : zS) => (some ((-9 : Int32), y103_9) : Option (Int32 × zS))) zN u4_14_4 s7)))
    refine z_iload (pc := 79) F dX2_leastNewForAll_79 rfl ?_
    refine z_bipush (pc := 81) F (v := -9) dX2_leastNewForAll_81 (by decide) ?_
    refine z_icmp_ne (pc := 83) F 89 dX2_leastNewForAll_83 (by decide) (fun h16 => ?_) (fun h16 => ?_)
    · refine z_aload_n (pc := 89) F dX2_leastNewForAll_89 rfl ?_
      refine z_aload_n (pc := 90) F dX2_leastNewForAll_90 rfl ?_
      refine z_callNi (pc := 91) (st := [.ref (zad K 10 0)]) F 15 i2 [] cl_RX2_95 (tX3_height (zln K) y14_4 i2 h3) rfl h3 (fun _ => ⟨_, rfl⟩) rfl (by rw [hR]; exact ⟨rfl, rfl, Nat.le_of_ble_eq_true rfl, Nat.le_of_ble_eq_true rfl⟩) rfl rfl (Nat.le_of_ble_eq_true rfl) dX2_leastNewForAll_91 (fun x6 s5 => ?_)
      refine z_callVi (pc := 94) (st := []) F 10 0 [.int x6] cl_RX2_99 (tX2_countMixes (zln K) s5 x6) rfl (by decide) (fun _ => ⟨_, rfl⟩) rfl (by rw [hR]; exact ⟨rfl, rfl, Nat.le_of_ble_eq_true rfl, Nat.le_of_ble_eq_true rfl⟩) rfl rfl (Nat.le_of_ble_eq_true rfl) dX2_leastNewForAll_94 (fun x8 s7 => ?_)
      refine z_istore (pc := 97) F (lv' := [some (.ref (zad K 10 0)), some (.ref (zad K 13 n1)), none, some (.ref (zad K 15 i2)), some (.int u4_14_4), some (.int x8), none]) dX2_leastNewForAll_97 (zlt rfl) rfl ?_
      refine z_iload (pc := 99) F dX2_leastNewForAll_99 rfl ?_
      refine z_istore (pc := 101) F (lv' := [some (.ref (zad K 10 0)), some (.ref (zad K 13 n1)), none, some (.ref (zad K 15 i2)), some (.int u4_14_4), some (.int x8), some (.int u4_14_4)]) dX2_leastNewForAll_101 (zlt rfl) rfl ?_
      refine z_wk [true, true, true, true, false, true, true] (lv' := [some (.ref (zad K 10 0)), some (.ref (zad K 13 n1)), none, some (.ref (zad K 15 i2)), none, some (.int x8), some (.int u4_14_4)]) rfl ?_
      have hk103_9 : ∀ (y103_9 : zS), ZO K t 141 [none, none, none, none, none, none, none] [] y103_9 ((fun (y103_9 : zS) => (some ((-9 : Int32), y103_9) : Option (Int32 × zS))) y103_9) := by
        intro y103_9
        show ZO K t 141 [none, none, none, none, none, none, none] [] y103_9 (some ((-9 : Int32), y103_9))
        refine z_bipush (pc := 141) F (v := -9) dX2_leastNewForAll_141 (by decide) ?_
        exact z_iret (pc := 143) F E dX2_leastNewForAll_143
      have L103_9 : ∀ (n103_9 : Nat) (v6_103_9 : Int32) (w103_9 : zS), ZO K t 103 [some (.ref (zad K 10 0)), some (.ref (zad K 13 n1)), none, some (.ref (zad K 15 i2)), none, some (.int x8), some (.int v6_103_9)] [] w103_9 (fX2_leastNewForAll_103 n1 i2 x8 (fun (y103_9 : zS) => (some ((-9 : Int32), y103_9) : Option (Int32 × zS))) n103_9 v6_103_9 w103_9) := by
        revert hk103_9; generalize (fun (y103_9 : zS) => (some ((-9 : Int32), y103_9) : Option (Int32 × zS))) = k103_9; intro hk103_9
        intro n103_9
        induction n103_9 with
        | zero => intro v6_103_9 w103_9; exact z_none
        | succ n103_9 ih103_9 =>
          intro v6_103_9 w103_9
          show ZO K t 103 [some (.ref (zad K 10 0)), some (.ref (zad K 13 n1)), none, some (.ref (zad K 15 i2)), none, some (.int x8), some (.int v6_103_9)] [] w103_9 (if x8 ≤ v6_103_9 then k103_9 w103_9 else zCv (fX3_mixInto i2 60 v6_103_9 w103_9) (fun s10 => zCi (fX2_raisesAll n1 s10) (fun x12 s11 => if x12 = 0 then zB (v6_103_9 + 1) (fun x13 => fX2_leastNewForAll_103 n1 i2 x8 k103_9 n103_9 x13 s11) else some (v6_103_9, s11))))
          refine z_iload (pc := 103) F dX2_leastNewForAll_103 rfl ?_
          refine z_iload (pc := 105) F dX2_leastNewForAll_105 rfl ?_
          refine z_icmp_ge (pc := 107) F 141 dX2_leastNewForAll_107 (by decide) (fun h15 => ?_) (fun h15 => ?_)
          · refine z_wk [false, false, true, false, true, false, false] (lv' := [none, none, none, none, none, none, none]) rfl ?_
            exact hk103_9  w103_9
          · refine z_aload_n (pc := 110) F dX2_leastNewForAll_110 rfl ?_
            refine z_aload_n (pc := 111) F dX2_leastNewForAll_111 rfl ?_
            refine z_get (pc := 112) F 10 0 2 (v := .ref (zad K 18 60)) (by decide) (fun _ => rfl) rfl (by decide) inlX2 lk_RX2_17 rfl dX2_leastNewForAll_112 ?_
            refine z_aload_n (pc := 115) F dX2_leastNewForAll_115 rfl ?_
            refine z_get (pc := 116) F 10 0 1 (v := .ref (zad K 9 0)) (by decide) (fun _ => rfl) rfl (by decide) inlX2 lk_RX2_25 rfl dX2_leastNewForAll_116 ?_
            refine z_iload (pc := 119) F dX2_leastNewForAll_119 rfl ?_
            refine z_callNv (pc := 121) (st := []) F 15 i2 [.ref (zad K 18 60), .ref (zad K 9 0), .int v6_103_9] cl_RX2_67 (tX3_mixInto (zln K) w103_9 i2 60 v6_103_9 h3 (by decide)) rfl h3 (fun _ => ⟨_, rfl⟩) rfl (by rw [hR]; exact ⟨rfl, rfl, Nat.le_of_ble_eq_true rfl, Nat.le_of_ble_eq_true rfl⟩) rfl rfl (Nat.le_of_ble_eq_true rfl) dX2_leastNewForAll_121 (fun s10 => ?_)
            refine z_aload_n (pc := 124) F dX2_leastNewForAll_124 rfl ?_
            refine z_aload_n (pc := 125) F dX2_leastNewForAll_125 rfl ?_
            refine z_callVi (pc := 126) (st := []) F 10 0 [.ref (zad K 13 n1)] cl_RX2_102 (tX2_raisesAll (zln K) s10 n1 h_n1) rfl (by decide) (fun _ => ⟨_, rfl⟩) rfl (by rw [hR]; exact ⟨rfl, rfl, Nat.le_of_ble_eq_true rfl, Nat.le_of_ble_eq_true rfl⟩) rfl rfl (Nat.le_of_ble_eq_true rfl) dX2_leastNewForAll_126 (fun x12 s11 => ?_)
            refine z_if_eq (pc := 129) F 135 dX2_leastNewForAll_129 (by decide) (fun h14 => ?_) (fun h14 => ?_)
            · refine z_iincB (pc := 135) F (lv' := fun x13 => [some (.ref (zad K 10 0)), some (.ref (zad K 13 n1)), none, some (.ref (zad K 15 i2)), none, some (.int x8), some (.int x13)]) dX2_leastNewForAll_135 rfl rfl (fun _ => rfl) (fun x13 => ?_)
              refine z_goto (pc := 138) F 103 dX2_leastNewForAll_138 (by decide) ?_
              exact ih103_9 x13 s11
            · refine z_iload (pc := 132) F dX2_leastNewForAll_132 rfl ?_
              exact z_iret (pc := 134) F E dX2_leastNewForAll_134
      exact L103_9 zN u4_14_4 s7
    · refine z_bipush (pc := 86) F (v := -9) dX2_leastNewForAll_86 (by decide) ?_
      exact z_iret (pc := 88) F E dX2_leastNewForAll_88
  have L14_4 : ∀ (n14_4 : Nat) (v4_14_4 : Int32) (v5_14_4 : Int32) (w14_4 : zS), ZO K t 14 [some (.ref (zad K 10 0)), some (.ref (zad K 13 n1)), some (.int a2), some (.ref (zad K 15 i2)), some (.int v4_14_4), some (.int v5_14_4), none] [] w14_4 (fX2_leastNewForAll_14 n1 a2 i2 (fun (u4_14_4 : Int32) (y14_4 : zS) => (if u4_14_4 = (-9 : Int32) then some ((-9 : Int32), y14_4) else zCi (fX3_height i2 y14_4) (fun x6 s5 => zCi (fX2_countMixes x6 s5) (fun x8 s7 => fX2_leastNewForAll_103 n1 i2 x8 (fun (y103_9 : zS) => (some ((-9 : Int32), y103_9) : Option (Int32 × zS))) zN u4_14_4 s7)) : Option (Int32 × zS))) n14_4 v4_14_4 v5_14_4 w14_4) := by
    revert hk14_4; generalize (fun (u4_14_4 : Int32) (y14_4 : zS) => (if u4_14_4 = (-9 : Int32) then some ((-9 : Int32), y14_4) else zCi (fX3_height i2 y14_4) (fun x6 s5 => zCi (fX2_countMixes x6 s5) (fun x8 s7 => fX2_leastNewForAll_103 n1 i2 x8 (fun (y103_9 : zS) => (some ((-9 : Int32), y103_9) : Option (Int32 × zS))) zN u4_14_4 s7)) : Option (Int32 × zS))) = k14_4; intro hk14_4
    intro n14_4
    induction n14_4 with
    | zero => intro v4_14_4 v5_14_4 w14_4; exact z_none
    | succ n14_4 ih14_4 =>
      intro v4_14_4 v5_14_4 w14_4
      show ZO K t 14 [some (.ref (zad K 10 0)), some (.ref (zad K 13 n1)), some (.int a2), some (.ref (zad K 15 i2)), some (.int v4_14_4), some (.int v5_14_4), none] [] w14_4 (if (4 : Int32) ≤ v5_14_4 then k14_4 v4_14_4 w14_4 else if v5_14_4 = a2 then if (-9 : Int32) = (-9 : Int32) then zIx v5_14_4 4 (zB (zU w14_4 12 0 v5_14_4.toNatClampNeg (vp_nar .boolean (0 : Int32))) (fun s34 => zCi (fJ9_max_7cf53 v4_14_4 (-9 : Int32) s34) (fun x36 s35 => zB (v5_14_4 + 1) (fun x37 => fX2_leastNewForAll_14 n1 a2 i2 k14_4 n14_4 x36 x37 s35)))) else zIx v5_14_4 4 (zB (zU w14_4 12 0 v5_14_4.toNatClampNeg (vp_nar .boolean (1 : Int32))) (fun s39 => zCi (fJ9_max_7cf53 v4_14_4 (-9 : Int32) s39) (fun x41 s40 => zB (v5_14_4 + 1) (fun x42 => fX2_leastNewForAll_14 n1 a2 i2 k14_4 n14_4 x41 x42 s40)))) else zIx v5_14_4 4 (zB (4 * n1 + v5_14_4.toNatClampNeg) (fun i18 => zGd (i18 < 12) (zCi (fX2_leastNew i2 i18 w14_4) (fun x21 s20 => if x21 = (-9 : Int32) then zIx v5_14_4 4 (zB (zU s20 12 0 v5_14_4.toNatClampNeg (vp_nar .boolean (0 : Int32))) (fun s23 => zCi (fJ9_max_7cf53 v4_14_4 x21 s23) (fun x25 s24 => zB (v5_14_4 + 1) (fun x26 => fX2_leastNewForAll_14 n1 a2 i2 k14_4 n14_4 x25 x26 s24)))) else zIx v5_14_4 4 (zB (zU s20 12 0 v5_14_4.toNatClampNeg (vp_nar .boolean (1 : Int32))) (fun s28 => zCi (fJ9_max_7cf53 v4_14_4 x21 s28) (fun x30 s29 => zB (v5_14_4 + 1) (fun x31 => fX2_leastNewForAll_14 n1 a2 i2 k14_4 n14_4 x30 x31 s29)))))))))
      refine z_iload (pc := 14) F dX2_leastNewForAll_14 rfl ?_
      refine z_iconst (pc := 16) F (v := 4) dX2_leastNewForAll_16 (by decide) ?_
      refine z_icmp_ge (pc := 17) F 79 dX2_leastNewForAll_17 (by decide) (fun h45 => ?_) (fun h45 => ?_)
      · refine z_wk [true, true, false, true, true, false, true] (lv' := [some (.ref (zad K 10 0)), some (.ref (zad K 13 n1)), none, some (.ref (zad K 15 i2)), some (.int v4_14_4), none, none]) rfl ?_
        exact hk14_4 v4_14_4 w14_4
      · refine z_iload (pc := 20) F dX2_leastNewForAll_20 rfl ?_
        refine z_iload_n (pc := 22) F dX2_leastNewForAll_22 rfl ?_
        refine z_icmp_ne (pc := 23) F 31 dX2_leastNewForAll_23 (by decide) (fun h44 => ?_) (fun h44 => ?_)
        · refine z_aload_n (pc := 31) F dX2_leastNewForAll_31 rfl ?_
          refine z_aload_n (pc := 32) F dX2_leastNewForAll_32 rfl ?_
          refine z_aload_n (pc := 33) F dX2_leastNewForAll_33 rfl ?_
          refine z_getN (pc := 34) F 13 n1 0 (v := .ref (zad K 14 n1)) h_n1 (fun _ => rfl) rfl (by decide) inlX1 lk_RX2_44 rfl dX2_leastNewForAll_34 ?_
          refine z_iload (pc := 37) F dX2_leastNewForAll_37 rfl ?_
          refine z_ix (fun h17 => ?_)
          refine z_aald (pc := 39) F 14 n1 15 (4 * n1 + v5_14_4.toNatClampNeg) 3 h_n1 (fun _ => rfl) (fun _ => rfl) rfl h17 (fun _ => rfl) dX2_leastNewForAll_39 ?_
          refine z_Br (fun i18 => ?_)
          refine z_gd (fun h19 => ?_)
          refine z_callVi (pc := 40) (st := []) F 10 0 [.ref (zad K 15 i2), .ref (zad K 15 i18)] cl_RX2_85 (tX2_leastNew (zln K) w14_4 i2 i18 h3 h19) rfl (by decide) (fun _ => ⟨_, rfl⟩) rfl (by rw [hR]; exact ⟨rfl, rfl, Nat.le_of_ble_eq_true rfl, Nat.le_of_ble_eq_true rfl⟩) rfl rfl (Nat.le_of_ble_eq_true rfl) dX2_leastNewForAll_40 (fun x21 s20 => ?_)
          refine z_istore (pc := 43) F (lv' := [some (.ref (zad K 10 0)), some (.ref (zad K 13 n1)), some (.int a2), some (.ref (zad K 15 i2)), some (.int v4_14_4), some (.int v5_14_4), some (.int x21)]) dX2_leastNewForAll_43 (zlt rfl) rfl ?_
          refine z_aload_n (pc := 45) F dX2_leastNewForAll_45 rfl ?_
          refine z_get (pc := 46) F 10 0 3 (v := .ref (zad K 12 0)) (by decide) (fun _ => rfl) rfl (by decide) inlX2 lk_RX2_21 rfl dX2_leastNewForAll_46 ?_
          refine z_iload (pc := 49) F dX2_leastNewForAll_49 rfl ?_
          refine z_iload (pc := 51) F dX2_leastNewForAll_51 rfl ?_
          refine z_bipush (pc := 53) F (v := -9) dX2_leastNewForAll_53 (by decide) ?_
          refine z_icmp_eq (pc := 55) F 62 dX2_leastNewForAll_55 (by decide) (fun h32 => ?_) (fun h32 => ?_)
          · refine z_iconst (pc := 62) F (v := 0) dX2_leastNewForAll_62 (by decide) ?_
            refine z_ix (fun h22 => ?_)
            refine z_zast (pc := 63) F 12 0 (by decide) (fun _ _ => rfl) h22 dX2_leastNewForAll_63 (fun s23 => ?_)
            refine z_iload (pc := 64) F dX2_leastNewForAll_64 rfl ?_
            refine z_iload (pc := 66) F dX2_leastNewForAll_66 rfl ?_
            refine z_callSi (pc := 68) (st := []) F [.int v4_14_4, .int x21] cl_RX2_89 (tJ9_max_7cf53 (zln K) s23 v4_14_4 x21) rfl (by rw [hR]; exact ⟨rfl, rfl, Nat.le_of_ble_eq_true rfl, Nat.le_of_ble_eq_true rfl⟩) rfl rfl (Nat.le_of_ble_eq_true rfl) dX2_leastNewForAll_68 (fun x25 s24 => ?_)
            refine z_istore (pc := 71) F (lv' := [some (.ref (zad K 10 0)), some (.ref (zad K 13 n1)), some (.int a2), some (.ref (zad K 15 i2)), some (.int x25), some (.int v5_14_4), some (.int x21)]) dX2_leastNewForAll_71 (zlt rfl) rfl ?_
            refine z_iincB (pc := 73) F (lv' := fun x26 => [some (.ref (zad K 10 0)), some (.ref (zad K 13 n1)), some (.int a2), some (.ref (zad K 15 i2)), some (.int x25), some (.int x26), some (.int x21)]) dX2_leastNewForAll_73 rfl rfl (fun _ => rfl) (fun x26 => ?_)
            refine z_goto (pc := 76) F 14 dX2_leastNewForAll_76 (by decide) ?_
            refine z_wk [true, true, true, true, true, true, false] (lv' := [some (.ref (zad K 10 0)), some (.ref (zad K 13 n1)), some (.int a2), some (.ref (zad K 15 i2)), some (.int x25), some (.int x26), none]) rfl ?_
            exact ih14_4 x25 x26 s24
          · refine z_iconst (pc := 58) F (v := 1) dX2_leastNewForAll_58 (by decide) ?_
            refine z_goto (pc := 59) F 63 dX2_leastNewForAll_59 (by decide) ?_
            refine z_ix (fun h27 => ?_)
            refine z_zast (pc := 63) F 12 0 (by decide) (fun _ _ => rfl) h27 dX2_leastNewForAll_63 (fun s28 => ?_)
            refine z_iload (pc := 64) F dX2_leastNewForAll_64 rfl ?_
            refine z_iload (pc := 66) F dX2_leastNewForAll_66 rfl ?_
            refine z_callSi (pc := 68) (st := []) F [.int v4_14_4, .int x21] cl_RX2_89 (tJ9_max_7cf53 (zln K) s28 v4_14_4 x21) rfl (by rw [hR]; exact ⟨rfl, rfl, Nat.le_of_ble_eq_true rfl, Nat.le_of_ble_eq_true rfl⟩) rfl rfl (Nat.le_of_ble_eq_true rfl) dX2_leastNewForAll_68 (fun x30 s29 => ?_)
            refine z_istore (pc := 71) F (lv' := [some (.ref (zad K 10 0)), some (.ref (zad K 13 n1)), some (.int a2), some (.ref (zad K 15 i2)), some (.int x30), some (.int v5_14_4), some (.int x21)]) dX2_leastNewForAll_71 (zlt rfl) rfl ?_
            refine z_iincB (pc := 73) F (lv' := fun x31 => [some (.ref (zad K 10 0)), some (.ref (zad K 13 n1)), some (.int a2), some (.ref (zad K 15 i2)), some (.int x30), some (.int x31), some (.int x21)]) dX2_leastNewForAll_73 rfl rfl (fun _ => rfl) (fun x31 => ?_)
            refine z_goto (pc := 76) F 14 dX2_leastNewForAll_76 (by decide) ?_
            refine z_wk [true, true, true, true, true, true, false] (lv' := [some (.ref (zad K 10 0)), some (.ref (zad K 13 n1)), some (.int a2), some (.ref (zad K 15 i2)), some (.int x30), some (.int x31), none]) rfl ?_
            exact ih14_4 x30 x31 s29
        · refine z_bipush (pc := 26) F (v := -9) dX2_leastNewForAll_26 (by decide) ?_
          refine z_goto (pc := 28) F 43 dX2_leastNewForAll_28 (by decide) ?_
          refine z_istore (pc := 43) F (lv' := [some (.ref (zad K 10 0)), some (.ref (zad K 13 n1)), some (.int a2), some (.ref (zad K 15 i2)), some (.int v4_14_4), some (.int v5_14_4), some (.int (-9 : Int32))]) dX2_leastNewForAll_43 (zlt rfl) rfl ?_
          refine z_aload_n (pc := 45) F dX2_leastNewForAll_45 rfl ?_
          refine z_get (pc := 46) F 10 0 3 (v := .ref (zad K 12 0)) (by decide) (fun _ => rfl) rfl (by decide) inlX2 lk_RX2_21 rfl dX2_leastNewForAll_46 ?_
          refine z_iload (pc := 49) F dX2_leastNewForAll_49 rfl ?_
          refine z_iload (pc := 51) F dX2_leastNewForAll_51 rfl ?_
          refine z_bipush (pc := 53) F (v := -9) dX2_leastNewForAll_53 (by decide) ?_
          refine z_icmp_eq (pc := 55) F 62 dX2_leastNewForAll_55 (by decide) (fun h43 => ?_) (fun h43 => ?_)
          · refine z_iconst (pc := 62) F (v := 0) dX2_leastNewForAll_62 (by decide) ?_
            refine z_ix (fun h33 => ?_)
            refine z_zast (pc := 63) F 12 0 (by decide) (fun _ _ => rfl) h33 dX2_leastNewForAll_63 (fun s34 => ?_)
            refine z_iload (pc := 64) F dX2_leastNewForAll_64 rfl ?_
            refine z_iload (pc := 66) F dX2_leastNewForAll_66 rfl ?_
            refine z_callSi (pc := 68) (st := []) F [.int v4_14_4, .int (-9 : Int32)] cl_RX2_89 (tJ9_max_7cf53 (zln K) s34 v4_14_4 (-9 : Int32)) rfl (by rw [hR]; exact ⟨rfl, rfl, Nat.le_of_ble_eq_true rfl, Nat.le_of_ble_eq_true rfl⟩) rfl rfl (Nat.le_of_ble_eq_true rfl) dX2_leastNewForAll_68 (fun x36 s35 => ?_)
            refine z_istore (pc := 71) F (lv' := [some (.ref (zad K 10 0)), some (.ref (zad K 13 n1)), some (.int a2), some (.ref (zad K 15 i2)), some (.int x36), some (.int v5_14_4), some (.int (-9 : Int32))]) dX2_leastNewForAll_71 (zlt rfl) rfl ?_
            refine z_iincB (pc := 73) F (lv' := fun x37 => [some (.ref (zad K 10 0)), some (.ref (zad K 13 n1)), some (.int a2), some (.ref (zad K 15 i2)), some (.int x36), some (.int x37), some (.int (-9 : Int32))]) dX2_leastNewForAll_73 rfl rfl (fun _ => rfl) (fun x37 => ?_)
            refine z_goto (pc := 76) F 14 dX2_leastNewForAll_76 (by decide) ?_
            refine z_wk [true, true, true, true, true, true, false] (lv' := [some (.ref (zad K 10 0)), some (.ref (zad K 13 n1)), some (.int a2), some (.ref (zad K 15 i2)), some (.int x36), some (.int x37), none]) rfl ?_
            exact ih14_4 x36 x37 s35
          · refine z_iconst (pc := 58) F (v := 1) dX2_leastNewForAll_58 (by decide) ?_
            refine z_goto (pc := 59) F 63 dX2_leastNewForAll_59 (by decide) ?_
            refine z_ix (fun h38 => ?_)
            refine z_zast (pc := 63) F 12 0 (by decide) (fun _ _ => rfl) h38 dX2_leastNewForAll_63 (fun s39 => ?_)
            refine z_iload (pc := 64) F dX2_leastNewForAll_64 rfl ?_
            refine z_iload (pc := 66) F dX2_leastNewForAll_66 rfl ?_
            refine z_callSi (pc := 68) (st := []) F [.int v4_14_4, .int (-9 : Int32)] cl_RX2_89 (tJ9_max_7cf53 (zln K) s39 v4_14_4 (-9 : Int32)) rfl (by rw [hR]; exact ⟨rfl, rfl, Nat.le_of_ble_eq_true rfl, Nat.le_of_ble_eq_true rfl⟩) rfl rfl (Nat.le_of_ble_eq_true rfl) dX2_leastNewForAll_68 (fun x41 s40 => ?_)
            refine z_istore (pc := 71) F (lv' := [some (.ref (zad K 10 0)), some (.ref (zad K 13 n1)), some (.int a2), some (.ref (zad K 15 i2)), some (.int x41), some (.int v5_14_4), some (.int (-9 : Int32))]) dX2_leastNewForAll_71 (zlt rfl) rfl ?_
            refine z_iincB (pc := 73) F (lv' := fun x42 => [some (.ref (zad K 10 0)), some (.ref (zad K 13 n1)), some (.int a2), some (.ref (zad K 15 i2)), some (.int x41), some (.int x42), some (.int (-9 : Int32))]) dX2_leastNewForAll_73 rfl rfl (fun _ => rfl) (fun x42 => ?_)
            refine z_goto (pc := 76) F 14 dX2_leastNewForAll_76 (by decide) ?_
            refine z_wk [true, true, true, true, true, true, false] (lv' := [some (.ref (zad K 10 0)), some (.ref (zad K 13 n1)), some (.int a2), some (.ref (zad K 15 i2)), some (.int x41), some (.int x42), none]) rfl ?_
            exact ih14_4 x41 x42 s40
  exact L14_4 zN (-9 : Int32) (0 : Int32) σ
