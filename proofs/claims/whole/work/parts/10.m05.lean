def fX6_bodyOf_4 (a1 : Int32) (k4_1 : Int32 → zS → Option (Int32 × zS)) : Nat → Int32 → Int32 → zS → Option (Int32 × zS)
  | 0, _, _, _ => none
  | (n4_1 + 1), v2_4_1, v3_4_1, w4_1 => if (10 : Int32) ≤ v3_4_1 then k4_1 v2_4_1 w4_1 else if ((a1 >>> (v3_4_1 &&& 31)) &&& (1 : Int32)) = (1 : Int32) then zIx v3_4_1 10 (zB (v2_4_1 ^^^ (w4_1 2 0 v3_4_1.toNatClampNeg)) (fun x4 => zB (v3_4_1 + 1) (fun x5 => fX6_bodyOf_4 a1 k4_1 n4_1 x4 x5 w4_1))) else zB (v3_4_1 + 1) (fun x2 => fX6_bodyOf_4 a1 k4_1 n4_1 v2_4_1 x2 w4_1)
def fX6_bodyOf (a1 : Int32) (σ : zS) : Option (Int32 × zS) := fX6_bodyOf_4 a1 (fun (u2_4_1 : Int32) (y4_1 : zS) => (some (u2_4_1, y4_1) : Option (Int32 × zS))) zN (0 : Int32) (0 : Int32) σ
abbrev rmX6_bodyOf : Room := { frames := 0, cells := 0, slots := 0, locals := 0 }
set_option maxRecDepth 100000 in
set_option maxHeartbeats 4000000 in
theorem tX6_bodyOf (l : Launch) (σ : zS) (a1 : Int32) : zMi l yX6_bodyOf cX6_bodyOf 4 (some .int) rmX6_bodyOf (fun ad => [.ref (ad 1 0), .int a1]) σ (fX6_bodyOf a1 σ) := by
  refine zMi.of RX6 (by decide +kernel) rfl (fun _ => Nat.le_of_ble_eq_true rfl) (fun _ => zcat rfl) (fun K t F hR hL E => ?_)
  show ZO K t 0 [some (.ref (zad K 1 0)), some (.int a1), none, none] [] σ (fX6_bodyOf_4 a1 (fun (u2_4_1 : Int32) (y4_1 : zS) => (some (u2_4_1, y4_1) : Option (Int32 × zS))) zN (0 : Int32) (0 : Int32) σ)
  refine z_iconst (pc := 0) F (v := 0) dX6_bodyOf_0 (by decide) ?_
  refine z_istore_n (pc := 1) F (lv' := [some (.ref (zad K 1 0)), some (.int a1), some (.int (0 : Int32)), none]) dX6_bodyOf_1 (zlt rfl) rfl ?_
  refine z_iconst (pc := 2) F (v := 0) dX6_bodyOf_2 (by decide) ?_
  refine z_istore_n (pc := 3) F (lv' := [some (.ref (zad K 1 0)), some (.int a1), some (.int (0 : Int32)), some (.int (0 : Int32))]) dX6_bodyOf_3 (zlt rfl) rfl ?_
  have hk4_1 : ∀ (u2_4_1 : Int32) (y4_1 : zS), ZO K t 34 [none, none, some (.int u2_4_1), none] [] y4_1 ((fun (u2_4_1 : Int32) (y4_1 : zS) => (some (u2_4_1, y4_1) : Option (Int32 × zS))) u2_4_1 y4_1) := by
    intro u2_4_1 y4_1
    show ZO K t 34 [none, none, some (.int u2_4_1), none] [] y4_1 (some (u2_4_1, y4_1))
    refine z_iload_n (pc := 34) F dX6_bodyOf_34 rfl ?_
    exact z_iret (pc := 35) F E dX6_bodyOf_35
  have L4_1 : ∀ (n4_1 : Nat) (v2_4_1 : Int32) (v3_4_1 : Int32) (w4_1 : zS), ZO K t 4 [some (.ref (zad K 1 0)), some (.int a1), some (.int v2_4_1), some (.int v3_4_1)] [] w4_1 (fX6_bodyOf_4 a1 (fun (u2_4_1 : Int32) (y4_1 : zS) => (some (u2_4_1, y4_1) : Option (Int32 × zS))) n4_1 v2_4_1 v3_4_1 w4_1) := by
    revert hk4_1; generalize (fun (u2_4_1 : Int32) (y4_1 : zS) => (some (u2_4_1, y4_1) : Option (Int32 × zS))) = k4_1; intro hk4_1
    intro n4_1
    induction n4_1 with
    | zero => intro v2_4_1 v3_4_1 w4_1; exact z_none
    | succ n4_1 ih4_1 =>
      intro v2_4_1 v3_4_1 w4_1
      show ZO K t 4 [some (.ref (zad K 1 0)), some (.int a1), some (.int v2_4_1), some (.int v3_4_1)] [] w4_1 (if (10 : Int32) ≤ v3_4_1 then k4_1 v2_4_1 w4_1 else if ((a1 >>> (v3_4_1 &&& 31)) &&& (1 : Int32)) = (1 : Int32) then zIx v3_4_1 10 (zB (v2_4_1 ^^^ (w4_1 2 0 v3_4_1.toNatClampNeg)) (fun x4 => zB (v3_4_1 + 1) (fun x5 => fX6_bodyOf_4 a1 k4_1 n4_1 x4 x5 w4_1))) else zB (v3_4_1 + 1) (fun x2 => fX6_bodyOf_4 a1 k4_1 n4_1 v2_4_1 x2 w4_1))
      refine z_iload_n (pc := 4) F dX6_bodyOf_4 rfl ?_
      refine z_bipush (pc := 5) F (v := 10) dX6_bodyOf_5 (by decide) ?_
      refine z_icmp_ge (pc := 7) F 34 dX6_bodyOf_7 (by decide) (fun h7 => ?_) (fun h7 => ?_)
      · refine z_wk [false, false, true, false] (lv' := [none, none, some (.int v2_4_1), none]) rfl ?_
        exact hk4_1 v2_4_1 w4_1
      · refine z_iload_n (pc := 10) F dX6_bodyOf_10 rfl ?_
        refine z_iload_n (pc := 11) F dX6_bodyOf_11 rfl ?_
        refine z_ishr (pc := 12) F dX6_bodyOf_12 ?_
        refine z_iconst (pc := 13) F (v := 1) dX6_bodyOf_13 (by decide) ?_
        refine z_iand (pc := 14) F dX6_bodyOf_14 ?_
        refine z_iconst (pc := 15) F (v := 1) dX6_bodyOf_15 (by decide) ?_
        refine z_icmp_ne (pc := 16) F 28 dX6_bodyOf_16 (by decide) (fun h6 => ?_) (fun h6 => ?_)
        · refine z_iincB (pc := 28) F (lv' := fun x2 => [some (.ref (zad K 1 0)), some (.int a1), some (.int v2_4_1), some (.int x2)]) dX6_bodyOf_28 rfl rfl (fun _ => rfl) (fun x2 => ?_)
          refine z_goto (pc := 31) F 4 dX6_bodyOf_31 (by decide) ?_
          exact ih4_1 v2_4_1 x2 w4_1
        · refine z_iload_n (pc := 19) F dX6_bodyOf_19 rfl ?_
          refine z_aload_n (pc := 20) F dX6_bodyOf_20 rfl ?_
          refine z_get (pc := 21) F 1 0 0 (v := .ref (zad K 2 0)) (by decide) (fun _ => rfl) rfl (by decide) inlX6 lk_RX6_9 rfl dX6_bodyOf_21 ?_
          refine z_iload_n (pc := 24) F dX6_bodyOf_24 rfl ?_
          refine z_ix (fun h3 => ?_)
          refine z_iald (pc := 25) F 2 0 (by decide) (fun _ => rfl) h3 dX6_bodyOf_25 ?_
          refine z_ixor (pc := 26) F dX6_bodyOf_26 ?_
          refine z_Bi (fun x4 => ?_)
          refine z_istore_n (pc := 27) F (lv' := [some (.ref (zad K 1 0)), some (.int a1), some (.int x4), some (.int v3_4_1)]) dX6_bodyOf_27 (zlt rfl) rfl ?_
          refine z_iincB (pc := 28) F (lv' := fun x5 => [some (.ref (zad K 1 0)), some (.int a1), some (.int x4), some (.int x5)]) dX6_bodyOf_28 rfl rfl (fun _ => rfl) (fun x5 => ?_)
          refine z_goto (pc := 31) F 4 dX6_bodyOf_31 (by decide) ?_
          exact ih4_1 x4 x5 w4_1
  exact L4_1 zN (0 : Int32) (0 : Int32) σ
def fX6_clear_7 (k7_2 : zS → Option (Int32 × zS)) : Nat → Int32 → zS → Option (Int32 × zS)
  | 0, _, _ => none
  | (n7_2 + 1), v1_7_2, w7_2 => if (8 : Int32) ≤ v1_7_2 then k7_2 w7_2 else zIx v1_7_2 8 (zB (zU w7_2 3 0 v1_7_2.toNatClampNeg (0 : Int32)) (fun s7 => zB (v1_7_2 + 1) (fun x8 => fX6_clear_7 k7_2 n7_2 x8 s7)))
def fX6_clear (σ : zS) : Option (Int32 × zS) := zB (zU σ 1 0 3 (0 : Int32)) (fun s1 => fX6_clear_7 (fun (y7_2 : zS) => (zB (zU y7_2 4 0 2 (0 : Int32)) (fun s3 => zB (zU s3 1 0 6 (0 : Int32)) (fun s4 => zB (zU s4 1 0 7 (0 : Int32)) (fun s5 => some ((0 : Int32), s5)))) : Option (Int32 × zS))) zN (0 : Int32) s1)
abbrev rmX6_clear : Room := { frames := 0, cells := 0, slots := 0, locals := 0 }
set_option maxRecDepth 100000 in
set_option maxHeartbeats 4000000 in
theorem tX6_clear (l : Launch) (σ : zS) : zMv l yX6_clear cX6_clear 2 none rmX6_clear (fun ad => [.ref (ad 1 0)]) σ (fX6_clear σ) := by
  refine zMv.of RX6 (by decide +kernel) rfl (fun _ => Nat.le_of_ble_eq_true rfl) (fun _ => zcat rfl) (fun K t F hR hL E => ?_)
  show ZO K t 0 [some (.ref (zad K 1 0)), none] [] σ (zB (zU σ 1 0 3 (0 : Int32)) (fun s1 => fX6_clear_7 (fun (y7_2 : zS) => (zB (zU y7_2 4 0 2 (0 : Int32)) (fun s3 => zB (zU s3 1 0 6 (0 : Int32)) (fun s4 => zB (zU s4 1 0 7 (0 : Int32)) (fun s5 => some ((0 : Int32), s5)))) : Option (Int32 × zS))) zN (0 : Int32) s1))
  refine z_aload_n (pc := 0) F dX6_clear_0 rfl ?_
  refine z_iconst (pc := 1) F (v := 0) dX6_clear_1 (by decide) ?_
  refine z_put (pc := 2) F 1 0 3 tyX6 tyX6_ok nmX6 (by decide) (fun _ => rfl) rfl (by decide) inlX6 lk_RX6_32 rfl (by decide +kernel) (fun _ => Nat.le_of_ble_eq_true rfl) (fun _ => rfl) dX6_clear_2 (fun s1 => ?_)
  refine z_iconst (pc := 5) F (v := 0) dX6_clear_5 (by decide) ?_
  refine z_istore_n (pc := 6) F (lv' := [some (.ref (zad K 1 0)), some (.int (0 : Int32))]) dX6_clear_6 (zlt rfl) rfl ?_
  have hk7_2 : ∀ (y7_2 : zS), ZO K t 26 [some (.ref (zad K 1 0)), none] [] y7_2 ((fun (y7_2 : zS) => (zB (zU y7_2 4 0 2 (0 : Int32)) (fun s3 => zB (zU s3 1 0 6 (0 : Int32)) (fun s4 => zB (zU s4 1 0 7 (0 : Int32)) (fun s5 => some ((0 : Int32), s5)))) : Option (Int32 × zS))) y7_2) := by
    intro y7_2
    show ZO K t 26 [some (.ref (zad K 1 0)), none] [] y7_2 (zB (zU y7_2 4 0 2 (0 : Int32)) (fun s3 => zB (zU s3 1 0 6 (0 : Int32)) (fun s4 => zB (zU s4 1 0 7 (0 : Int32)) (fun s5 => some ((0 : Int32), s5)))))
    refine z_aload_n (pc := 26) F dX6_clear_26 rfl ?_
    refine z_get (pc := 27) F 1 0 2 (v := .ref (zad K 4 0)) (by decide) (fun _ => rfl) rfl (by decide) inlX6 lk_RX6_21 rfl dX6_clear_27 ?_
    refine z_iconst (pc := 30) F (v := 0) dX6_clear_30 (by decide) ?_
    refine z_putN (pc := 31) F 4 0 2 tyX5 tyX5_ok nmX5 (by decide) (fun _ => rfl) rfl (by decide) inlX5 lk_RX6_51 rfl (by decide +kernel) (fun _ => Nat.le_of_ble_eq_true rfl) (fun _ => rfl) dX6_clear_31 (fun s3 => ?_)
    refine z_aload_n (pc := 34) F dX6_clear_34 rfl ?_
    refine z_iconst (pc := 35) F (v := 0) dX6_clear_35 (by decide) ?_
    refine z_put (pc := 36) F 1 0 6 tyX6 tyX6_ok nmX6 (by decide) (fun _ => rfl) rfl (by decide) inlX6 lk_RX6_54 rfl (by decide +kernel) (fun _ => Nat.le_of_ble_eq_true rfl) (fun _ => rfl) dX6_clear_36 (fun s4 => ?_)
    refine z_aload_n (pc := 39) F dX6_clear_39 rfl ?_
    refine z_iconst (pc := 40) F (v := 0) dX6_clear_40 (by decide) ?_
    refine z_put (pc := 41) F 1 0 7 tyX6 tyX6_ok nmX6 (by decide) (fun _ => rfl) rfl (by decide) inlX6 lk_RX6_57 rfl (by decide +kernel) (fun _ => Nat.le_of_ble_eq_true rfl) (fun _ => rfl) dX6_clear_41 (fun s5 => ?_)
    exact z_vret (pc := 44) (x := 0) F E dX6_clear_44
  have L7_2 : ∀ (n7_2 : Nat) (v1_7_2 : Int32) (w7_2 : zS), ZO K t 7 [some (.ref (zad K 1 0)), some (.int v1_7_2)] [] w7_2 (fX6_clear_7 (fun (y7_2 : zS) => (zB (zU y7_2 4 0 2 (0 : Int32)) (fun s3 => zB (zU s3 1 0 6 (0 : Int32)) (fun s4 => zB (zU s4 1 0 7 (0 : Int32)) (fun s5 => some ((0 : Int32), s5)))) : Option (Int32 × zS))) n7_2 v1_7_2 w7_2) := by
    revert hk7_2; generalize (fun (y7_2 : zS) => (zB (zU y7_2 4 0 2 (0 : Int32)) (fun s3 => zB (zU s3 1 0 6 (0 : Int32)) (fun s4 => zB (zU s4 1 0 7 (0 : Int32)) (fun s5 => some ((0 : Int32), s5)))) : Option (Int32 × zS))) = k7_2; intro hk7_2
    intro n7_2
    induction n7_2 with
    | zero => intro v1_7_2 w7_2; exact z_none
    | succ n7_2 ih7_2 =>
      intro v1_7_2 w7_2
      show ZO K t 7 [some (.ref (zad K 1 0)), some (.int v1_7_2)] [] w7_2 (if (8 : Int32) ≤ v1_7_2 then k7_2 w7_2 else zIx v1_7_2 8 (zB (zU w7_2 3 0 v1_7_2.toNatClampNeg (0 : Int32)) (fun s7 => zB (v1_7_2 + 1) (fun x8 => fX6_clear_7 k7_2 n7_2 x8 s7))))
      refine z_iload_n (pc := 7) F dX6_clear_7 rfl ?_
      refine z_bipush (pc := 8) F (v := 8) dX6_clear_8 (by decide) ?_
      refine z_icmp_ge (pc := 10) F 26 dX6_clear_10 (by decide) (fun h9 => ?_) (fun h9 => ?_)
      · refine z_wk [true, false] (lv' := [some (.ref (zad K 1 0)), none]) rfl ?_
        exact hk7_2  w7_2
      · refine z_aload_n (pc := 13) F dX6_clear_13 rfl ?_
        refine z_get (pc := 14) F 1 0 1 (v := .ref (zad K 3 0)) (by decide) (fun _ => rfl) rfl (by decide) inlX6 lk_RX6_15 rfl dX6_clear_14 ?_
        refine z_iload_n (pc := 17) F dX6_clear_17 rfl ?_
        refine z_iconst (pc := 18) F (v := 0) dX6_clear_18 (by decide) ?_
        refine z_ix (fun h6 => ?_)
        refine z_iast (pc := 19) F 3 0 (by decide) (fun _ _ => rfl) h6 dX6_clear_19 (fun s7 => ?_)
        refine z_iincB (pc := 20) F (lv' := fun x8 => [some (.ref (zad K 1 0)), some (.int x8)]) dX6_clear_20 rfl rfl (fun _ => rfl) (fun x8 => ?_)
        refine z_goto (pc := 23) F 7 dX6_clear_23 (by decide) ?_
        exact ih7_2 x8 s7
  exact L7_2 zN (0 : Int32) s1
def fX6_isOnAir (a1 : Int32) (σ : zS) : Option (Int32 × zS) := if (((σ 1 0 4) >>> (a1 &&& 31)) &&& (1 : Int32)) = (1 : Int32) then some ((1 : Int32), σ) else some ((0 : Int32), σ)
abbrev rmX6_isOnAir : Room := { frames := 0, cells := 0, slots := 0, locals := 0 }
set_option maxRecDepth 100000 in
set_option maxHeartbeats 4000000 in
theorem tX6_isOnAir (l : Launch) (σ : zS) (a1 : Int32) : zMi l yX6_isOnAir cX6_isOnAir 2 (some .boolean) rmX6_isOnAir (fun ad => [.ref (ad 1 0), .int a1]) σ (fX6_isOnAir a1 σ) := by
  refine zMi.of RX6 (by decide +kernel) rfl (fun _ => Nat.le_of_ble_eq_true rfl) (fun _ => zcat rfl) (fun K t F hR hL E => ?_)
  show ZO K t 0 [some (.ref (zad K 1 0)), some (.int a1)] [] σ (if (((σ 1 0 4) >>> (a1 &&& 31)) &&& (1 : Int32)) = (1 : Int32) then some ((1 : Int32), σ) else some ((0 : Int32), σ))
  refine z_aload_n (pc := 0) F dX6_isOnAir_0 rfl ?_
  refine z_get (pc := 1) F 1 0 4 (v := .int (σ 1 0 4)) (by decide) (fun _ => rfl) rfl (by decide) inlX6 lk_RX6_25 rfl dX6_isOnAir_1 ?_
  refine z_iload_n (pc := 4) F dX6_isOnAir_4 rfl ?_
  refine z_ishr (pc := 5) F dX6_isOnAir_5 ?_
  refine z_iconst (pc := 6) F (v := 1) dX6_isOnAir_6 (by decide) ?_
  refine z_iand (pc := 7) F dX6_isOnAir_7 ?_
  refine z_iconst (pc := 8) F (v := 1) dX6_isOnAir_8 (by decide) ?_
  refine z_icmp_ne (pc := 9) F 16 dX6_isOnAir_9 (by decide) (fun h1 => ?_) (fun h1 => ?_)
  · refine z_iconst (pc := 16) F (v := 0) dX6_isOnAir_16 (by decide) ?_
    exact z_zret (pc := 17) F E (by decide) dX6_isOnAir_17
  · refine z_iconst (pc := 12) F (v := 1) dX6_isOnAir_12 (by decide) ?_
    refine z_goto (pc := 13) F 17 dX6_isOnAir_13 (by decide) ?_
    exact z_zret (pc := 17) F E (by decide) dX6_isOnAir_17
def fJ6_bitCount_0f7a4 (a1 : Int32) (σ : zS) : Option (Int32 × zS) := zB (a1 - (((a1.toUInt32 >>> ((1 : Int32).toUInt32 &&& Int32.toUInt32 31)).toInt32) &&& (1431655765 : Int32))) (fun x1 => zB ((x1 &&& (858993459 : Int32)) + (((x1.toUInt32 >>> ((2 : Int32).toUInt32 &&& Int32.toUInt32 31)).toInt32) &&& (858993459 : Int32))) (fun x2 => zB ((x2 + ((x2.toUInt32 >>> ((4 : Int32).toUInt32 &&& Int32.toUInt32 31)).toInt32)) &&& (252645135 : Int32)) (fun x3 => zB (x3 + ((x3.toUInt32 >>> ((8 : Int32).toUInt32 &&& Int32.toUInt32 31)).toInt32)) (fun x4 => zB (x4 + ((x4.toUInt32 >>> ((16 : Int32).toUInt32 &&& Int32.toUInt32 31)).toInt32)) (fun x5 => some (x5 &&& (63 : Int32), σ))))))
abbrev rmJ6_bitCount_0f7a4 : Room := { frames := 0, cells := 0, slots := 0, locals := 0 }
set_option maxRecDepth 100000 in
set_option maxHeartbeats 4000000 in
theorem tJ6_bitCount_0f7a4 (l : Launch) (σ : zS) (a1 : Int32) : zMi l yJ6_bitCount_0f7a4 cJ6_bitCount_0f7a4 1 (some .int) rmJ6_bitCount_0f7a4 (fun _ => [.int a1]) σ (fJ6_bitCount_0f7a4 a1 σ) := by
  refine zMi.of RJ6 (by decide +kernel) rfl (fun _ => Nat.le_of_ble_eq_true rfl) (fun _ => zcat rfl) (fun K t F hR hL E => ?_)
  show ZO K t 0 [some (.int a1)] [] σ (zB (a1 - (((a1.toUInt32 >>> ((1 : Int32).toUInt32 &&& Int32.toUInt32 31)).toInt32) &&& (1431655765 : Int32))) (fun x1 => zB ((x1 &&& (858993459 : Int32)) + (((x1.toUInt32 >>> ((2 : Int32).toUInt32 &&& Int32.toUInt32 31)).toInt32) &&& (858993459 : Int32))) (fun x2 => zB ((x2 + ((x2.toUInt32 >>> ((4 : Int32).toUInt32 &&& Int32.toUInt32 31)).toInt32)) &&& (252645135 : Int32)) (fun x3 => zB (x3 + ((x3.toUInt32 >>> ((8 : Int32).toUInt32 &&& Int32.toUInt32 31)).toInt32)) (fun x4 => zB (x4 + ((x4.toUInt32 >>> ((16 : Int32).toUInt32 &&& Int32.toUInt32 31)).toInt32)) (fun x5 => some (x5 &&& (63 : Int32), σ)))))))
  refine z_iload_n (pc := 0) F dJ6_bitCount_0f7a4_0 rfl ?_
  refine z_iload_n (pc := 1) F dJ6_bitCount_0f7a4_1 rfl ?_
  refine z_iconst (pc := 2) F (v := 1) dJ6_bitCount_0f7a4_2 (by decide) ?_
  refine z_iushr (pc := 3) F dJ6_bitCount_0f7a4_3 ?_
  refine z_ldcw (pc := 4) F (v := 1431655765) kc_RJ6_265 dJ6_bitCount_0f7a4_4 ?_
  refine z_iand (pc := 7) F dJ6_bitCount_0f7a4_7 ?_
  refine z_isub (pc := 8) F dJ6_bitCount_0f7a4_8 ?_
  refine z_Bi (fun x1 => ?_)
  refine z_istore_n (pc := 9) F (lv' := [some (.int x1)]) dJ6_bitCount_0f7a4_9 (zlt rfl) rfl ?_
  refine z_iload_n (pc := 10) F dJ6_bitCount_0f7a4_10 rfl ?_
  refine z_ldcw (pc := 11) F (v := 858993459) kc_RJ6_266 dJ6_bitCount_0f7a4_11 ?_
  refine z_iand (pc := 14) F dJ6_bitCount_0f7a4_14 ?_
  refine z_iload_n (pc := 15) F dJ6_bitCount_0f7a4_15 rfl ?_
  refine z_iconst (pc := 16) F (v := 2) dJ6_bitCount_0f7a4_16 (by decide) ?_
  refine z_iushr (pc := 17) F dJ6_bitCount_0f7a4_17 ?_
  refine z_ldcw (pc := 18) F (v := 858993459) kc_RJ6_266 dJ6_bitCount_0f7a4_18 ?_
  refine z_iand (pc := 21) F dJ6_bitCount_0f7a4_21 ?_
  refine z_iadd (pc := 22) F dJ6_bitCount_0f7a4_22 ?_
  refine z_Bi (fun x2 => ?_)
  refine z_istore_n (pc := 23) F (lv' := [some (.int x2)]) dJ6_bitCount_0f7a4_23 (zlt rfl) rfl ?_
  refine z_iload_n (pc := 24) F dJ6_bitCount_0f7a4_24 rfl ?_
  refine z_iload_n (pc := 25) F dJ6_bitCount_0f7a4_25 rfl ?_
  refine z_iconst (pc := 26) F (v := 4) dJ6_bitCount_0f7a4_26 (by decide) ?_
  refine z_iushr (pc := 27) F dJ6_bitCount_0f7a4_27 ?_
  refine z_iadd (pc := 28) F dJ6_bitCount_0f7a4_28 ?_
  refine z_ldcw (pc := 29) F (v := 252645135) kc_RJ6_267 dJ6_bitCount_0f7a4_29 ?_
  refine z_iand (pc := 32) F dJ6_bitCount_0f7a4_32 ?_
  refine z_Bi (fun x3 => ?_)
  refine z_istore_n (pc := 33) F (lv' := [some (.int x3)]) dJ6_bitCount_0f7a4_33 (zlt rfl) rfl ?_
  refine z_iload_n (pc := 34) F dJ6_bitCount_0f7a4_34 rfl ?_
  refine z_iload_n (pc := 35) F dJ6_bitCount_0f7a4_35 rfl ?_
  refine z_bipush (pc := 36) F (v := 8) dJ6_bitCount_0f7a4_36 (by decide) ?_
  refine z_iushr (pc := 38) F dJ6_bitCount_0f7a4_38 ?_
  refine z_iadd (pc := 39) F dJ6_bitCount_0f7a4_39 ?_
  refine z_Bi (fun x4 => ?_)
  refine z_istore_n (pc := 40) F (lv' := [some (.int x4)]) dJ6_bitCount_0f7a4_40 (zlt rfl) rfl ?_
  refine z_iload_n (pc := 41) F dJ6_bitCount_0f7a4_41 rfl ?_
  refine z_iload_n (pc := 42) F dJ6_bitCount_0f7a4_42 rfl ?_
  refine z_bipush (pc := 43) F (v := 16) dJ6_bitCount_0f7a4_43 (by decide) ?_
  refine z_iushr (pc := 45) F dJ6_bitCount_0f7a4_45 ?_
  refine z_iadd (pc := 46) F dJ6_bitCount_0f7a4_46 ?_
  refine z_Bi (fun x5 => ?_)
  refine z_istore_n (pc := 47) F (lv' := [some (.int x5)]) dJ6_bitCount_0f7a4_47 (zlt rfl) rfl ?_
  refine z_iload_n (pc := 48) F dJ6_bitCount_0f7a4_48 rfl ?_
  refine z_bipush (pc := 49) F (v := 63) dJ6_bitCount_0f7a4_49 (by decide) ?_
  refine z_iand (pc := 51) F dJ6_bitCount_0f7a4_51 ?_
  exact z_iret (pc := 52) F E dJ6_bitCount_0f7a4_52
def fX6_readBy (a1 : Int32) (a2 : Int32) (σ : zS) : Option (Int32 × zS) := zIx a1 8 (zB (a2 &&& ((σ 3 0 a1.toNatClampNeg) ^^^ (-1 : Int32))) (fun x2 => zCi (fJ6_bitCount_0f7a4 x2 σ) (fun x4 s3 => if x4 = (1 : Int32) then zCi (fJ6_bitCount_0f7a4 (x2 - (1 : Int32)) s3) (fun x6 s5 => some (x6, s5)) else some ((-9 : Int32), s3))))
abbrev rmX6_readBy : Room := { frames := 1, cells := 0, slots := 0, locals := 20 }
set_option maxRecDepth 100000 in
set_option maxHeartbeats 4000000 in
theorem tX6_readBy (l : Launch) (σ : zS) (a1 : Int32) (a2 : Int32) : zMi l yX6_readBy cX6_readBy 4 (some .int) rmX6_readBy (fun ad => [.ref (ad 1 0), .int a1, .int a2]) σ (fX6_readBy a1 a2 σ) := by
  refine zMi.of RX6 (by decide +kernel) rfl (fun _ => Nat.le_of_ble_eq_true rfl) (fun _ => zcat rfl) (fun K t F hR hL E => ?_)
  show ZO K t 0 [some (.ref (zad K 1 0)), some (.int a1), some (.int a2), none] [] σ (zIx a1 8 (zB (a2 &&& ((σ 3 0 a1.toNatClampNeg) ^^^ (-1 : Int32))) (fun x2 => zCi (fJ6_bitCount_0f7a4 x2 σ) (fun x4 s3 => if x4 = (1 : Int32) then zCi (fJ6_bitCount_0f7a4 (x2 - (1 : Int32)) s3) (fun x6 s5 => some (x6, s5)) else some ((-9 : Int32), s3)))))
  refine z_iload_n (pc := 0) F dX6_readBy_0 rfl ?_
  refine z_aload_n (pc := 1) F dX6_readBy_1 rfl ?_
  refine z_get (pc := 2) F 1 0 1 (v := .ref (zad K 3 0)) (by decide) (fun _ => rfl) rfl (by decide) inlX6 lk_RX6_15 rfl dX6_readBy_2 ?_
  refine z_iload_n (pc := 5) F dX6_readBy_5 rfl ?_
  refine z_ix (fun h1 => ?_)
  refine z_iald (pc := 6) F 3 0 (by decide) (fun _ => rfl) h1 dX6_readBy_6 ?_
  refine z_iconst (pc := 7) F (v := -1) dX6_readBy_7 (by decide) ?_
  refine z_ixor (pc := 8) F dX6_readBy_8 ?_
  refine z_iand (pc := 9) F dX6_readBy_9 ?_
  refine z_Bi (fun x2 => ?_)
  refine z_istore_n (pc := 10) F (lv' := [some (.ref (zad K 1 0)), some (.int a1), some (.int a2), some (.int x2)]) dX6_readBy_10 (zlt rfl) rfl ?_
  refine z_iload_n (pc := 11) F dX6_readBy_11 rfl ?_
  refine z_callSi (pc := 12) (st := []) F [.int x2] cl_RX6_60 (tJ6_bitCount_0f7a4 (zln K) σ x2) rfl (by rw [hR]; exact ⟨rfl, rfl, Nat.le_of_ble_eq_true rfl, Nat.le_of_ble_eq_true rfl⟩) rfl rfl (Nat.le_of_ble_eq_true rfl) dX6_readBy_12 (fun x4 s3 => ?_)
  refine z_iconst (pc := 15) F (v := 1) dX6_readBy_15 (by decide) ?_
  refine z_icmp_ne (pc := 16) F 28 dX6_readBy_16 (by decide) (fun h7 => ?_) (fun h7 => ?_)
  · refine z_bipush (pc := 28) F (v := -9) dX6_readBy_28 (by decide) ?_
    exact z_iret (pc := 30) F E dX6_readBy_30
  · refine z_iload_n (pc := 19) F dX6_readBy_19 rfl ?_
    refine z_iconst (pc := 20) F (v := 1) dX6_readBy_20 (by decide) ?_
    refine z_isub (pc := 21) F dX6_readBy_21 ?_
    refine z_callSi (pc := 22) (st := []) F [.int (x2 - (1 : Int32))] cl_RX6_60 (tJ6_bitCount_0f7a4 (zln K) s3 (x2 - (1 : Int32))) rfl (by rw [hR]; exact ⟨rfl, rfl, Nat.le_of_ble_eq_true rfl, Nat.le_of_ble_eq_true rfl⟩) rfl rfl (Nat.le_of_ble_eq_true rfl) dX6_readBy_22 (fun x6 s5 => ?_)
    refine z_goto (pc := 25) F 30 dX6_readBy_25 (by decide) ?_
    exact z_iret (pc := 30) F E dX6_readBy_30
def fX6_countServed_4 (a1 : Int32) (k4_1 : Int32 → zS → Option (Int32 × zS)) : Nat → Int32 → Int32 → zS → Option (Int32 × zS)
  | 0, _, _, _ => none
  | (n4_1 + 1), v2_4_1, v3_4_1, w4_1 => if (w4_1 4 0 2) ≤ v3_4_1 then k4_1 v2_4_1 w4_1 else zIx v3_4_1 16 (zB (w4_1 6 0 v3_4_1.toNatClampNeg) (fun x3 => zCi (fX6_isOnAir x3 w4_1) (fun x5 s4 => if x5 = 0 then zB (v3_4_1 + 1) (fun x6 => fX6_countServed_4 a1 k4_1 n4_1 v2_4_1 x6 s4) else zCi (fX6_readBy x3 a1 s4) (fun x8 s7 => zIx v3_4_1 16 (if x8 = (s7 5 0 v3_4_1.toNatClampNeg) then zB (v2_4_1 + 1) (fun x11 => zB (v3_4_1 + 1) (fun x12 => fX6_countServed_4 a1 k4_1 n4_1 x11 x12 s7)) else zB (v3_4_1 + 1) (fun x10 => fX6_countServed_4 a1 k4_1 n4_1 v2_4_1 x10 s7))))))
def fX6_countServed (a1 : Int32) (σ : zS) : Option (Int32 × zS) := fX6_countServed_4 a1 (fun (u2_4_1 : Int32) (y4_1 : zS) => (some (u2_4_1, y4_1) : Option (Int32 × zS))) zN (0 : Int32) (0 : Int32) σ
abbrev rmX6_countServed : Room := { frames := 2, cells := 0, slots := 0, locals := 43 }
set_option maxRecDepth 100000 in
set_option maxHeartbeats 4000000 in
theorem tX6_countServed (l : Launch) (σ : zS) (a1 : Int32) : zMi l yX6_countServed cX6_countServed 5 (some .int) rmX6_countServed (fun ad => [.ref (ad 1 0), .int a1]) σ (fX6_countServed a1 σ) := by
  refine zMi.of RX6 (by decide +kernel) rfl (fun _ => Nat.le_of_ble_eq_true rfl) (fun _ => zcat rfl) (fun K t F hR hL E => ?_)
  show ZO K t 0 [some (.ref (zad K 1 0)), some (.int a1), none, none, none] [] σ (fX6_countServed_4 a1 (fun (u2_4_1 : Int32) (y4_1 : zS) => (some (u2_4_1, y4_1) : Option (Int32 × zS))) zN (0 : Int32) (0 : Int32) σ)
  refine z_iconst (pc := 0) F (v := 0) dX6_countServed_0 (by decide) ?_
  refine z_istore_n (pc := 1) F (lv' := [some (.ref (zad K 1 0)), some (.int a1), some (.int (0 : Int32)), none, none]) dX6_countServed_1 (zlt rfl) rfl ?_
  refine z_iconst (pc := 2) F (v := 0) dX6_countServed_2 (by decide) ?_
  refine z_istore_n (pc := 3) F (lv' := [some (.ref (zad K 1 0)), some (.int a1), some (.int (0 : Int32)), some (.int (0 : Int32)), none]) dX6_countServed_3 (zlt rfl) rfl ?_
  have hk4_1 : ∀ (u2_4_1 : Int32) (y4_1 : zS), ZO K t 63 [none, none, some (.int u2_4_1), none, none] [] y4_1 ((fun (u2_4_1 : Int32) (y4_1 : zS) => (some (u2_4_1, y4_1) : Option (Int32 × zS))) u2_4_1 y4_1) := by
    intro u2_4_1 y4_1
    show ZO K t 63 [none, none, some (.int u2_4_1), none, none] [] y4_1 (some (u2_4_1, y4_1))
    refine z_iload_n (pc := 63) F dX6_countServed_63 rfl ?_
    exact z_iret (pc := 64) F E dX6_countServed_64
  have L4_1 : ∀ (n4_1 : Nat) (v2_4_1 : Int32) (v3_4_1 : Int32) (w4_1 : zS), ZO K t 4 [some (.ref (zad K 1 0)), some (.int a1), some (.int v2_4_1), some (.int v3_4_1), none] [] w4_1 (fX6_countServed_4 a1 (fun (u2_4_1 : Int32) (y4_1 : zS) => (some (u2_4_1, y4_1) : Option (Int32 × zS))) n4_1 v2_4_1 v3_4_1 w4_1) := by
    revert hk4_1; generalize (fun (u2_4_1 : Int32) (y4_1 : zS) => (some (u2_4_1, y4_1) : Option (Int32 × zS))) = k4_1; intro hk4_1
    intro n4_1
    induction n4_1 with
    | zero => intro v2_4_1 v3_4_1 w4_1; exact z_none
    | succ n4_1 ih4_1 =>
      intro v2_4_1 v3_4_1 w4_1
      show ZO K t 4 [some (.ref (zad K 1 0)), some (.int a1), some (.int v2_4_1), some (.int v3_4_1), none] [] w4_1 (if (w4_1 4 0 2) ≤ v3_4_1 then k4_1 v2_4_1 w4_1 else zIx v3_4_1 16 (zB (w4_1 6 0 v3_4_1.toNatClampNeg) (fun x3 => zCi (fX6_isOnAir x3 w4_1) (fun x5 s4 => if x5 = 0 then zB (v3_4_1 + 1) (fun x6 => fX6_countServed_4 a1 k4_1 n4_1 v2_4_1 x6 s4) else zCi (fX6_readBy x3 a1 s4) (fun x8 s7 => zIx v3_4_1 16 (if x8 = (s7 5 0 v3_4_1.toNatClampNeg) then zB (v2_4_1 + 1) (fun x11 => zB (v3_4_1 + 1) (fun x12 => fX6_countServed_4 a1 k4_1 n4_1 x11 x12 s7)) else zB (v3_4_1 + 1) (fun x10 => fX6_countServed_4 a1 k4_1 n4_1 v2_4_1 x10 s7)))))))
      refine z_iload_n (pc := 4) F dX6_countServed_4 rfl ?_
      refine z_aload_n (pc := 5) F dX6_countServed_5 rfl ?_
      refine z_get (pc := 6) F 1 0 2 (v := .ref (zad K 4 0)) (by decide) (fun _ => rfl) rfl (by decide) inlX6 lk_RX6_21 rfl dX6_countServed_6 ?_
      refine z_getN (pc := 9) F 4 0 2 (v := .int (w4_1 4 0 2)) (by decide) (fun _ => rfl) rfl (by decide) inlX5 lk_RX6_51 rfl dX6_countServed_9 ?_
      refine z_icmp_ge (pc := 12) F 63 dX6_countServed_12 (by decide) (fun h15 => ?_) (fun h15 => ?_)
      · refine z_wk [false, false, true, false, true] (lv' := [none, none, some (.int v2_4_1), none, none]) rfl ?_
        exact hk4_1 v2_4_1 w4_1
      · refine z_aload_n (pc := 15) F dX6_countServed_15 rfl ?_
        refine z_get (pc := 16) F 1 0 2 (v := .ref (zad K 4 0)) (by decide) (fun _ => rfl) rfl (by decide) inlX6 lk_RX6_21 rfl dX6_countServed_16 ?_
        refine z_getN (pc := 19) F 4 0 1 (v := .ref (zad K 6 0)) (by decide) (fun _ => rfl) rfl (by decide) inlX5 lk_RX6_72 rfl dX6_countServed_19 ?_
        refine z_iload_n (pc := 22) F dX6_countServed_22 rfl ?_
        refine z_ix (fun h2 => ?_)
        refine z_iald (pc := 23) F 6 0 (by decide) (fun _ => rfl) h2 dX6_countServed_23 ?_
        refine z_Bi (fun x3 => ?_)
        refine z_istore (pc := 24) F (lv' := [some (.ref (zad K 1 0)), some (.int a1), some (.int v2_4_1), some (.int v3_4_1), some (.int x3)]) dX6_countServed_24 (zlt rfl) rfl ?_
        refine z_aload_n (pc := 26) F dX6_countServed_26 rfl ?_
        refine z_iload (pc := 27) F dX6_countServed_27 rfl ?_
        refine z_callVi (pc := 29) (st := []) F 1 0 [.int x3] cl_RX6_65 (tX6_isOnAir (zln K) w4_1 x3) rfl (by decide) (fun _ => ⟨_, rfl⟩) rfl (by rw [hR]; exact ⟨rfl, rfl, Nat.le_of_ble_eq_true rfl, Nat.le_of_ble_eq_true rfl⟩) rfl rfl (Nat.le_of_ble_eq_true rfl) dX6_countServed_29 (fun x5 s4 => ?_)
        refine z_if_eq (pc := 32) F 57 dX6_countServed_32 (by decide) (fun h14 => ?_) (fun h14 => ?_)
        · refine z_iincB (pc := 57) F (lv' := fun x6 => [some (.ref (zad K 1 0)), some (.int a1), some (.int v2_4_1), some (.int x6), some (.int x3)]) dX6_countServed_57 rfl rfl (fun _ => rfl) (fun x6 => ?_)
          refine z_goto (pc := 60) F 4 dX6_countServed_60 (by decide) ?_
          refine z_wk [true, true, true, true, false] (lv' := [some (.ref (zad K 1 0)), some (.int a1), some (.int v2_4_1), some (.int x6), none]) rfl ?_
          exact ih4_1 v2_4_1 x6 s4
        · refine z_aload_n (pc := 35) F dX6_countServed_35 rfl ?_
          refine z_iload (pc := 36) F dX6_countServed_36 rfl ?_
          refine z_iload_n (pc := 38) F dX6_countServed_38 rfl ?_
          refine z_callVi (pc := 39) (st := []) F 1 0 [.int x3, .int a1] cl_RX6_68 (tX6_readBy (zln K) s4 x3 a1) rfl (by decide) (fun _ => ⟨_, rfl⟩) rfl (by rw [hR]; exact ⟨rfl, rfl, Nat.le_of_ble_eq_true rfl, Nat.le_of_ble_eq_true rfl⟩) rfl rfl (Nat.le_of_ble_eq_true rfl) dX6_countServed_39 (fun x8 s7 => ?_)
          refine z_aload_n (pc := 42) F dX6_countServed_42 rfl ?_
          refine z_get (pc := 43) F 1 0 2 (v := .ref (zad K 4 0)) (by decide) (fun _ => rfl) rfl (by decide) inlX6 lk_RX6_21 rfl dX6_countServed_43 ?_
          refine z_getN (pc := 46) F 4 0 0 (v := .ref (zad K 5 0)) (by decide) (fun _ => rfl) rfl (by decide) inlX5 lk_RX6_75 rfl dX6_countServed_46 ?_
          refine z_iload_n (pc := 49) F dX6_countServed_49 rfl ?_
          refine z_ix (fun h9 => ?_)
          refine z_iald (pc := 50) F 5 0 (by decide) (fun _ => rfl) h9 dX6_countServed_50 ?_
          refine z_icmp_ne (pc := 51) F 57 dX6_countServed_51 (by decide) (fun h13 => ?_) (fun h13 => ?_)
          · refine z_iincB (pc := 57) F (lv' := fun x10 => [some (.ref (zad K 1 0)), some (.int a1), some (.int v2_4_1), some (.int x10), some (.int x3)]) dX6_countServed_57 rfl rfl (fun _ => rfl) (fun x10 => ?_)
            refine z_goto (pc := 60) F 4 dX6_countServed_60 (by decide) ?_
            refine z_wk [true, true, true, true, false] (lv' := [some (.ref (zad K 1 0)), some (.int a1), some (.int v2_4_1), some (.int x10), none]) rfl ?_
            exact ih4_1 v2_4_1 x10 s7
          · refine z_iincB (pc := 54) F (lv' := fun x11 => [some (.ref (zad K 1 0)), some (.int a1), some (.int x11), some (.int v3_4_1), some (.int x3)]) dX6_countServed_54 rfl rfl (fun _ => rfl) (fun x11 => ?_)
            refine z_iincB (pc := 57) F (lv' := fun x12 => [some (.ref (zad K 1 0)), some (.int a1), some (.int x11), some (.int x12), some (.int x3)]) dX6_countServed_57 rfl rfl (fun _ => rfl) (fun x12 => ?_)
            refine z_goto (pc := 60) F 4 dX6_countServed_60 (by decide) ?_
            refine z_wk [true, true, true, true, false] (lv' := [some (.ref (zad K 1 0)), some (.int a1), some (.int x11), some (.int x12), none]) rfl ?_
            exact ih4_1 x11 x12 s7
  exact L4_1 zN (0 : Int32) (0 : Int32) σ
def fX6_give (a1 : Int32) (a2 : Int32) (σ : zS) : Option (Int32 × zS) := zIx a1 8 (zIx a1 8 (zB (zU σ 3 0 a1.toNatClampNeg ((σ 3 0 a1.toNatClampNeg) ||| ((1 : Int32) <<< (a2 &&& 31)))) (fun s3 => zCi (fX5_removePair a2 a1 s3) (fun x5 s4 => zGd (x5 = 0 ∨ x5 = 1) (some (x5, s4))))))
abbrev rmX6_give : Room := { frames := 2, cells := 0, slots := 0, locals := 47 }
set_option maxRecDepth 100000 in
set_option maxHeartbeats 4000000 in
theorem tX6_give (l : Launch) (σ : zS) (a1 : Int32) (a2 : Int32) : zMi l yX6_give cX6_give 3 (some .boolean) rmX6_give (fun ad => [.ref (ad 1 0), .int a1, .int a2]) σ (fX6_give a1 a2 σ) := by
  refine zMi.of RX6 (by decide +kernel) rfl (fun _ => Nat.le_of_ble_eq_true rfl) (fun _ => zcat rfl) (fun K t F hR hL E => ?_)
  show ZO K t 0 [some (.ref (zad K 1 0)), some (.int a1), some (.int a2)] [] σ (zIx a1 8 (zIx a1 8 (zB (zU σ 3 0 a1.toNatClampNeg ((σ 3 0 a1.toNatClampNeg) ||| ((1 : Int32) <<< (a2 &&& 31)))) (fun s3 => zCi (fX5_removePair a2 a1 s3) (fun x5 s4 => zGd (x5 = 0 ∨ x5 = 1) (some (x5, s4)))))))
  refine z_aload_n (pc := 0) F dX6_give_0 rfl ?_
  refine z_get (pc := 1) F 1 0 1 (v := .ref (zad K 3 0)) (by decide) (fun _ => rfl) rfl (by decide) inlX6 lk_RX6_15 rfl dX6_give_1 ?_
  refine z_iload_n (pc := 4) F dX6_give_4 rfl ?_
  refine z_dup2 (pc := 5) F dX6_give_5 rfl rfl ?_
  refine z_ix (fun h1 => ?_)
  refine z_iald (pc := 6) F 3 0 (by decide) (fun _ => rfl) h1 dX6_give_6 ?_
  refine z_iconst (pc := 7) F (v := 1) dX6_give_7 (by decide) ?_
  refine z_iload_n (pc := 8) F dX6_give_8 rfl ?_
  refine z_ishl (pc := 9) F dX6_give_9 ?_
  refine z_ior (pc := 10) F dX6_give_10 ?_
  refine z_ix (fun h2 => ?_)
  refine z_iast (pc := 11) F 3 0 (by decide) (fun _ _ => rfl) h2 dX6_give_11 (fun s3 => ?_)
  refine z_aload_n (pc := 12) F dX6_give_12 rfl ?_
  refine z_get (pc := 13) F 1 0 2 (v := .ref (zad K 4 0)) (by decide) (fun _ => rfl) rfl (by decide) inlX6 lk_RX6_21 rfl dX6_give_13 ?_
  refine z_iload_n (pc := 16) F dX6_give_16 rfl ?_
  refine z_iload_n (pc := 17) F dX6_give_17 rfl ?_
  refine z_callNi (pc := 18) (st := []) F 4 0 [.int a2, .int a1] cl_RX6_47 (tX5_removePair (zln K) s3 a2 a1) rfl (by decide) (fun _ => ⟨_, rfl⟩) rfl (by rw [hR]; exact ⟨rfl, rfl, Nat.le_of_ble_eq_true rfl, Nat.le_of_ble_eq_true rfl⟩) rfl rfl (Nat.le_of_ble_eq_true rfl) dX6_give_18 (fun x5 s4 => ?_)
  refine z_gd (fun h6 => ?_)
  exact z_zret (pc := 21) F E (zNarB h6) dX6_give_21
def fX6_deliver_4 (a1 : Int32) (k4_1 : Int32 → zS → Option (Int32 × zS)) : Nat → Int32 → Int32 → zS → Option (Int32 × zS)
  | 0, _, _, _ => none
  | (n4_1 + 1), v2_4_1, v3_4_1, w4_1 => if (8 : Int32) ≤ v3_4_1 then k4_1 v2_4_1 w4_1 else zCi (fX6_readBy v3_4_1 a1 w4_1) (fun x5 s4 => zCi (fX6_isOnAir v3_4_1 s4) (fun x7 s6 => if x7 = 0 then zB (v3_4_1 + 1) (fun x8 => fX6_deliver_4 a1 k4_1 n4_1 v2_4_1 x8 s6) else if x5 = (-9 : Int32) then zB (v3_4_1 + 1) (fun x9 => fX6_deliver_4 a1 k4_1 n4_1 v2_4_1 x9 s6) else zCi (fX6_give v3_4_1 x5 s6) (fun x11 s10 => if x11 = 0 then zB (v3_4_1 + 1) (fun x12 => fX6_deliver_4 a1 k4_1 n4_1 v2_4_1 x12 s10) else zB (v2_4_1 + 1) (fun x13 => zB (v3_4_1 + 1) (fun x14 => fX6_deliver_4 a1 k4_1 n4_1 x13 x14 s10)))))
def fX6_deliver (a1 : Int32) (σ : zS) : Option (Int32 × zS) := fX6_deliver_4 a1 (fun (u2_4_1 : Int32) (y4_1 : zS) => (zB (zU y4_1 1 0 6 ((y4_1 1 0 6) + (1 : Int32))) (fun s2 => zB (zU s2 1 0 7 ((s2 1 0 7) + u2_4_1)) (fun s3 => some (u2_4_1, s3))) : Option (Int32 × zS))) zN (0 : Int32) (0 : Int32) σ
abbrev rmX6_deliver : Room := { frames := 3, cells := 0, slots := 0, locals := 69 }
set_option maxRecDepth 100000 in
set_option maxHeartbeats 4000000 in
theorem tX6_deliver (l : Launch) (σ : zS) (a1 : Int32) : zMi l yX6_deliver cX6_deliver 5 (some .int) rmX6_deliver (fun ad => [.ref (ad 1 0), .int a1]) σ (fX6_deliver a1 σ) := by
  refine zMi.of RX6 (by decide +kernel) rfl (fun _ => Nat.le_of_ble_eq_true rfl) (fun _ => zcat rfl) (fun K t F hR hL E => ?_)
  show ZO K t 0 [some (.ref (zad K 1 0)), some (.int a1), none, none, none] [] σ (fX6_deliver_4 a1 (fun (u2_4_1 : Int32) (y4_1 : zS) => (zB (zU y4_1 1 0 6 ((y4_1 1 0 6) + (1 : Int32))) (fun s2 => zB (zU s2 1 0 7 ((s2 1 0 7) + u2_4_1)) (fun s3 => some (u2_4_1, s3))) : Option (Int32 × zS))) zN (0 : Int32) (0 : Int32) σ)
  refine z_iconst (pc := 0) F (v := 0) dX6_deliver_0 (by decide) ?_
  refine z_istore_n (pc := 1) F (lv' := [some (.ref (zad K 1 0)), some (.int a1), some (.int (0 : Int32)), none, none]) dX6_deliver_1 (zlt rfl) rfl ?_
  refine z_iconst (pc := 2) F (v := 0) dX6_deliver_2 (by decide) ?_
  refine z_istore_n (pc := 3) F (lv' := [some (.ref (zad K 1 0)), some (.int a1), some (.int (0 : Int32)), some (.int (0 : Int32)), none]) dX6_deliver_3 (zlt rfl) rfl ?_
  have hk4_1 : ∀ (u2_4_1 : Int32) (y4_1 : zS), ZO K t 52 [some (.ref (zad K 1 0)), none, some (.int u2_4_1), none, none] [] y4_1 ((fun (u2_4_1 : Int32) (y4_1 : zS) => (zB (zU y4_1 1 0 6 ((y4_1 1 0 6) + (1 : Int32))) (fun s2 => zB (zU s2 1 0 7 ((s2 1 0 7) + u2_4_1)) (fun s3 => some (u2_4_1, s3))) : Option (Int32 × zS))) u2_4_1 y4_1) := by
    intro u2_4_1 y4_1
    show ZO K t 52 [some (.ref (zad K 1 0)), none, some (.int u2_4_1), none, none] [] y4_1 (zB (zU y4_1 1 0 6 ((y4_1 1 0 6) + (1 : Int32))) (fun s2 => zB (zU s2 1 0 7 ((s2 1 0 7) + u2_4_1)) (fun s3 => some (u2_4_1, s3))))
    refine z_aload_n (pc := 52) F dX6_deliver_52 rfl ?_
    refine z_dup (pc := 53) F dX6_deliver_53 rfl ?_
    refine z_get (pc := 54) F 1 0 6 (v := .int (y4_1 1 0 6)) (by decide) (fun _ => rfl) rfl (by decide) inlX6 lk_RX6_54 rfl dX6_deliver_54 ?_
    refine z_iconst (pc := 57) F (v := 1) dX6_deliver_57 (by decide) ?_
    refine z_iadd (pc := 58) F dX6_deliver_58 ?_
    refine z_put (pc := 59) F 1 0 6 tyX6 tyX6_ok nmX6 (by decide) (fun _ => rfl) rfl (by decide) inlX6 lk_RX6_54 rfl (by decide +kernel) (fun _ => Nat.le_of_ble_eq_true rfl) (fun _ => rfl) dX6_deliver_59 (fun s2 => ?_)
    refine z_aload_n (pc := 62) F dX6_deliver_62 rfl ?_
    refine z_dup (pc := 63) F dX6_deliver_63 rfl ?_
    refine z_get (pc := 64) F 1 0 7 (v := .int (s2 1 0 7)) (by decide) (fun _ => rfl) rfl (by decide) inlX6 lk_RX6_57 rfl dX6_deliver_64 ?_
    refine z_iload_n (pc := 67) F dX6_deliver_67 rfl ?_
    refine z_iadd (pc := 68) F dX6_deliver_68 ?_
    refine z_put (pc := 69) F 1 0 7 tyX6 tyX6_ok nmX6 (by decide) (fun _ => rfl) rfl (by decide) inlX6 lk_RX6_57 rfl (by decide +kernel) (fun _ => Nat.le_of_ble_eq_true rfl) (fun _ => rfl) dX6_deliver_69 (fun s3 => ?_)
    refine z_iload_n (pc := 72) F dX6_deliver_72 rfl ?_
    exact z_iret (pc := 73) F E dX6_deliver_73
  have L4_1 : ∀ (n4_1 : Nat) (v2_4_1 : Int32) (v3_4_1 : Int32) (w4_1 : zS), ZO K t 4 [some (.ref (zad K 1 0)), some (.int a1), some (.int v2_4_1), some (.int v3_4_1), none] [] w4_1 (fX6_deliver_4 a1 (fun (u2_4_1 : Int32) (y4_1 : zS) => (zB (zU y4_1 1 0 6 ((y4_1 1 0 6) + (1 : Int32))) (fun s2 => zB (zU s2 1 0 7 ((s2 1 0 7) + u2_4_1)) (fun s3 => some (u2_4_1, s3))) : Option (Int32 × zS))) n4_1 v2_4_1 v3_4_1 w4_1) := by
    revert hk4_1; generalize (fun (u2_4_1 : Int32) (y4_1 : zS) => (zB (zU y4_1 1 0 6 ((y4_1 1 0 6) + (1 : Int32))) (fun s2 => zB (zU s2 1 0 7 ((s2 1 0 7) + u2_4_1)) (fun s3 => some (u2_4_1, s3))) : Option (Int32 × zS))) = k4_1; intro hk4_1
    intro n4_1
    induction n4_1 with
    | zero => intro v2_4_1 v3_4_1 w4_1; exact z_none
    | succ n4_1 ih4_1 =>
      intro v2_4_1 v3_4_1 w4_1
      show ZO K t 4 [some (.ref (zad K 1 0)), some (.int a1), some (.int v2_4_1), some (.int v3_4_1), none] [] w4_1 (if (8 : Int32) ≤ v3_4_1 then k4_1 v2_4_1 w4_1 else zCi (fX6_readBy v3_4_1 a1 w4_1) (fun x5 s4 => zCi (fX6_isOnAir v3_4_1 s4) (fun x7 s6 => if x7 = 0 then zB (v3_4_1 + 1) (fun x8 => fX6_deliver_4 a1 k4_1 n4_1 v2_4_1 x8 s6) else if x5 = (-9 : Int32) then zB (v3_4_1 + 1) (fun x9 => fX6_deliver_4 a1 k4_1 n4_1 v2_4_1 x9 s6) else zCi (fX6_give v3_4_1 x5 s6) (fun x11 s10 => if x11 = 0 then zB (v3_4_1 + 1) (fun x12 => fX6_deliver_4 a1 k4_1 n4_1 v2_4_1 x12 s10) else zB (v2_4_1 + 1) (fun x13 => zB (v3_4_1 + 1) (fun x14 => fX6_deliver_4 a1 k4_1 n4_1 x13 x14 s10))))))
      refine z_iload_n (pc := 4) F dX6_deliver_4 rfl ?_
      refine z_bipush (pc := 5) F (v := 8) dX6_deliver_5 (by decide) ?_
      refine z_icmp_ge (pc := 7) F 52 dX6_deliver_7 (by decide) (fun h18 => ?_) (fun h18 => ?_)
      · refine z_wk [true, false, true, false, true] (lv' := [some (.ref (zad K 1 0)), none, some (.int v2_4_1), none, none]) rfl ?_
        exact hk4_1 v2_4_1 w4_1
      · refine z_aload_n (pc := 10) F dX6_deliver_10 rfl ?_
        refine z_iload_n (pc := 11) F dX6_deliver_11 rfl ?_
        refine z_iload_n (pc := 12) F dX6_deliver_12 rfl ?_
        refine z_callVi (pc := 13) (st := []) F 1 0 [.int v3_4_1, .int a1] cl_RX6_68 (tX6_readBy (zln K) w4_1 v3_4_1 a1) rfl (by decide) (fun _ => ⟨_, rfl⟩) rfl (by rw [hR]; exact ⟨rfl, rfl, Nat.le_of_ble_eq_true rfl, Nat.le_of_ble_eq_true rfl⟩) rfl rfl (Nat.le_of_ble_eq_true rfl) dX6_deliver_13 (fun x5 s4 => ?_)
        refine z_istore (pc := 16) F (lv' := [some (.ref (zad K 1 0)), some (.int a1), some (.int v2_4_1), some (.int v3_4_1), some (.int x5)]) dX6_deliver_16 (zlt rfl) rfl ?_
        refine z_aload_n (pc := 18) F dX6_deliver_18 rfl ?_
        refine z_iload_n (pc := 19) F dX6_deliver_19 rfl ?_
        refine z_callVi (pc := 20) (st := []) F 1 0 [.int v3_4_1] cl_RX6_65 (tX6_isOnAir (zln K) s4 v3_4_1) rfl (by decide) (fun _ => ⟨_, rfl⟩) rfl (by rw [hR]; exact ⟨rfl, rfl, Nat.le_of_ble_eq_true rfl, Nat.le_of_ble_eq_true rfl⟩) rfl rfl (Nat.le_of_ble_eq_true rfl) dX6_deliver_20 (fun x7 s6 => ?_)
        refine z_if_eq (pc := 23) F 46 dX6_deliver_23 (by decide) (fun h17 => ?_) (fun h17 => ?_)
        · refine z_iincB (pc := 46) F (lv' := fun x8 => [some (.ref (zad K 1 0)), some (.int a1), some (.int v2_4_1), some (.int x8), some (.int x5)]) dX6_deliver_46 rfl rfl (fun _ => rfl) (fun x8 => ?_)
          refine z_goto (pc := 49) F 4 dX6_deliver_49 (by decide) ?_
          refine z_wk [true, true, true, true, false] (lv' := [some (.ref (zad K 1 0)), some (.int a1), some (.int v2_4_1), some (.int x8), none]) rfl ?_
          exact ih4_1 v2_4_1 x8 s6
        · refine z_iload (pc := 26) F dX6_deliver_26 rfl ?_
          refine z_bipush (pc := 28) F (v := -9) dX6_deliver_28 (by decide) ?_
          refine z_icmp_eq (pc := 30) F 46 dX6_deliver_30 (by decide) (fun h16 => ?_) (fun h16 => ?_)
          · refine z_iincB (pc := 46) F (lv' := fun x9 => [some (.ref (zad K 1 0)), some (.int a1), some (.int v2_4_1), some (.int x9), some (.int x5)]) dX6_deliver_46 rfl rfl (fun _ => rfl) (fun x9 => ?_)
            refine z_goto (pc := 49) F 4 dX6_deliver_49 (by decide) ?_
            refine z_wk [true, true, true, true, false] (lv' := [some (.ref (zad K 1 0)), some (.int a1), some (.int v2_4_1), some (.int x9), none]) rfl ?_
            exact ih4_1 v2_4_1 x9 s6
          · refine z_aload_n (pc := 33) F dX6_deliver_33 rfl ?_
            refine z_iload_n (pc := 34) F dX6_deliver_34 rfl ?_
            refine z_iload (pc := 35) F dX6_deliver_35 rfl ?_
            refine z_callVi (pc := 37) (st := []) F 1 0 [.int v3_4_1, .int x5] cl_RX6_85 (tX6_give (zln K) s6 v3_4_1 x5) rfl (by decide) (fun _ => ⟨_, rfl⟩) rfl (by rw [hR]; exact ⟨rfl, rfl, Nat.le_of_ble_eq_true rfl, Nat.le_of_ble_eq_true rfl⟩) rfl rfl (Nat.le_of_ble_eq_true rfl) dX6_deliver_37 (fun x11 s10 => ?_)
            refine z_if_eq (pc := 40) F 46 dX6_deliver_40 (by decide) (fun h15 => ?_) (fun h15 => ?_)
            · refine z_iincB (pc := 46) F (lv' := fun x12 => [some (.ref (zad K 1 0)), some (.int a1), some (.int v2_4_1), some (.int x12), some (.int x5)]) dX6_deliver_46 rfl rfl (fun _ => rfl) (fun x12 => ?_)
              refine z_goto (pc := 49) F 4 dX6_deliver_49 (by decide) ?_
              refine z_wk [true, true, true, true, false] (lv' := [some (.ref (zad K 1 0)), some (.int a1), some (.int v2_4_1), some (.int x12), none]) rfl ?_
              exact ih4_1 v2_4_1 x12 s10
            · refine z_iincB (pc := 43) F (lv' := fun x13 => [some (.ref (zad K 1 0)), some (.int a1), some (.int x13), some (.int v3_4_1), some (.int x5)]) dX6_deliver_43 rfl rfl (fun _ => rfl) (fun x13 => ?_)
              refine z_iincB (pc := 46) F (lv' := fun x14 => [some (.ref (zad K 1 0)), some (.int a1), some (.int x13), some (.int x14), some (.int x5)]) dX6_deliver_46 rfl rfl (fun _ => rfl) (fun x14 => ?_)
              refine z_goto (pc := 49) F 4 dX6_deliver_49 (by decide) ?_
              refine z_wk [true, true, true, true, false] (lv' := [some (.ref (zad K 1 0)), some (.int a1), some (.int x13), some (.int x14), none]) rfl ?_
              exact ih4_1 x13 x14 s10
  exact L4_1 zN (0 : Int32) (0 : Int32) σ
def fX6_firstOnAir_2 (k2_1 : zS → Option (Int32 × zS)) : Nat → Int32 → zS → Option (Int32 × zS)
  | 0, _, _ => none
  | (n2_1 + 1), v1_2_1, w2_1 => if (w2_1 4 0 2) ≤ v1_2_1 then k2_1 w2_1 else zIx v1_2_1 16 (zCi (fX6_isOnAir (w2_1 6 0 v1_2_1.toNatClampNeg) w2_1) (fun x4 s3 => if x4 = 0 then zB (v1_2_1 + 1) (fun x5 => fX6_firstOnAir_2 k2_1 n2_1 x5 s3) else some (v1_2_1, s3)))
def fX6_firstOnAir (σ : zS) : Option (Int32 × zS) := fX6_firstOnAir_2 (fun (y2_1 : zS) => (some ((-1 : Int32), y2_1) : Option (Int32 × zS))) zN (0 : Int32) σ
abbrev rmX6_firstOnAir : Room := { frames := 1, cells := 0, slots := 0, locals := 21 }
set_option maxRecDepth 100000 in
set_option maxHeartbeats 4000000 in
theorem tX6_firstOnAir (l : Launch) (σ : zS) : zMi l yX6_firstOnAir cX6_firstOnAir 2 (some .int) rmX6_firstOnAir (fun ad => [.ref (ad 1 0)]) σ (fX6_firstOnAir σ) := by
  refine zMi.of RX6 (by decide +kernel) rfl (fun _ => Nat.le_of_ble_eq_true rfl) (fun _ => zcat rfl) (fun K t F hR hL E => ?_)
  show ZO K t 0 [some (.ref (zad K 1 0)), none] [] σ (fX6_firstOnAir_2 (fun (y2_1 : zS) => (some ((-1 : Int32), y2_1) : Option (Int32 × zS))) zN (0 : Int32) σ)
  refine z_iconst (pc := 0) F (v := 0) dX6_firstOnAir_0 (by decide) ?_
  refine z_istore_n (pc := 1) F (lv' := [some (.ref (zad K 1 0)), some (.int (0 : Int32))]) dX6_firstOnAir_1 (zlt rfl) rfl ?_
  have hk2_1 : ∀ (y2_1 : zS), ZO K t 37 [none, none] [] y2_1 ((fun (y2_1 : zS) => (some ((-1 : Int32), y2_1) : Option (Int32 × zS))) y2_1) := by
    intro y2_1
    show ZO K t 37 [none, none] [] y2_1 (some ((-1 : Int32), y2_1))
    refine z_iconst (pc := 37) F (v := -1) dX6_firstOnAir_37 (by decide) ?_
    exact z_iret (pc := 38) F E dX6_firstOnAir_38
  have L2_1 : ∀ (n2_1 : Nat) (v1_2_1 : Int32) (w2_1 : zS), ZO K t 2 [some (.ref (zad K 1 0)), some (.int v1_2_1)] [] w2_1 (fX6_firstOnAir_2 (fun (y2_1 : zS) => (some ((-1 : Int32), y2_1) : Option (Int32 × zS))) n2_1 v1_2_1 w2_1) := by
    revert hk2_1; generalize (fun (y2_1 : zS) => (some ((-1 : Int32), y2_1) : Option (Int32 × zS))) = k2_1; intro hk2_1
    intro n2_1
    induction n2_1 with
    | zero => intro v1_2_1 w2_1; exact z_none
    | succ n2_1 ih2_1 =>
      intro v1_2_1 w2_1
      show ZO K t 2 [some (.ref (zad K 1 0)), some (.int v1_2_1)] [] w2_1 (if (w2_1 4 0 2) ≤ v1_2_1 then k2_1 w2_1 else zIx v1_2_1 16 (zCi (fX6_isOnAir (w2_1 6 0 v1_2_1.toNatClampNeg) w2_1) (fun x4 s3 => if x4 = 0 then zB (v1_2_1 + 1) (fun x5 => fX6_firstOnAir_2 k2_1 n2_1 x5 s3) else some (v1_2_1, s3))))
      refine z_iload_n (pc := 2) F dX6_firstOnAir_2 rfl ?_
      refine z_aload_n (pc := 3) F dX6_firstOnAir_3 rfl ?_
      refine z_get (pc := 4) F 1 0 2 (v := .ref (zad K 4 0)) (by decide) (fun _ => rfl) rfl (by decide) inlX6 lk_RX6_21 rfl dX6_firstOnAir_4 ?_
      refine z_getN (pc := 7) F 4 0 2 (v := .int (w2_1 4 0 2)) (by decide) (fun _ => rfl) rfl (by decide) inlX5 lk_RX6_51 rfl dX6_firstOnAir_7 ?_
      refine z_icmp_ge (pc := 10) F 37 dX6_firstOnAir_10 (by decide) (fun h7 => ?_) (fun h7 => ?_)
      · refine z_wk [false, false] (lv' := [none, none]) rfl ?_
        exact hk2_1  w2_1
      · refine z_aload_n (pc := 13) F dX6_firstOnAir_13 rfl ?_
        refine z_aload_n (pc := 14) F dX6_firstOnAir_14 rfl ?_
        refine z_get (pc := 15) F 1 0 2 (v := .ref (zad K 4 0)) (by decide) (fun _ => rfl) rfl (by decide) inlX6 lk_RX6_21 rfl dX6_firstOnAir_15 ?_
        refine z_getN (pc := 18) F 4 0 1 (v := .ref (zad K 6 0)) (by decide) (fun _ => rfl) rfl (by decide) inlX5 lk_RX6_72 rfl dX6_firstOnAir_18 ?_
        refine z_iload_n (pc := 21) F dX6_firstOnAir_21 rfl ?_
        refine z_ix (fun h2 => ?_)
        refine z_iald (pc := 22) F 6 0 (by decide) (fun _ => rfl) h2 dX6_firstOnAir_22 ?_
        refine z_callVi (pc := 23) (st := []) F 1 0 [.int (w2_1 6 0 v1_2_1.toNatClampNeg)] cl_RX6_65 (tX6_isOnAir (zln K) w2_1 (w2_1 6 0 v1_2_1.toNatClampNeg)) rfl (by decide) (fun _ => ⟨_, rfl⟩) rfl (by rw [hR]; exact ⟨rfl, rfl, Nat.le_of_ble_eq_true rfl, Nat.le_of_ble_eq_true rfl⟩) rfl rfl (Nat.le_of_ble_eq_true rfl) dX6_firstOnAir_23 (fun x4 s3 => ?_)
        refine z_if_eq (pc := 26) F 31 dX6_firstOnAir_26 (by decide) (fun h6 => ?_) (fun h6 => ?_)
        · refine z_iincB (pc := 31) F (lv' := fun x5 => [some (.ref (zad K 1 0)), some (.int x5)]) dX6_firstOnAir_31 rfl rfl (fun _ => rfl) (fun x5 => ?_)
          refine z_goto (pc := 34) F 2 dX6_firstOnAir_34 (by decide) ?_
          exact ih2_1 x5 s3
        · refine z_iload_n (pc := 29) F dX6_firstOnAir_29 rfl ?_
          exact z_iret (pc := 30) F E dX6_firstOnAir_30
  exact L2_1 zN (0 : Int32) σ
