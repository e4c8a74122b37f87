def fX9_best (σ : zS) : Option (Int32 × zS) := zCi (fX9_bestSum σ) (fun x2 s1 => some (x2, s1))
abbrev rmX9_best : Room := { frames := 6, cells := 0, slots := 0, locals := 138 }
set_option maxRecDepth 100000 in
set_option maxHeartbeats 4000000 in
theorem tX9_best (l : Launch) (σ : zS) : zMi l yX9_best cX9_best 1 (some .int) rmX9_best (fun ad => [.ref (ad 21 0)]) σ (fX9_best σ) := by
  refine zMi.of RX9 (by decide +kernel) rfl (fun _ => Nat.le_of_ble_eq_true rfl) (fun _ => zcat rfl) (fun K t F hR hL E => ?_)
  show ZO K t 0 [some (.ref (zad K 21 0))] [] σ (zCi (fX9_bestSum σ) (fun x2 s1 => some (x2, s1)))
  refine z_aload_n (pc := 0) F dX9_best_0 rfl ?_
  refine z_callVi (pc := 1) (st := []) F 21 0 [] cl_RX9_127 (tX9_bestSum (zln K) σ ) rfl (by decide) (fun _ => ⟨_, rfl⟩) rfl (by rw [hR]; exact ⟨rfl, rfl, Nat.le_of_ble_eq_true rfl, Nat.le_of_ble_eq_true rfl⟩) rfl rfl (Nat.le_of_ble_eq_true rfl) dX9_best_1 (fun x2 s1 => ?_)
  exact z_iret (pc := 4) F E dX9_best_4
def fX9_bodyBy_4 (a1 : Int32) (k4_1 : Int32 → zS → Option (Int32 × zS)) : Nat → Int32 → Int32 → zS → Option (Int32 × zS)
  | 0, _, _, _ => none
  | (n4_1 + 1), v2_4_1, v3_4_1, w4_1 => if (10 : Int32) ≤ v3_4_1 then k4_1 v2_4_1 w4_1 else zCi (fX9_isIn a1 v3_4_1 w4_1) (fun x3 s2 => if x3 = 0 then zB (v2_4_1 ^^^ (0 : Int32)) (fun x4 => zB (v3_4_1 + 1) (fun x5 => fX9_bodyBy_4 a1 k4_1 n4_1 x4 x5 s2)) else zIx v3_4_1 10 (zB (v2_4_1 ^^^ (s2 22 0 v3_4_1.toNatClampNeg)) (fun x7 => zB (v3_4_1 + 1) (fun x8 => fX9_bodyBy_4 a1 k4_1 n4_1 x7 x8 s2))))
def fX9_bodyBy (a1 : Int32) (σ : zS) : Option (Int32 × zS) := fX9_bodyBy_4 a1 (fun (u2_4_1 : Int32) (y4_1 : zS) => (some (u2_4_1, y4_1) : Option (Int32 × zS))) zN (0 : Int32) (0 : Int32) σ
abbrev rmX9_bodyBy : Room := { frames := 1, cells := 0, slots := 0, locals := 21 }
set_option maxRecDepth 100000 in
set_option maxHeartbeats 4000000 in
theorem tX9_bodyBy (l : Launch) (σ : zS) (a1 : Int32) : zMi l yX9_bodyBy cX9_bodyBy 4 (some .int) rmX9_bodyBy (fun ad => [.ref (ad 21 0), .int a1]) σ (fX9_bodyBy a1 σ) := by
  refine zMi.of RX9 (by decide +kernel) rfl (fun _ => Nat.le_of_ble_eq_true rfl) (fun _ => zcat rfl) (fun K t F hR hL E => ?_)
  show ZO K t 0 [some (.ref (zad K 21 0)), some (.int a1), none, none] [] σ (fX9_bodyBy_4 a1 (fun (u2_4_1 : Int32) (y4_1 : zS) => (some (u2_4_1, y4_1) : Option (Int32 × zS))) zN (0 : Int32) (0 : Int32) σ)
  refine z_iconst (pc := 0) F (v := 0) dX9_bodyBy_0 (by decide) ?_
  refine z_istore_n (pc := 1) F (lv' := [some (.ref (zad K 21 0)), some (.int a1), some (.int (0 : Int32)), none]) dX9_bodyBy_1 (zlt rfl) rfl ?_
  refine z_iconst (pc := 2) F (v := 0) dX9_bodyBy_2 (by decide) ?_
  refine z_istore_n (pc := 3) F (lv' := [some (.ref (zad K 21 0)), some (.int a1), some (.int (0 : Int32)), some (.int (0 : Int32))]) dX9_bodyBy_3 (zlt rfl) rfl ?_
  have hk4_1 : ∀ (u2_4_1 : Int32) (y4_1 : zS), ZO K t 37 [none, none, some (.int u2_4_1), none] [] y4_1 ((fun (u2_4_1 : Int32) (y4_1 : zS) => (some (u2_4_1, y4_1) : Option (Int32 × zS))) u2_4_1 y4_1) := by
    intro u2_4_1 y4_1
    show ZO K t 37 [none, none, some (.int u2_4_1), none] [] y4_1 (some (u2_4_1, y4_1))
    refine z_iload_n (pc := 37) F dX9_bodyBy_37 rfl ?_
    exact z_iret (pc := 38) F E dX9_bodyBy_38
  have L4_1 : ∀ (n4_1 : Nat) (v2_4_1 : Int32) (v3_4_1 : Int32) (w4_1 : zS), ZO K t 4 [some (.ref (zad K 21 0)), some (.int a1), some (.int v2_4_1), some (.int v3_4_1)] [] w4_1 (fX9_bodyBy_4 a1 (fun (u2_4_1 : Int32) (y4_1 : zS) => (some (u2_4_1, y4_1) : Option (Int32 × zS))) n4_1 v2_4_1 v3_4_1 w4_1) := by
    revert hk4_1; generalize (fun (u2_4_1 : Int32) (y4_1 : zS) => (some (u2_4_1, y4_1) : Option (Int32 × zS))) = k4_1; intro hk4_1
    intro n4_1
    induction n4_1 with
    | zero => intro v2_4_1 v3_4_1 w4_1; exact z_none
    | succ n4_1 ih4_1 =>
      intro v2_4_1 v3_4_1 w4_1
      show ZO K t 4 [some (.ref (zad K 21 0)), some (.int a1), some (.int v2_4_1), some (.int v3_4_1)] [] w4_1 (if (10 : Int32) ≤ v3_4_1 then k4_1 v2_4_1 w4_1 else zCi (fX9_isIn a1 v3_4_1 w4_1) (fun x3 s2 => if x3 = 0 then zB (v2_4_1 ^^^ (0 : Int32)) (fun x4 => zB (v3_4_1 + 1) (fun x5 => fX9_bodyBy_4 a1 k4_1 n4_1 x4 x5 s2)) else zIx v3_4_1 10 (zB (v2_4_1 ^^^ (s2 22 0 v3_4_1.toNatClampNeg)) (fun x7 => zB (v3_4_1 + 1) (fun x8 => fX9_bodyBy_4 a1 k4_1 n4_1 x7 x8 s2)))))
      refine z_iload_n (pc := 4) F dX9_bodyBy_4 rfl ?_
      refine z_bipush (pc := 5) F (v := 10) dX9_bodyBy_5 (by decide) ?_
      refine z_icmp_ge (pc := 7) F 37 dX9_bodyBy_7 (by decide) (fun h10 => ?_) (fun h10 => ?_)
      · refine z_wk [false, false, true, false] (lv' := [none, none, some (.int v2_4_1), none]) rfl ?_
        exact hk4_1 v2_4_1 w4_1
      · refine z_iload_n (pc := 10) F dX9_bodyBy_10 rfl ?_
        refine z_iload_n (pc := 11) F dX9_bodyBy_11 rfl ?_
        refine z_iload_n (pc := 12) F dX9_bodyBy_12 rfl ?_
        refine z_callSi (pc := 13) (st := [.int v2_4_1]) F [.int a1, .int v3_4_1] cl_RX9_75 (tX9_isIn (zln K) w4_1 a1 v3_4_1) rfl (by rw [hR]; exact ⟨rfl, rfl, Nat.le_of_ble_eq_true rfl, Nat.le_of_ble_eq_true rfl⟩) rfl rfl (Nat.le_of_ble_eq_true rfl) dX9_bodyBy_13 (fun x3 s2 => ?_)
        refine z_if_eq (pc := 16) F 28 dX9_bodyBy_16 (by decide) (fun h9 => ?_) (fun h9 => ?_)
        · refine z_iconst (pc := 28) F (v := 0) dX9_bodyBy_28 (by decide) ?_
          refine z_ixor (pc := 29) F dX9_bodyBy_29 ?_
          refine z_Bi (fun x4 => ?_)
          refine z_istore_n (pc := 30) F (lv' := [some (.ref (zad K 21 0)), some (.int a1), some (.int x4), some (.int v3_4_1)]) dX9_bodyBy_30 (zlt rfl) rfl ?_
          refine z_iincB (pc := 31) F (lv' := fun x5 => [some (.ref (zad K 21 0)), some (.int a1), some (.int x4), some (.int x5)]) dX9_bodyBy_31 rfl rfl (fun _ => rfl) (fun x5 => ?_)
          refine z_goto (pc := 34) F 4 dX9_bodyBy_34 (by decide) ?_
          exact ih4_1 x4 x5 s2
        · refine z_aload_n (pc := 19) F dX9_bodyBy_19 rfl ?_
          refine z_get (pc := 20) F 21 0 1 (v := .ref (zad K 22 0)) (by decide) (fun _ => rfl) rfl (by decide) inlX9 lk_RX9_7 rfl dX9_bodyBy_20 ?_
          refine z_iload_n (pc := 23) F dX9_bodyBy_23 rfl ?_
          refine z_ix (fun h6 => ?_)
          refine z_iald (pc := 24) F 22 0 (by decide) (fun _ => rfl) h6 dX9_bodyBy_24 ?_
          refine z_goto (pc := 25) F 29 dX9_bodyBy_25 (by decide) ?_
          refine z_ixor (pc := 29) F dX9_bodyBy_29 ?_
          refine z_Bi (fun x7 => ?_)
          refine z_istore_n (pc := 30) F (lv' := [some (.ref (zad K 21 0)), some (.int a1), some (.int x7), some (.int v3_4_1)]) dX9_bodyBy_30 (zlt rfl) rfl ?_
          refine z_iincB (pc := 31) F (lv' := fun x8 => [some (.ref (zad K 21 0)), some (.int a1), some (.int x7), some (.int x8)]) dX9_bodyBy_31 rfl rfl (fun _ => rfl) (fun x8 => ?_)
          refine z_goto (pc := 34) F 4 dX9_bodyBy_34 (by decide) ?_
          exact ih4_1 x7 x8 s2
  exact L4_1 zN (0 : Int32) (0 : Int32) σ
def fX9_leadOf_35_3 (a2 : Int32) (a3 : Int32) (k3_1 : Int32 → zS → Option (Int32 × zS)) : Nat → Int32 → zS → Option (Int32 × zS)
  | 0, _, _ => none
  | (n3_1 + 1), v4_3_1, w3_1 => if a3 ≤ v4_3_1 then k3_1 v4_3_1 w3_1 else zIx (a2 + v4_3_1) 8 (if (w3_1 35 0 (a2 + v4_3_1).toNatClampNeg) = 0 then zB (v4_3_1 + 1) (fun x3 => fX9_leadOf_35_3 a2 a3 k3_1 n3_1 x3 w3_1) else k3_1 v4_3_1 w3_1)
def fX9_leadOf_35 (a2 : Int32) (a3 : Int32) (σ : zS) : Option (Int32 × zS) := fX9_leadOf_35_3 a2 a3 (fun (u4_3_1 : Int32) (y3_1 : zS) => (some (u4_3_1, y3_1) : Option (Int32 × zS))) zN (0 : Int32) σ
abbrev rmX9_leadOf_35 : Room := { frames := 0, cells := 0, slots := 0, locals := 0 }
set_option maxRecDepth 100000 in
set_option maxHeartbeats 4000000 in
theorem tX9_leadOf_35 (l : Launch) (σ : zS) (a2 : Int32) (a3 : Int32) : zMi l yX9_leadOf cX9_leadOf 5 (some .int) rmX9_leadOf_35 (fun ad => [.ref (ad 21 0), .ref (ad 35 0), .int a2, .int a3]) σ (fX9_leadOf_35 a2 a3 σ) := by
  refine zMi.of RX9 (by decide +kernel) rfl (fun _ => Nat.le_of_ble_eq_true rfl) (fun _ => zcat rfl) (fun K t F hR hL E => ?_)
  show ZO K t 0 [some (.ref (zad K 21 0)), some (.ref (zad K 35 0)), some (.int a2), some (.int a3), none] [] σ (fX9_leadOf_35_3 a2 a3 (fun (u4_3_1 : Int32) (y3_1 : zS) => (some (u4_3_1, y3_1) : Option (Int32 × zS))) zN (0 : Int32) σ)
  refine z_iconst (pc := 0) F (v := 0) dX9_leadOf_0 (by decide) ?_
  refine z_istore (pc := 1) F (lv' := [some (.ref (zad K 21 0)), some (.ref (zad K 35 0)), some (.int a2), some (.int a3), some (.int (0 : Int32))]) dX9_leadOf_1 (zlt rfl) rfl ?_
  refine z_wk [false, true, true, true, true] (lv' := [none, some (.ref (zad K 35 0)), some (.int a2), some (.int a3), some (.int (0 : Int32))]) rfl ?_
  have hk3_1 : ∀ (u4_3_1 : Int32) (y3_1 : zS), ZO K t 24 [none, none, none, none, some (.int u4_3_1)] [] y3_1 ((fun (u4_3_1 : Int32) (y3_1 : zS) => (some (u4_3_1, y3_1) : Option (Int32 × zS))) u4_3_1 y3_1) := by
    intro u4_3_1 y3_1
    show ZO K t 24 [none, none, none, none, some (.int u4_3_1)] [] y3_1 (some (u4_3_1, y3_1))
    refine z_iload (pc := 24) F dX9_leadOf_24 rfl ?_
    exact z_iret (pc := 26) F E dX9_leadOf_26
  have L3_1 : ∀ (n3_1 : Nat) (v4_3_1 : Int32) (w3_1 : zS), ZO K t 3 [none, some (.ref (zad K 35 0)), some (.int a2), some (.int a3), some (.int v4_3_1)] [] w3_1 (fX9_leadOf_35_3 a2 a3 (fun (u4_3_1 : Int32) (y3_1 : zS) => (some (u4_3_1, y3_1) : Option (Int32 × zS))) n3_1 v4_3_1 w3_1) := by
    revert hk3_1; generalize (fun (u4_3_1 : Int32) (y3_1 : zS) => (some (u4_3_1, y3_1) : Option (Int32 × zS))) = k3_1; intro hk3_1
    intro n3_1
    induction n3_1 with
    | zero => intro v4_3_1 w3_1; exact z_none
    | succ n3_1 ih3_1 =>
      intro v4_3_1 w3_1
      show ZO K t 3 [none, some (.ref (zad K 35 0)), some (.int a2), some (.int a3), some (.int v4_3_1)] [] w3_1 (if a3 ≤ v4_3_1 then k3_1 v4_3_1 w3_1 else zIx (a2 + v4_3_1) 8 (if (w3_1 35 0 (a2 + v4_3_1).toNatClampNeg) = 0 then zB (v4_3_1 + 1) (fun x3 => fX9_leadOf_35_3 a2 a3 k3_1 n3_1 x3 w3_1) else k3_1 v4_3_1 w3_1))
      refine z_iload (pc := 3) F dX9_leadOf_3 rfl ?_
      refine z_iload_n (pc := 5) F dX9_leadOf_5 rfl ?_
      refine z_icmp_ge (pc := 6) F 24 dX9_leadOf_6 (by decide) (fun h5 => ?_) (fun h5 => ?_)
      · refine z_wk [true, false, false, false, true] (lv' := [none, none, none, none, some (.int v4_3_1)]) rfl ?_
        exact hk3_1 v4_3_1 w3_1
      · refine z_aload_n (pc := 9) F dX9_leadOf_9 rfl ?_
        refine z_iload_n (pc := 10) F dX9_leadOf_10 rfl ?_
        refine z_iload (pc := 11) F dX9_leadOf_11 rfl ?_
        refine z_iadd (pc := 13) F dX9_leadOf_13 ?_
        refine z_ix (fun h2 => ?_)
        refine z_iald (pc := 14) F 35 0 (by decide) (fun _ => rfl) h2 dX9_leadOf_14 ?_
        refine z_if_ne (pc := 15) F 24 dX9_leadOf_15 (by decide) (fun h4 => ?_) (fun h4 => ?_)
        · refine z_wk [true, false, false, false, true] (lv' := [none, none, none, none, some (.int v4_3_1)]) rfl ?_
          exact hk3_1 v4_3_1 w3_1
        · refine z_iincB (pc := 18) F (lv' := fun x3 => [none, some (.ref (zad K 35 0)), some (.int a2), some (.int a3), some (.int x3)]) dX9_leadOf_18 rfl rfl (fun _ => rfl) (fun x3 => ?_)
          refine z_goto (pc := 21) F 3 dX9_leadOf_21 (by decide) ?_
          exact ih3_1 x3 w3_1
  exact L3_1 zN (0 : Int32) σ
def fX9_rankOf (a1 : Int32) (a2 : Int32) (σ : zS) : Option (Int32 × zS) := zIx (((4 : Int32) * a1) + a2) 12 (some (σ 29 0 (((4 : Int32) * a1) + a2).toNatClampNeg, σ))
abbrev rmX9_rankOf : Room := { frames := 0, cells := 0, slots := 0, locals := 0 }
set_option maxRecDepth 100000 in
set_option maxHeartbeats 4000000 in
theorem tX9_rankOf (l : Launch) (σ : zS) (a1 : Int32) (a2 : Int32) : zMi l yX9_rankOf cX9_rankOf 3 (some .int) rmX9_rankOf (fun ad => [.ref (ad 21 0), .int a1, .int a2]) σ (fX9_rankOf a1 a2 σ) := by
  refine zMi.of RX9 (by decide +kernel) rfl (fun _ => Nat.le_of_ble_eq_true rfl) (fun _ => zcat rfl) (fun K t F hR hL E => ?_)
  show ZO K t 0 [some (.ref (zad K 21 0)), some (.int a1), some (.int a2)] [] σ (zIx (((4 : Int32) * a1) + a2) 12 (some (σ 29 0 (((4 : Int32) * a1) + a2).toNatClampNeg, σ)))
  refine z_aload_n (pc := 0) F dX9_rankOf_0 rfl ?_
  refine z_get (pc := 1) F 21 0 17 (v := .ref (zad K 29 0)) (by decide) (fun _ => rfl) rfl (by decide) inlX9 lk_RX9_41 rfl dX9_rankOf_1 ?_
  refine z_iconst (pc := 4) F (v := 4) dX9_rankOf_4 (by decide) ?_
  refine z_iload_n (pc := 5) F dX9_rankOf_5 rfl ?_
  refine z_imul (pc := 6) F dX9_rankOf_6 ?_
  refine z_iload_n (pc := 7) F dX9_rankOf_7 rfl ?_
  refine z_iadd (pc := 8) F dX9_rankOf_8 ?_
  refine z_ix (fun h1 => ?_)
  refine z_iald (pc := 9) F 29 0 (by decide) (fun _ => rfl) h1 dX9_rankOf_9 ?_
  exact z_iret (pc := 10) F E dX9_rankOf_10
def fX9_leadOf_30_3 (a2 : Int32) (a3 : Int32) (k3_1 : Int32 → zS → Option (Int32 × zS)) : Nat → Int32 → zS → Option (Int32 × zS)
  | 0, _, _ => none
  | (n3_1 + 1), v4_3_1, w3_1 => if a3 ≤ v4_3_1 then k3_1 v4_3_1 w3_1 else zIx (a2 + v4_3_1) 480 (if (w3_1 30 0 (a2 + v4_3_1).toNatClampNeg) = 0 then zB (v4_3_1 + 1) (fun x3 => fX9_leadOf_30_3 a2 a3 k3_1 n3_1 x3 w3_1) else k3_1 v4_3_1 w3_1)
def fX9_leadOf_30 (a2 : Int32) (a3 : Int32) (σ : zS) : Option (Int32 × zS) := fX9_leadOf_30_3 a2 a3 (fun (u4_3_1 : Int32) (y3_1 : zS) => (some (u4_3_1, y3_1) : Option (Int32 × zS))) zN (0 : Int32) σ
abbrev rmX9_leadOf_30 : Room := { frames := 0, cells := 0, slots := 0, locals := 0 }
set_option maxRecDepth 100000 in
set_option maxHeartbeats 4000000 in
theorem tX9_leadOf_30 (l : Launch) (σ : zS) (a2 : Int32) (a3 : Int32) : zMi l yX9_leadOf cX9_leadOf 5 (some .int) rmX9_leadOf_30 (fun ad => [.ref (ad 21 0), .ref (ad 30 0), .int a2, .int a3]) σ (fX9_leadOf_30 a2 a3 σ) := by
  refine zMi.of RX9 (by decide +kernel) rfl (fun _ => Nat.le_of_ble_eq_true rfl) (fun _ => zcat rfl) (fun K t F hR hL E => ?_)
  show ZO K t 0 [some (.ref (zad K 21 0)), some (.ref (zad K 30 0)), some (.int a2), some (.int a3), none] [] σ (fX9_leadOf_30_3 a2 a3 (fun (u4_3_1 : Int32) (y3_1 : zS) => (some (u4_3_1, y3_1) : Option (Int32 × zS))) zN (0 : Int32) σ)
  refine z_iconst (pc := 0) F (v := 0) dX9_leadOf_0 (by decide) ?_
  refine z_istore (pc := 1) F (lv' := [some (.ref (zad K 21 0)), some (.ref (zad K 30 0)), some (.int a2), some (.int a3), some (.int (0 : Int32))]) dX9_leadOf_1 (zlt rfl) rfl ?_
  refine z_wk [false, true, true, true, true] (lv' := [none, some (.ref (zad K 30 0)), some (.int a2), some (.int a3), some (.int (0 : Int32))]) rfl ?_
  have hk3_1 : ∀ (u4_3_1 : Int32) (y3_1 : zS), ZO K t 24 [none, none, none, none, some (.int u4_3_1)] [] y3_1 ((fun (u4_3_1 : Int32) (y3_1 : zS) => (some (u4_3_1, y3_1) : Option (Int32 × zS))) u4_3_1 y3_1) := by
    intro u4_3_1 y3_1
    show ZO K t 24 [none, none, none, none, some (.int u4_3_1)] [] y3_1 (some (u4_3_1, y3_1))
    refine z_iload (pc := 24) F dX9_leadOf_24 rfl ?_
    exact z_iret (pc := 26) F E dX9_leadOf_26
  have L3_1 : ∀ (n3_1 : Nat) (v4_3_1 : Int32) (w3_1 : zS), ZO K t 3 [none, some (.ref (zad K 30 0)), some (.int a2), some (.int a3), some (.int v4_3_1)] [] w3_1 (fX9_leadOf_30_3 a2 a3 (fun (u4_3_1 : Int32) (y3_1 : zS) => (some (u4_3_1, y3_1) : Option (Int32 × zS))) n3_1 v4_3_1 w3_1) := by
    revert hk3_1; generalize (fun (u4_3_1 : Int32) (y3_1 : zS) => (some (u4_3_1, y3_1) : Option (Int32 × zS))) = k3_1; intro hk3_1
    intro n3_1
    induction n3_1 with
    | zero => intro v4_3_1 w3_1; exact z_none
    | succ n3_1 ih3_1 =>
      intro v4_3_1 w3_1
      show ZO K t 3 [none, some (.ref (zad K 30 0)), some (.int a2), some (.int a3), some (.int v4_3_1)] [] w3_1 (if a3 ≤ v4_3_1 then k3_1 v4_3_1 w3_1 else zIx (a2 + v4_3_1) 480 (if (w3_1 30 0 (a2 + v4_3_1).toNatClampNeg) = 0 then zB (v4_3_1 + 1) (fun x3 => fX9_leadOf_30_3 a2 a3 k3_1 n3_1 x3 w3_1) else k3_1 v4_3_1 w3_1))
      refine z_iload (pc := 3) F dX9_leadOf_3 rfl ?_
      refine z_iload_n (pc := 5) F dX9_leadOf_5 rfl ?_
      refine z_icmp_ge (pc := 6) F 24 dX9_leadOf_6 (by decide) (fun h5 => ?_) (fun h5 => ?_)
      · refine z_wk [true, false, false, false, true] (lv' := [none, none, none, none, some (.int v4_3_1)]) rfl ?_
        exact hk3_1 v4_3_1 w3_1
      · refine z_aload_n (pc := 9) F dX9_leadOf_9 rfl ?_
        refine z_iload_n (pc := 10) F dX9_leadOf_10 rfl ?_
        refine z_iload (pc := 11) F dX9_leadOf_11 rfl ?_
        refine z_iadd (pc := 13) F dX9_leadOf_13 ?_
        refine z_ix (fun h2 => ?_)
        refine z_iald (pc := 14) F 30 0 (by decide) (fun _ => rfl) h2 dX9_leadOf_14 ?_
        refine z_if_ne (pc := 15) F 24 dX9_leadOf_15 (by decide) (fun h4 => ?_) (fun h4 => ?_)
        · refine z_wk [true, false, false, false, true] (lv' := [none, none, none, none, some (.int v4_3_1)]) rfl ?_
          exact hk3_1 v4_3_1 w3_1
        · refine z_iincB (pc := 18) F (lv' := fun x3 => [none, some (.ref (zad K 30 0)), some (.int a2), some (.int a3), some (.int x3)]) dX9_leadOf_18 rfl rfl (fun _ => rfl) (fun x3 => ?_)
          refine z_goto (pc := 21) F 3 dX9_leadOf_21 (by decide) ?_
          exact ih3_1 x3 w3_1
  exact L3_1 zN (0 : Int32) σ
def fX9_isNewTo_81 (x2 : Int32) (x11 : Int32) (x15 : Int32) (k81_16 : zS → Option (Int32 × zS)) : Nat → Int32 → zS → Option (Int32 × zS)
  | 0, _, _ => none
  | (n81_16 + 1), v7_81_16, w81_16 => if (x2 + (3 : Int32)) ≤ v7_81_16 then k81_16 w81_16 else zIx v7_81_16 8 (zIx (x11 + v7_81_16) 480 (zGd (¬ (w81_16 21 0 12) = 0) (zIx v7_81_16 8 (zB (zU w81_16 35 0 v7_81_16.toNatClampNeg (((w81_16 35 0 v7_81_16.toNatClampNeg) + (((w81_16 21 0 12) - x15) * (w81_16 30 0 (x11 + v7_81_16).toNatClampNeg))) - ((w81_16 35 0 v7_81_16.toNatClampNeg) + (((w81_16 21 0 12) - x15) * (w81_16 30 0 (x11 + v7_81_16).toNatClampNeg))) / (w81_16 21 0 12) * (w81_16 21 0 12))) (fun s22 => zB (v7_81_16 + 1) (fun x23 => fX9_isNewTo_81 x2 x11 x15 k81_16 n81_16 x23 s22))))))
def fX9_isNewTo_40 (a1 : Int32) (a2 : Int32) (x2 : Int32) (k40_4 : zS → Option (Int32 × zS)) : Nat → Int32 → zS → Option (Int32 × zS)
  | 0, _, _ => none
  | (n40_4 + 1), v4_40_4, w40_4 => zCi (fX9_rankOf a1 a2 w40_4) (fun x9 s8 => if x9 ≤ v4_40_4 then k40_4 s8 else zCi (fX9_at a1 a2 v4_40_4 s8) (fun x11 s10 => zCi (fX9_leadOf_30 x11 x2 s10) (fun x13 s12 => zIx x13 8 (zB (s12 35 0 x13.toNatClampNeg) (fun x15 => fX9_isNewTo_81 x2 x11 x15 (fun (y81_16 : zS) => (zB (v4_40_4 + 1) (fun x17 => fX9_isNewTo_40 a1 a2 x2 k40_4 n40_4 x17 y81_16) : Option (Int32 × zS))) zN (0 : Int32) s12)))))
def fX9_isNewTo_10 (k10_3 : zS → Option (Int32 × zS)) : Nat → Int32 → zS → Option (Int32 × zS)
  | 0, _, _ => none
  | (n10_3 + 1), v4_10_3, w10_3 => if (8 : Int32) ≤ v4_10_3 then k10_3 w10_3 else zIx v4_10_3 8 (zIx v4_10_3 8 (zB (zU w10_3 35 0 v4_10_3.toNatClampNeg (w10_3 34 0 v4_10_3.toNatClampNeg)) (fun s28 => zB (v4_10_3 + 1) (fun x29 => fX9_isNewTo_10 k10_3 n10_3 x29 s28))))
def fX9_isNewTo (a1 : Int32) (a2 : Int32) (σ : zS) : Option (Int32 × zS) := zIx a1 3 (zB (σ 28 0 a1.toNatClampNeg) (fun x2 => fX9_isNewTo_10 (fun (y10_3 : zS) => (fX9_isNewTo_40 a1 a2 x2 (fun (y40_4 : zS) => (zCi (fX9_leadOf_35 (0 : Int32) x2 y40_4) (fun x6 s5 => if x2 ≤ x6 then some ((0 : Int32), s5) else some ((1 : Int32), s5)) : Option (Int32 × zS))) zN (0 : Int32) y10_3 : Option (Int32 × zS))) zN (0 : Int32) σ))
abbrev rmX9_isNewTo : Room := { frames := 1, cells := 0, slots := 0, locals := 24 }
set_option maxRecDepth 100000 in
set_option maxHeartbeats 4000000 in
theorem tX9_isNewTo (l : Launch) (σ : zS) (a1 : Int32) (a2 : Int32) : zMi l yX9_isNewTo cX9_isNewTo 8 (some .boolean) rmX9_isNewTo (fun ad => [.ref (ad 21 0), .int a1, .int a2]) σ (fX9_isNewTo a1 a2 σ) := by
  refine zMi.of RX9 (by decide +kernel) rfl (fun _ => Nat.le_of_ble_eq_true rfl) (fun _ => zcat rfl) (fun K t F hR hL E => ?_)
  show ZO K t 0 [some (.ref (zad K 21 0)), some (.int a1), some (.int a2), none, none, none, none, none] [] σ (zIx a1 3 (zB (σ 28 0 a1.toNatClampNeg) (fun x2 => fX9_isNewTo_10 (fun (y10_3 : zS) => (fX9_isNewTo_40 a1 a2 x2 (fun (y40_4 : zS) => (zCi (fX9_leadOf_35 (0 : Int32) x2 y40_4) (fun x6 s5 => if x2 ≤ x6 then some ((0 : Int32), s5) else some ((1 : Int32), s5)) : Option (Int32 × zS))) zN (0 : Int32) y10_3 : Option (Int32 × zS))) zN (0 : Int32) σ)))
  refine z_aload_n (pc := 0) F dX9_isNewTo_0 rfl ?_
  refine z_get (pc := 1) F 21 0 16 (v := .ref (zad K 28 0)) (by decide) (fun _ => rfl) rfl (by decide) inlX9 lk_RX9_38 rfl dX9_isNewTo_1 ?_
  refine z_iload_n (pc := 4) F dX9_isNewTo_4 rfl ?_
  refine z_ix (fun h1 => ?_)
  refine z_iald (pc := 5) F 28 0 (by decide) (fun _ => rfl) h1 dX9_isNewTo_5 ?_
  refine z_Bi (fun x2 => ?_)
  refine z_istore_n (pc := 6) F (lv' := [some (.ref (zad K 21 0)), some (.int a1), some (.int a2), some (.int x2), none, none, none, none]) dX9_isNewTo_6 (zlt rfl) rfl ?_
  refine z_iconst (pc := 7) F (v := 0) dX9_isNewTo_7 (by decide) ?_
  refine z_istore (pc := 8) F (lv' := [some (.ref (zad K 21 0)), some (.int a1), some (.int a2), some (.int x2), some (.int (0 : Int32)), none, none, none]) dX9_isNewTo_8 (zlt rfl) rfl ?_
  have hk10_3 : ∀ (y10_3 : zS), ZO K t 37 [some (.ref (zad K 21 0)), some (.int a1), some (.int a2), some (.int x2), none, none, none, none] [] y10_3 ((fun (y10_3 : zS) => (fX9_isNewTo_40 a1 a2 x2 (fun (y40_4 : zS) => (zCi (fX9_leadOf_35 (0 : Int32) x2 y40_4) (fun x6 s5 => if x2 ≤ x6 then some ((0 : Int32), s5) else some ((1 : Int32), s5)) : Option (Int32 × zS))) zN (0 : Int32) y10_3 : Option (Int32 × zS))) y10_3) := by
    intro y10_3
    show ZO K t 37 [some (.ref (zad K 21 0)), some (.int a1), some (.int a2), some (.int x2), none, none, none, none] [] y10_3 (fX9_isNewTo_40 a1 a2 x2 (fun (y40_4 : zS) => (zCi (fX9_leadOf_35 (0 : Int32) x2 y40_4) (fun x6 s5 => if x2 ≤ x6 then some ((0 : Int32), s5) else some ((1 : Int32), s5)) : Option (Int32 × zS))) zN (0 : Int32) y10_3)
    refine z_iconst (pc := 37) F (v := 0) dX9_isNewTo_37 (by decide) ?_
    refine z_istore (pc := 38) F (lv' := [some (.ref (zad K 21 0)), some (.int a1), some (.int a2), some (.int x2), some (.int (0 : Int32)), none, none, none]) dX9_isNewTo_38 (zlt rfl) rfl ?_
    have hk40_4 : ∀ (y40_4 : zS), ZO K t 139 [some (.ref (zad K 21 0)), none, none, some (.int x2), none, none, none, none] [] y40_4 ((fun (y40_4 : zS) => (zCi (fX9_leadOf_35 (0 : Int32) x2 y40_4) (fun x6 s5 => if x2 ≤ x6 then some ((0 : Int32), s5) else some ((1 : Int32), s5)) : Option (Int32 × zS))) y40_4) := by
      intro y40_4
      show ZO K t 139 [some (.ref (zad K 21 0)), none, none, some (.int x2), none, none, none, none] [] y40_4 (zCi (fX9_leadOf_35 (0 : Int32) x2 y40_4) (fun x6 s5 => if x2 ≤ x6 then some ((0 : Int32), s5) else some ((1 : Int32), s5)))
      refine z_aload_n (pc := 139) F dX9_isNewTo_139 rfl ?_
      refine z_aload_n (pc := 140) F dX9_isNewTo_140 rfl ?_
      refine z_get (pc := 141) F 21 0 24 (v := .ref (zad K 35 0)) (by decide) (fun _ => rfl) rfl (by decide) inlX9 lk_RX9_62 rfl dX9_isNewTo_141 ?_
      refine z_iconst (pc := 144) F (v := 0) dX9_isNewTo_144 (by decide) ?_
      refine z_iload_n (pc := 145) F dX9_isNewTo_145 rfl ?_
      refine z_callVi (pc := 146) (st := []) F 21 0 [.ref (zad K 35 0), .int (0 : Int32), .int x2] cl_RX9_162 (tX9_leadOf_35 (zln K) y40_4 (0 : Int32) x2) rfl (by decide) (fun _ => ⟨_, rfl⟩) rfl (by rw [hR]; exact ⟨rfl, rfl, Nat.le_of_ble_eq_true rfl, Nat.le_of_ble_eq_true rfl⟩) rfl rfl (Nat.le_of_ble_eq_true rfl) dX9_isNewTo_146 (fun x6 s5 => ?_)
      refine z_iload_n (pc := 149) F dX9_isNewTo_149 rfl ?_
      refine z_icmp_ge (pc := 150) F 157 dX9_isNewTo_150 (by decide) (fun h7 => ?_) (fun h7 => ?_)
      · refine z_iconst (pc := 157) F (v := 0) dX9_isNewTo_157 (by decide) ?_
        exact z_zret (pc := 158) F E (by decide) dX9_isNewTo_158
      · refine z_iconst (pc := 153) F (v := 1) dX9_isNewTo_153 (by decide) ?_
        refine z_goto (pc := 154) F 158 dX9_isNewTo_154 (by decide) ?_
        exact z_zret (pc := 158) F E (by decide) dX9_isNewTo_158
    have L40_4 : ∀ (n40_4 : Nat) (v4_40_4 : Int32) (w40_4 : zS), ZO K t 40 [some (.ref (zad K 21 0)), some (.int a1), some (.int a2), some (.int x2), some (.int v4_40_4), none, none, none] [] w40_4 (fX9_isNewTo_40 a1 a2 x2 (fun (y40_4 : zS) => (zCi (fX9_leadOf_35 (0 : Int32) x2 y40_4) (fun x6 s5 => if x2 ≤ x6 then some ((0 : Int32), s5) else some ((1 : Int32), s5)) : Option (Int32 × zS))) n40_4 v4_40_4 w40_4) := by
      revert hk40_4; generalize (fun (y40_4 : zS) => (zCi (fX9_leadOf_35 (0 : Int32) x2 y40_4) (fun x6 s5 => if x2 ≤ x6 then some ((0 : Int32), s5) else some ((1 : Int32), s5)) : Option (Int32 × zS))) = k40_4; intro hk40_4
      intro n40_4
      induction n40_4 with
      | zero => intro v4_40_4 w40_4; exact z_none
      | succ n40_4 ih40_4 =>
        intro v4_40_4 w40_4
        show ZO K t 40 [some (.ref (zad K 21 0)), some (.int a1), some (.int a2), some (.int x2), some (.int v4_40_4), none, none, none] [] w40_4 (zCi (fX9_rankOf a1 a2 w40_4) (fun x9 s8 => if x9 ≤ v4_40_4 then k40_4 s8 else zCi (fX9_at a1 a2 v4_40_4 s8) (fun x11 s10 => zCi (fX9_leadOf_30 x11 x2 s10) (fun x13 s12 => zIx x13 8 (zB (s12 35 0 x13.toNatClampNeg) (fun x15 => fX9_isNewTo_81 x2 x11 x15 (fun (y81_16 : zS) => (zB (v4_40_4 + 1) (fun x17 => fX9_isNewTo_40 a1 a2 x2 k40_4 n40_4 x17 y81_16) : Option (Int32 × zS))) zN (0 : Int32) s12))))))
        refine z_iload (pc := 40) F dX9_isNewTo_40 rfl ?_
        refine z_aload_n (pc := 42) F dX9_isNewTo_42 rfl ?_
        refine z_iload_n (pc := 43) F dX9_isNewTo_43 rfl ?_
        refine z_iload_n (pc := 44) F dX9_isNewTo_44 rfl ?_
        refine z_callVi (pc := 45) (st := [.int v4_40_4]) F 21 0 [.int a1, .int a2] cl_RX9_156 (tX9_rankOf (zln K) w40_4 a1 a2) rfl (by decide) (fun _ => ⟨_, rfl⟩) rfl (by rw [hR]; exact ⟨rfl, rfl, Nat.le_of_ble_eq_true rfl, Nat.le_of_ble_eq_true rfl⟩) rfl rfl (Nat.le_of_ble_eq_true rfl) dX9_isNewTo_45 (fun x9 s8 => ?_)
        refine z_icmp_ge (pc := 48) F 139 dX9_isNewTo_48 (by decide) (fun h25 => ?_) (fun h25 => ?_)
        · refine z_wk [true, false, false, true, false, true, true, true] (lv' := [some (.ref (zad K 21 0)), none, none, some (.int x2), none, none, none, none]) rfl ?_
          exact hk40_4  s8
        · refine z_iload_n (pc := 51) F dX9_isNewTo_51 rfl ?_
          refine z_iload_n (pc := 52) F dX9_isNewTo_52 rfl ?_
          refine z_iload (pc := 53) F dX9_isNewTo_53 rfl ?_
          refine z_callSi (pc := 55) (st := []) F [.int a1, .int a2, .int v4_40_4] cl_RX9_146 (tX9_at (zln K) s8 a1 a2 v4_40_4) rfl (by rw [hR]; exact ⟨rfl, rfl, Nat.le_of_ble_eq_true rfl, Nat.le_of_ble_eq_true rfl⟩) rfl rfl (Nat.le_of_ble_eq_true rfl) dX9_isNewTo_55 (fun x11 s10 => ?_)
          refine z_istore (pc := 58) F (lv' := [some (.ref (zad K 21 0)), some (.int a1), some (.int a2), some (.int x2), some (.int v4_40_4), some (.int x11), none, none]) dX9_isNewTo_58 (zlt rfl) rfl ?_
          refine z_aload_n (pc := 60) F dX9_isNewTo_60 rfl ?_
          refine z_get (pc := 61) F 21 0 24 (v := .ref (zad K 35 0)) (by decide) (fun _ => rfl) rfl (by decide) inlX9 lk_RX9_62 rfl dX9_isNewTo_61 ?_
          refine z_aload_n (pc := 64) F dX9_isNewTo_64 rfl ?_
          refine z_aload_n (pc := 65) F dX9_isNewTo_65 rfl ?_
          refine z_get (pc := 66) F 21 0 18 (v := .ref (zad K 30 0)) (by decide) (fun _ => rfl) rfl (by decide) inlX9 lk_RX9_44 rfl dX9_isNewTo_66 ?_
          refine z_iload (pc := 69) F dX9_isNewTo_69 rfl ?_
          refine z_iload_n (pc := 71) F dX9_isNewTo_71 rfl ?_
          refine z_callVi (pc := 72) (st := [.ref (zad K 35 0)]) F 21 0 [.ref (zad K 30 0), .int x11, .int x2] cl_RX9_162 (tX9_leadOf_30 (zln K) s10 x11 x2) rfl (by decide) (fun _ => ⟨_, rfl⟩) rfl (by rw [hR]; exact ⟨rfl, rfl, Nat.le_of_ble_eq_true rfl, Nat.le_of_ble_eq_true rfl⟩) rfl rfl (Nat.le_of_ble_eq_true rfl) dX9_isNewTo_72 (fun x13 s12 => ?_)
          refine z_ix (fun h14 => ?_)
          refine z_iald (pc := 75) F 35 0 (by decide) (fun _ => rfl) h14 dX9_isNewTo_75 ?_
          refine z_Bi (fun x15 => ?_)
          refine z_istore (pc := 76) F (lv' := [some (.ref (zad K 21 0)), some (.int a1), some (.int a2), some (.int x2), some (.int v4_40_4), some (.int x11), some (.int x15), none]) dX9_isNewTo_76 (zlt rfl) rfl ?_
          refine z_iconst (pc := 78) F (v := 0) dX9_isNewTo_78 (by decide) ?_
          refine z_istore (pc := 79) F (lv' := [some (.ref (zad K 21 0)), some (.int a1), some (.int a2), some (.int x2), some (.int v4_40_4), some (.int x11), some (.int x15), some (.int (0 : Int32))]) dX9_isNewTo_79 (zlt rfl) rfl ?_
          have hk81_16 : ∀ (y81_16 : zS), ZO K t 133 [some (.ref (zad K 21 0)), some (.int a1), some (.int a2), some (.int x2), some (.int v4_40_4), none, none, none] [] y81_16 ((fun (y81_16 : zS) => (zB (v4_40_4 + 1) (fun x17 => fX9_isNewTo_40 a1 a2 x2 k40_4 n40_4 x17 y81_16) : Option (Int32 × zS))) y81_16) := by
            intro y81_16
            show ZO K t 133 [some (.ref (zad K 21 0)), some (.int a1), some (.int a2), some (.int x2), some (.int v4_40_4), none, none, none] [] y81_16 (zB (v4_40_4 + 1) (fun x17 => fX9_isNewTo_40 a1 a2 x2 k40_4 n40_4 x17 y81_16))
            refine z_iincB (pc := 133) F (lv' := fun x17 => [some (.ref (zad K 21 0)), some (.int a1), some (.int a2), some (.int x2), some (.int x17), none, none, none]) dX9_isNewTo_133 rfl rfl (fun _ => rfl) (fun x17 => ?_)
            refine z_goto (pc := 136) F 40 dX9_isNewTo_136 (by decide) ?_
            exact ih40_4 x17 y81_16
          have L81_16 : ∀ (n81_16 : Nat) (v7_81_16 : Int32) (w81_16 : zS), ZO K t 81 [some (.ref (zad K 21 0)), some (.int a1), some (.int a2), some (.int x2), some (.int v4_40_4), some (.int x11), some (.int x15), some (.int v7_81_16)] [] w81_16 (fX9_isNewTo_81 x2 x11 x15 (fun (y81_16 : zS) => (zB (v4_40_4 + 1) (fun x17 => fX9_isNewTo_40 a1 a2 x2 k40_4 n40_4 x17 y81_16) : Option (Int32 × zS))) n81_16 v7_81_16 w81_16) := by
            revert hk81_16; generalize (fun (y81_16 : zS) => (zB (v4_40_4 + 1) (fun x17 => fX9_isNewTo_40 a1 a2 x2 k40_4 n40_4 x17 y81_16) : Option (Int32 × zS))) = k81_16; intro hk81_16
            intro n81_16
            induction n81_16 with
            | zero => intro v7_81_16 w81_16; exact z_none
            | succ n81_16 ih81_16 =>
              intro v7_81_16 w81_16
              show ZO K t 81 [some (.ref (zad K 21 0)), some (.int a1), some (.int a2), some (.int x2), some (.int v4_40_4), some (.int x11), some (.int x15), some (.int v7_81_16)] [] w81_16 (if (x2 + (3 : Int32)) ≤ v7_81_16 then k81_16 w81_16 else zIx v7_81_16 8 (zIx (x11 + v7_81_16) 480 (zGd (¬ (w81_16 21 0 12) = 0) (zIx v7_81_16 8 (zB (zU w81_16 35 0 v7_81_16.toNatClampNeg (((w81_16 35 0 v7_81_16.toNatClampNeg) + (((w81_16 21 0 12) - x15) * (w81_16 30 0 (x11 + v7_81_16).toNatClampNeg))) - ((w81_16 35 0 v7_81_16.toNatClampNeg) + (((w81_16 21 0 12) - x15) * (w81_16 30 0 (x11 + v7_81_16).toNatClampNeg))) / (w81_16 21 0 12) * (w81_16 21 0 12))) (fun s22 => zB (v7_81_16 + 1) (fun x23 => fX9_isNewTo_81 x2 x11 x15 k81_16 n81_16 x23 s22)))))))
              refine z_iload (pc := 81) F dX9_isNewTo_81 rfl ?_
              refine z_iload_n (pc := 83) F dX9_isNewTo_83 rfl ?_
              refine z_iconst (pc := 84) F (v := 3) dX9_isNewTo_84 (by decide) ?_
              refine z_iadd (pc := 85) F dX9_isNewTo_85 ?_
              refine z_icmp_ge (pc := 86) F 133 dX9_isNewTo_86 (by decide) (fun h24 => ?_) (fun h24 => ?_)
              · refine z_wk [true, true, true, true, true, false, false, false] (lv' := [some (.ref (zad K 21 0)), some (.int a1), some (.int a2), some (.int x2), some (.int v4_40_4), none, none, none]) rfl ?_
                exact hk81_16  w81_16
              · refine z_aload_n (pc := 89) F dX9_isNewTo_89 rfl ?_
                refine z_get (pc := 90) F 21 0 24 (v := .ref (zad K 35 0)) (by decide) (fun _ => rfl) rfl (by decide) inlX9 lk_RX9_62 rfl dX9_isNewTo_90 ?_
                refine z_iload (pc := 93) F dX9_isNewTo_93 rfl ?_
                refine z_aload_n (pc := 95) F dX9_isNewTo_95 rfl ?_
                refine z_get (pc := 96) F 21 0 24 (v := .ref (zad K 35 0)) (by decide) (fun _ => rfl) rfl (by decide) inlX9 lk_RX9_62 rfl dX9_isNewTo_96 ?_
                refine z_iload (pc := 99) F dX9_isNewTo_99 rfl ?_
                refine z_ix (fun h18 => ?_)
                refine z_iald (pc := 101) F 35 0 (by decide) (fun _ => rfl) h18 dX9_isNewTo_101 ?_
                refine z_aload_n (pc := 102) F dX9_isNewTo_102 rfl ?_
                refine z_get (pc := 103) F 21 0 12 (v := .int (w81_16 21 0 12)) (by decide) (fun _ => rfl) rfl (by decide) inlX9 lk_RX9_32 rfl dX9_isNewTo_103 ?_
                refine z_iload (pc := 106) F dX9_isNewTo_106 rfl ?_
                refine z_isub (pc := 108) F dX9_isNewTo_108 ?_
                refine z_aload_n (pc := 109) F dX9_isNewTo_109 rfl ?_
                refine z_get (pc := 110) F 21 0 18 (v := .ref (zad K 30 0)) (by decide) (fun _ => rfl) rfl (by decide) inlX9 lk_RX9_44 rfl dX9_isNewTo_110 ?_
                refine z_iload (pc := 113) F dX9_isNewTo_113 rfl ?_
                refine z_iload (pc := 115) F dX9_isNewTo_115 rfl ?_
                refine z_iadd (pc := 117) F dX9_isNewTo_117 ?_
                refine z_ix (fun h19 => ?_)
                refine z_iald (pc := 118) F 30 0 (by decide) (fun _ => rfl) h19 dX9_isNewTo_118 ?_
                refine z_imul (pc := 119) F dX9_isNewTo_119 ?_
                refine z_iadd (pc := 120) F dX9_isNewTo_120 ?_
                refine z_aload_n (pc := 121) F dX9_isNewTo_121 rfl ?_
                refine z_get (pc := 122) F 21 0 12 (v := .int (w81_16 21 0 12)) (by decide) (fun _ => rfl) rfl (by decide) inlX9 lk_RX9_32 rfl dX9_isNewTo_122 ?_
                refine z_gd (fun h20 => ?_)
                refine z_irem (pc := 125) F h20 dX9_isNewTo_125 ?_
                refine z_ix (fun h21 => ?_)
                refine z_iast (pc := 126) F 35 0 (by decide) (fun _ _ => rfl) h21 dX9_isNewTo_126 (fun s22 => ?_)
                refine z_iincB (pc := 127) F (lv' := fun x23 => [some (.ref (zad K 21 0)), some (.int a1), some (.int a2), some (.int x2), some (.int v4_40_4), some (.int x11), some (.int x15), some (.int x23)]) dX9_isNewTo_127 rfl rfl (fun _ => rfl) (fun x23 => ?_)
                refine z_goto (pc := 130) F 81 dX9_isNewTo_130 (by decide) ?_
                exact ih81_16 x23 s22
          exact L81_16 zN (0 : Int32) s12
    exact L40_4 zN (0 : Int32) y10_3
  have L10_3 : ∀ (n10_3 : Nat) (v4_10_3 : Int32) (w10_3 : zS), ZO K t 10 [some (.ref (zad K 21 0)), some (.int a1), some (.int a2), some (.int x2), some (.int v4_10_3), none, none, none] [] w10_3 (fX9_isNewTo_10 (fun (y10_3 : zS) => (fX9_isNewTo_40 a1 a2 x2 (fun (y40_4 : zS) => (zCi (fX9_leadOf_35 (0 : Int32) x2 y40_4) (fun x6 s5 => if x2 ≤ x6 then some ((0 : Int32), s5) else some ((1 : Int32), s5)) : Option (Int32 × zS))) zN (0 : Int32) y10_3 : Option (Int32 × zS))) n10_3 v4_10_3 w10_3) := by
    revert hk10_3; generalize (fun (y10_3 : zS) => (fX9_isNewTo_40 a1 a2 x2 (fun (y40_4 : zS) => (zCi (fX9_leadOf_35 (0 : Int32) x2 y40_4) (fun x6 s5 => if x2 ≤ x6 then some ((0 : Int32), s5) else some ((1 : Int32), s5)) : Option (Int32 × zS))) zN (0 : Int32) y10_3 : Option (Int32 × zS))) = k10_3; intro hk10_3
    intro n10_3
    induction n10_3 with
    | zero => intro v4_10_3 w10_3; exact z_none
    | succ n10_3 ih10_3 =>
      intro v4_10_3 w10_3
      show ZO K t 10 [some (.ref (zad K 21 0)), some (.int a1), some (.int a2), some (.int x2), some (.int v4_10_3), none, none, none] [] w10_3 (if (8 : Int32) ≤ v4_10_3 then k10_3 w10_3 else zIx v4_10_3 8 (zIx v4_10_3 8 (zB (zU w10_3 35 0 v4_10_3.toNatClampNeg (w10_3 34 0 v4_10_3.toNatClampNeg)) (fun s28 => zB (v4_10_3 + 1) (fun x29 => fX9_isNewTo_10 k10_3 n10_3 x29 s28)))))
      refine z_iload (pc := 10) F dX9_isNewTo_10 rfl ?_
      refine z_bipush (pc := 12) F (v := 8) dX9_isNewTo_12 (by decide) ?_
      refine z_icmp_ge (pc := 14) F 37 dX9_isNewTo_14 (by decide) (fun h30 => ?_) (fun h30 => ?_)
      · refine z_wk [true, true, true, true, false, true, true, true] (lv' := [some (.ref (zad K 21 0)), some (.int a1), some (.int a2), some (.int x2), none, none, none, none]) rfl ?_
        exact hk10_3  w10_3
      · refine z_aload_n (pc := 17) F dX9_isNewTo_17 rfl ?_
        refine z_get (pc := 18) F 21 0 24 (v := .ref (zad K 35 0)) (by decide) (fun _ => rfl) rfl (by decide) inlX9 lk_RX9_62 rfl dX9_isNewTo_18 ?_
        refine z_iload (pc := 21) F dX9_isNewTo_21 rfl ?_
        refine z_aload_n (pc := 23) F dX9_isNewTo_23 rfl ?_
        refine z_get (pc := 24) F 21 0 23 (v := .ref (zad K 34 0)) (by decide) (fun _ => rfl) rfl (by decide) inlX9 lk_RX9_59 rfl dX9_isNewTo_24 ?_
        refine z_iload (pc := 27) F dX9_isNewTo_27 rfl ?_
        refine z_ix (fun h26 => ?_)
        refine z_iald (pc := 29) F 34 0 (by decide) (fun _ => rfl) h26 dX9_isNewTo_29 ?_
        refine z_ix (fun h27 => ?_)
        refine z_iast (pc := 30) F 35 0 (by decide) (fun _ _ => rfl) h27 dX9_isNewTo_30 (fun s28 => ?_)
        refine z_iincB (pc := 31) F (lv' := fun x29 => [some (.ref (zad K 21 0)), some (.int a1), some (.int a2), some (.int x2), some (.int x29), none, none, none]) dX9_isNewTo_31 rfl rfl (fun _ => rfl) (fun x29 => ?_)
        refine z_goto (pc := 34) F 10 dX9_isNewTo_34 (by decide) ?_
        exact ih10_3 x29 s28
  exact L10_3 zN (0 : Int32) σ
def fX9_inverse_2 (a1 : Int32) (k2_1 : Int32 → zS → Option (Int32 × zS)) : Nat → Int32 → zS → Option (Int32 × zS)
  | 0, _, _ => none
  | (n2_1 + 1), v2_2_1, w2_1 => zGd (¬ (w2_1 21 0 12) = 0) (if ((v2_2_1 * a1) - (v2_2_1 * a1) / (w2_1 21 0 12) * (w2_1 21 0 12)) = (1 : Int32) then k2_1 v2_2_1 w2_1 else zB (v2_2_1 + 1) (fun x3 => fX9_inverse_2 a1 k2_1 n2_1 x3 w2_1))
def fX9_inverse (a1 : Int32) (σ : zS) : Option (Int32 × zS) := fX9_inverse_2 a1 (fun (u2_2_1 : Int32) (y2_1 : zS) => (some (u2_2_1, y2_1) : Option (Int32 × zS))) zN (1 : Int32) σ
abbrev rmX9_inverse : Room := { frames := 0, cells := 0, slots := 0, locals := 0 }
set_option maxRecDepth 100000 in
set_option maxHeartbeats 4000000 in
theorem tX9_inverse (l : Launch) (σ : zS) (a1 : Int32) : zMi l yX9_inverse cX9_inverse 3 (some .int) rmX9_inverse (fun ad => [.ref (ad 21 0), .int a1]) σ (fX9_inverse a1 σ) := by
  refine zMi.of RX9 (by decide +kernel) rfl (fun _ => Nat.le_of_ble_eq_true rfl) (fun _ => zcat rfl) (fun K t F hR hL E => ?_)
  show ZO K t 0 [some (.ref (zad K 21 0)), some (.int a1), none] [] σ (fX9_inverse_2 a1 (fun (u2_2_1 : Int32) (y2_1 : zS) => (some (u2_2_1, y2_1) : Option (Int32 × zS))) zN (1 : Int32) σ)
  refine z_iconst (pc := 0) F (v := 1) dX9_inverse_0 (by decide) ?_
  refine z_istore_n (pc := 1) F (lv' := [some (.ref (zad K 21 0)), some (.int a1), some (.int (1 : Int32))]) dX9_inverse_1 (zlt rfl) rfl ?_
  have hk2_1 : ∀ (u2_2_1 : Int32) (y2_1 : zS), ZO K t 20 [none, none, some (.int u2_2_1)] [] y2_1 ((fun (u2_2_1 : Int32) (y2_1 : zS) => (some (u2_2_1, y2_1) : Option (Int32 × zS))) u2_2_1 y2_1) := by
    intro u2_2_1 y2_1
    show ZO K t 20 [none, none, some (.int u2_2_1)] [] y2_1 (some (u2_2_1, y2_1))
    refine z_iload_n (pc := 20) F dX9_inverse_20 rfl ?_
    exact z_iret (pc := 21) F E dX9_inverse_21
  have L2_1 : ∀ (n2_1 : Nat) (v2_2_1 : Int32) (w2_1 : zS), ZO K t 2 [some (.ref (zad K 21 0)), some (.int a1), some (.int v2_2_1)] [] w2_1 (fX9_inverse_2 a1 (fun (u2_2_1 : Int32) (y2_1 : zS) => (some (u2_2_1, y2_1) : Option (Int32 × zS))) n2_1 v2_2_1 w2_1) := by
    revert hk2_1; generalize (fun (u2_2_1 : Int32) (y2_1 : zS) => (some (u2_2_1, y2_1) : Option (Int32 × zS))) = k2_1; intro hk2_1
    intro n2_1
    induction n2_1 with
    | zero => intro v2_2_1 w2_1; exact z_none
    | succ n2_1 ih2_1 =>
      intro v2_2_1 w2_1
      show ZO K t 2 [some (.ref (zad K 21 0)), some (.int a1), some (.int v2_2_1)] [] w2_1 (zGd (¬ (w2_1 21 0 12) = 0) (if ((v2_2_1 * a1) - (v2_2_1 * a1) / (w2_1 21 0 12) * (w2_1 21 0 12)) = (1 : Int32) then k2_1 v2_2_1 w2_1 else zB (v2_2_1 + 1) (fun x3 => fX9_inverse_2 a1 k2_1 n2_1 x3 w2_1)))
      refine z_iload_n (pc := 2) F dX9_inverse_2 rfl ?_
      refine z_iload_n (pc := 3) F dX9_inverse_3 rfl ?_
      refine z_imul (pc := 4) F dX9_inverse_4 ?_
      refine z_aload_n (pc := 5) F dX9_inverse_5 rfl ?_
      refine z_get (pc := 6) F 21 0 12 (v := .int (w2_1 21 0 12)) (by decide) (fun _ => rfl) rfl (by decide) inlX9 lk_RX9_32 rfl dX9_inverse_6 ?_
      refine z_gd (fun h2 => ?_)
      refine z_irem (pc := 9) F h2 dX9_inverse_9 ?_
      refine z_iconst (pc := 10) F (v := 1) dX9_inverse_10 (by decide) ?_
      refine z_icmp_eq (pc := 11) F 20 dX9_inverse_11 (by decide) (fun h4 => ?_) (fun h4 => ?_)
      · refine z_wk [false, false, true] (lv' := [none, none, some (.int v2_2_1)]) rfl ?_
        exact hk2_1 v2_2_1 w2_1
      · refine z_iincB (pc := 14) F (lv' := fun x3 => [some (.ref (zad K 21 0)), some (.int a1), some (.int x3)]) dX9_inverse_14 rfl rfl (fun _ => rfl) (fun x3 => ?_)
        refine z_goto (pc := 17) F 2 dX9_inverse_17 (by decide) ?_
        exact ih2_1 x3 w2_1
  exact L2_1 zN (1 : Int32) σ
def fX9_comes_282 (a1 : Int32) (a2 : Int32) (u6_88_11 : Int32) (k282_15 : zS → Option (Int32 × zS)) : Nat → Int32 → zS → Option (Int32 × zS)
  | 0, _, _ => none
  | (n282_15 + 1), v7_282_15, w282_15 => if (8 : Int32) ≤ v7_282_15 then k282_15 w282_15 else zCi (fX9_at a1 a2 u6_88_11 w282_15) (fun x20 s19 => zIx v7_282_15 8 (zIx (x20 + v7_282_15) 480 (zB (zU s19 30 0 (x20 + v7_282_15).toNatClampNeg (s19 35 0 v7_282_15.toNatClampNeg)) (fun s23 => zB (v7_282_15 + 1) (fun x24 => fX9_comes_282 a1 a2 u6_88_11 k282_15 n282_15 x24 s23)))))
def fX9_comes_228 (a1 : Int32) (a2 : Int32) (v7_218_14 : Int32) (k228_26 : zS → Option (Int32 × zS)) : Nat → Int32 → zS → Option (Int32 × zS)
  | 0, _, _ => none
  | (n228_26 + 1), v8_228_26, w228_26 => if (8 : Int32) ≤ v8_228_26 then k228_26 w228_26 else zCi (fX9_at a1 a2 v7_218_14 w228_26) (fun x29 s28 => zCi (fX9_at a1 a2 (v7_218_14 - (1 : Int32)) s28) (fun x31 s30 => zIx (x31 + v8_228_26) 480 (zIx (x29 + v8_228_26) 480 (zB (zU s30 30 0 (x29 + v8_228_26).toNatClampNeg (s30 30 0 (x31 + v8_228_26).toNatClampNeg)) (fun s34 => zB (v8_228_26 + 1) (fun x35 => fX9_comes_228 a1 a2 v7_218_14 k228_26 n228_26 x35 s34))))))
def fX9_comes_218 (a1 : Int32) (a2 : Int32) (u6_88_11 : Int32) (k218_14 : zS → Option (Int32 × zS)) : Nat → Int32 → zS → Option (Int32 × zS)
  | 0, _, _ => none
  | (n218_14 + 1), v7_218_14, w218_14 => if v7_218_14 ≤ u6_88_11 then k218_14 w218_14 else fX9_comes_228 a1 a2 v7_218_14 (fun (y228_26 : zS) => (zB (v7_218_14 + (-1)) (fun x27 => fX9_comes_218 a1 a2 u6_88_11 k218_14 n218_14 x27 y228_26) : Option (Int32 × zS))) zN (0 : Int32) w218_14
def fX9_comes_149 (x4 : Int32) (x41 : Int32) (x43 : Int32) (k149_47 : zS → Option (Int32 × zS)) : Nat → Int32 → zS → Option (Int32 × zS)
  | 0, _, _ => none
  | (n149_47 + 1), v10_149_47, w149_47 => if (x4 + (3 : Int32)) ≤ v10_149_47 then k149_47 w149_47 else zIx (x41 + v10_149_47) 480 (zIx v10_149_47 8 (zGd (¬ (w149_47 21 0 12) = 0) (zIx (x41 + v10_149_47) 480 (zB (zU w149_47 30 0 (x41 + v10_149_47).toNatClampNeg (((w149_47 30 0 (x41 + v10_149_47).toNatClampNeg) + (((w149_47 21 0 12) - x43) * (w149_47 35 0 v10_149_47.toNatClampNeg))) - ((w149_47 30 0 (x41 + v10_149_47).toNatClampNeg) + (((w149_47 21 0 12) - x43) * (w149_47 35 0 v10_149_47.toNatClampNeg))) / (w149_47 21 0 12) * (w149_47 21 0 12))) (fun s53 => zB (v10_149_47 + 1) (fun x54 => fX9_comes_149 x4 x41 x43 k149_47 n149_47 x54 s53))))))
def fX9_comes_149_57 (x4 : Int32) (x41 : Int32) (x43 : Int32) (k149_57 : zS → Option (Int32 × zS)) : Nat → Int32 → zS → Option (Int32 × zS)
  | 0, _, _ => none
  | (n149_57 + 1), v10_149_57, w149_57 => if (x4 + (3 : Int32)) ≤ v10_149_57 then k149_57 w149_57 else zIx (x41 + v10_149_57) 480 (zIx v10_149_57 8 (zGd (¬ (w149_57 21 0 12) = 0) (zIx (x41 + v10_149_57) 480 (zB (zU w149_57 30 0 (x41 + v10_149_57).toNatClampNeg (((w149_57 30 0 (x41 + v10_149_57).toNatClampNeg) + (((w149_57 21 0 12) - x43) * (w149_57 35 0 v10_149_57.toNatClampNeg))) - ((w149_57 30 0 (x41 + v10_149_57).toNatClampNeg) + (((w149_57 21 0 12) - x43) * (w149_57 35 0 v10_149_57.toNatClampNeg))) / (w149_57 21 0 12) * (w149_57 21 0 12))) (fun s63 => zB (v10_149_57 + 1) (fun x64 => fX9_comes_149_57 x4 x41 x43 k149_57 n149_57 x64 s63))))))
def fX9_comes_88 (a1 : Int32) (a2 : Int32) (x4 : Int32) (x6 : Int32) (k88_11 : Int32 → zS → Option (Int32 × zS)) : Nat → Int32 → Int32 → zS → Option (Int32 × zS)
  | 0, _, _, _ => none
  | (n88_11 + 1), v6_88_11, v7_88_11, w88_11 => zCi (fX9_rankOf a1 a2 w88_11) (fun x39 s38 => if x39 ≤ v7_88_11 then k88_11 v6_88_11 s38 else zCi (fX9_at a1 a2 v7_88_11 s38) (fun x41 s40 => zIx (x41 + x6) 480 (zB (s40 30 0 (x41 + x6).toNatClampNeg) (fun x43 => zCi (fX9_leadOf_30 x41 x4 s40) (fun x45 s44 => if x6 ≤ x45 then zB (v6_88_11 + (0 : Int32)) (fun x46 => fX9_comes_149 x4 x41 x43 (fun (y149_47 : zS) => (zB (v7_88_11 + 1) (fun x48 => fX9_comes_88 a1 a2 x4 x6 k88_11 n88_11 x46 x48 y149_47) : Option (Int32 × zS))) zN (0 : Int32) s44) else zB (v6_88_11 + (1 : Int32)) (fun x56 => fX9_comes_149_57 x4 x41 x43 (fun (y149_57 : zS) => (zB (v7_88_11 + 1) (fun x58 => fX9_comes_88 a1 a2 x4 x6 k88_11 n88_11 x56 x58 y149_57) : Option (Int32 × zS))) zN (0 : Int32) s44))))))
def fX9_comes_46 (x4 : Int32) (x9 : Int32) (k46_10 : zS → Option (Int32 × zS)) : Nat → Int32 → zS → Option (Int32 × zS)
  | 0, _, _ => none
  | (n46_10 + 1), v6_46_10, w46_10 => if (x4 + (3 : Int32)) ≤ v6_46_10 then k46_10 w46_10 else zIx v6_46_10 8 (zGd (¬ (w46_10 21 0 12) = 0) (zIx v6_46_10 8 (zB (zU w46_10 35 0 v6_46_10.toNatClampNeg (((w46_10 35 0 v6_46_10.toNatClampNeg) * x9) - ((w46_10 35 0 v6_46_10.toNatClampNeg) * x9) / (w46_10 21 0 12) * (w46_10 21 0 12))) (fun s71 => zB (v6_46_10 + 1) (fun x72 => fX9_comes_46 x4 x9 k46_10 n46_10 x72 s71)))))
def fX9_comes (a1 : Int32) (a2 : Int32) (σ : zS) : Option (Int32 × zS) := zCi (fX9_isNewTo a1 a2 σ) (fun x2 s1 => if x2 = 0 then some ((0 : Int32), s1) else zIx a1 3 (zB (s1 28 0 a1.toNatClampNeg) (fun x4 => zCi (fX9_leadOf_35 (0 : Int32) x4 s1) (fun x6 s5 => zIx x6 8 (zCi (fX9_inverse (s5 35 0 x6.toNatClampNeg) s5) (fun x9 s8 => fX9_comes_46 x4 x9 (fun (y46_10 : zS) => (fX9_comes_88 a1 a2 x4 x6 (fun (u6_88_11 : Int32) (y88_11 : zS) => (zCi (fX9_rankOf a1 a2 y88_11) (fun x13 s12 => fX9_comes_218 a1 a2 u6_88_11 (fun (y218_14 : zS) => (fX9_comes_282 a1 a2 u6_88_11 (fun (y282_15 : zS) => (zIx (((4 : Int32) * a1) + a2) 12 (zIx (((4 : Int32) * a1) + a2) 12 (zB (zU y282_15 29 0 (((4 : Int32) * a1) + a2).toNatClampNeg ((y282_15 29 0 (((4 : Int32) * a1) + a2).toNatClampNeg) + (1 : Int32))) (fun s18 => some ((1 : Int32), s18)))) : Option (Int32 × zS))) zN (0 : Int32) y218_14 : Option (Int32 × zS))) zN x13 s12) : Option (Int32 × zS))) zN (0 : Int32) (0 : Int32) y46_10 : Option (Int32 × zS))) zN (0 : Int32) s8))))))
abbrev rmX9_comes : Room := { frames := 2, cells := 0, slots := 0, locals := 51 }
set_option maxRecDepth 100000 in
set_option maxHeartbeats 4000000 in
theorem tX9_comes (l : Launch) (σ : zS) (a1 : Int32) (a2 : Int32) : zMi l yX9_comes cX9_comes 11 (some .boolean) rmX9_comes (fun ad => [.ref (ad 21 0), .int a1, .int a2]) σ (fX9_comes a1 a2 σ) := by
  refine zMi.of RX9 (by decide +kernel) rfl (fun _ => Nat.le_of_ble_eq_true rfl) (fun _ => zcat rfl) (fun K t F hR hL E => ?_)
  show ZO K t 0 [some (.ref (zad K 21 0)), some (.int a1), some (.int a2), none, none, none, none, none, none, none, none] [] σ (zCi (fX9_isNewTo a1 a2 σ) (fun x2 s1 => if x2 = 0 then some ((0 : Int32), s1) else zIx a1 3 (zB (s1 28 0 a1.toNatClampNeg) (fun x4 => zCi (fX9_leadOf_35 (0 : Int32) x4 s1) (fun x6 s5 => zIx x6 8 (zCi (fX9_inverse (s5 35 0 x6.toNatClampNeg) s5) (fun x9 s8 => fX9_comes_46 x4 x9 (fun (y46_10 : zS) => (fX9_comes_88 a1 a2 x4 x6 (fun (u6_88_11 : Int32) (y88_11 : zS) => (zCi (fX9_rankOf a1 a2 y88_11) (fun x13 s12 => fX9_comes_218 a1 a2 u6_88_11 (fun (y218_14 : zS) => (fX9_comes_282 a1 a2 u6_88_11 (fun (y282_15 : zS) => (zIx (((4 : Int32) * a1) + a2) 12 (zIx (((4 : Int32) * a1) + a2) 12 (zB (zU y282_15 29 0 (((4 : Int32) * a1) + a2).toNatClampNeg ((y282_15 29 0 (((4 : Int32) * a1) + a2).toNatClampNeg) + (1 : Int32))) (fun s18 => some ((1 : Int32), s18)))) : Option (Int32 × zS))) zN (0 : Int32) y218_14 : Option (Int32 × zS))) zN x13 s12) : Option (Int32 × zS))) zN (0 : Int32) (0 : Int32) y46_10 : Option (Int32 × zS))) zN (0 : Int32) s8)))))))
  refine z_aload_n (pc := 0) F dX9_comes_0 rfl ?_
  refine z_iload_n (pc := 1) F dX9_comes_1 rfl ?_
  refine z_iload_n (pc := 2) F dX9_comes_2 rfl ?_
  refine z_callVi (pc := 3) (st := []) F 21 0 [.int a1, .int a2] cl_RX9_166 (tX9_isNewTo (zln K) σ a1 a2) rfl (by decide) (fun _ => ⟨_, rfl⟩) rfl (by rw [hR]; exact ⟨rfl, rfl, Nat.le_of_ble_eq_true rfl, Nat.le_of_ble_eq_true rfl⟩) rfl rfl (Nat.le_of_ble_eq_true rfl) dX9_comes_3 (fun x2 s1 => ?_)
  refine z_if_ne (pc := 6) F 11 dX9_comes_6 (by decide) (fun h74 => ?_) (fun h74 => ?_)
  · refine z_aload_n (pc := 11) F dX9_comes_11 rfl ?_
    refine z_get (pc := 12) F 21 0 16 (v := .ref (zad K 28 0)) (by decide) (fun _ => rfl) rfl (by decide) inlX9 lk_RX9_38 rfl dX9_comes_12 ?_
    refine z_iload_n (pc := 15) F dX9_comes_15 rfl ?_
    refine z_ix (fun h3 => ?_)
    refine z_iald (pc := 16) F 28 0 (by decide) (fun _ => rfl) h3 dX9_comes_16 ?_
    refine z_Bi (fun x4 => ?_)
    refine z_istore_n (pc := 17) F (lv' := [some (.ref (zad K 21 0)), some (.int a1), some (.int a2), some (.int x4), none, none, none, none, none, none, none]) dX9_comes_17 (zlt rfl) rfl ?_
    refine z_aload_n (pc := 18) F dX9_comes_18 rfl ?_
    refine z_aload_n (pc := 19) F dX9_comes_19 rfl ?_
    refine z_get (pc := 20) F 21 0 24 (v := .ref (zad K 35 0)) (by decide) (fun _ => rfl) rfl (by decide) inlX9 lk_RX9_62 rfl dX9_comes_20 ?_
    refine z_iconst (pc := 23) F (v := 0) dX9_comes_23 (by decide) ?_
    refine z_iload_n (pc := 24) F dX9_comes_24 rfl ?_
    refine z_callVi (pc := 25) (st := []) F 21 0 [.ref (zad K 35 0), .int (0 : Int32), .int x4] cl_RX9_162 (tX9_leadOf_35 (zln K) s1 (0 : Int32) x4) rfl (by decide) (fun _ => ⟨_, rfl⟩) rfl (by rw [hR]; exact ⟨rfl, rfl, Nat.le_of_ble_eq_true rfl, Nat.le_of_ble_eq_true rfl⟩) rfl rfl (Nat.le_of_ble_eq_true rfl) dX9_comes_25 (fun x6 s5 => ?_)
    refine z_istore (pc := 28) F (lv' := [some (.ref (zad K 21 0)), some (.int a1), some (.int a2), some (.int x4), some (.int x6), none, none, none, none, none, none]) dX9_comes_28 (zlt rfl) rfl ?_
    refine z_aload_n (pc := 30) F dX9_comes_30 rfl ?_
    refine z_aload_n (pc := 31) F dX9_comes_31 rfl ?_
    refine z_get (pc := 32) F 21 0 24 (v := .ref (zad K 35 0)) (by decide) (fun _ => rfl) rfl (by decide) inlX9 lk_RX9_62 rfl dX9_comes_32 ?_
    refine z_iload (pc := 35) F dX9_comes_35 rfl ?_
    refine z_ix (fun h7 => ?_)
    refine z_iald (pc := 37) F 35 0 (by decide) (fun _ => rfl) h7 dX9_comes_37 ?_
    refine z_callVi (pc := 38) (st := []) F 21 0 [.int (s5 35 0 x6.toNatClampNeg)] cl_RX9_169 (tX9_inverse (zln K) s5 (s5 35 0 x6.toNatClampNeg)) rfl (by decide) (fun _ => ⟨_, rfl⟩) rfl (by rw [hR]; exact ⟨rfl, rfl, Nat.le_of_ble_eq_true rfl, Nat.le_of_ble_eq_true rfl⟩) rfl rfl (Nat.le_of_ble_eq_true rfl) dX9_comes_38 (fun x9 s8 => ?_)
    refine z_istore (pc := 41) F (lv' := [some (.ref (zad K 21 0)), some (.int a1), some (.int a2), some (.int x4), some (.int x6), some (.int x9), none, none, none, none, none]) dX9_comes_41 (zlt rfl) rfl ?_
    refine z_iconst (pc := 43) F (v := 0) dX9_comes_43 (by decide) ?_
    refine z_istore (pc := 44) F (lv' := [some (.ref (zad K 21 0)), some (.int a1), some (.int a2), some (.int x4), some (.int x6), some (.int x9), some (.int (0 : Int32)), none, none, none, none]) dX9_comes_44 (zlt rfl) rfl ?_
    have hk46_10 : ∀ (y46_10 : zS), ZO K t 82 [some (.ref (zad K 21 0)), some (.int a1), some (.int a2), some (.int x4), some (.int x6), none, none, none, none, none, none] [] y46_10 ((fun (y46_10 : zS) => (fX9_comes_88 a1 a2 x4 x6 (fun (u6_88_11 : Int32) (y88_11 : zS) => (zCi (fX9_rankOf a1 a2 y88_11) (fun x13 s12 => fX9_comes_218 a1 a2 u6_88_11 (fun (y218_14 : zS) => (fX9_comes_282 a1 a2 u6_88_11 (fun (y282_15 : zS) => (zIx (((4 : Int32) * a1) + a2) 12 (zIx (((4 : Int32) * a1) + a2) 12 (zB (zU y282_15 29 0 (((4 : Int32) * a1) + a2).toNatClampNeg ((y282_15 29 0 (((4 : Int32) * a1) + a2).toNatClampNeg) + (1 : Int32))) (fun s18 => some ((1 : Int32), s18)))) : Option (Int32 × zS))) zN (0 : Int32) y218_14 : Option (Int32 × zS))) zN x13 s12) : Option (Int32 × zS))) zN (0 : Int32) (0 : Int32) y46_10 : Option (Int32 × zS))) y46_10) := by
      intro y46_10
      show ZO K t 82 [some (.ref (zad K 21 0)), some (.int a1), some (.int a2), some (.int x4), some (.int x6), none, none, none, none, none, none] [] y46_10 (fX9_comes_88 a1 a2 x4 x6 (fun (u6_88_11 : Int32) (y88_11 : zS) => (zCi (fX9_rankOf a1 a2 y88_11) (fun x13 s12 => fX9_comes_218 a1 a2 u6_88_11 (fun (y218_14 : zS) => (fX9_comes_282 a1 a2 u6_88_11 (fun (y282_15 : zS) => (zIx (((4 : Int32) * a1) + a2) 12 (zIx (((4 : Int32) * a1) + a2) 12 (zB (zU y282_15 29 0 (((4 : Int32) * a1) + a2).toNatClampNeg ((y282_15 29 0 (((4 : Int32) * a1) + a2).toNatClampNeg) + (1 : Int32))) (fun s18 => some ((1 : Int32), s18)))) : Option (Int32 × zS))) zN (0 : Int32) y218_14 : Option (Int32 × zS))) zN x13 s12) : Option (Int32 × zS))) zN (0 : Int32) (0 : Int32) y46_10)
      refine z_iconst (pc := 82) F (v := 0) dX9_comes_82 (by decide) ?_
      refine z_istore (pc := 83) F (lv' := [some (.ref (zad K 21 0)), some (.int a1), some (.int a2), some (.int x4), some (.int x6), none, some (.int (0 : Int32)), none, none, none, none]) dX9_comes_83 (zlt rfl) rfl ?_
      refine z_iconst (pc := 85) F (v := 0) dX9_comes_85 (by decide) ?_
      refine z_istore (pc := 86) F (lv' := [some (.ref (zad K 21 0)), some (.int a1), some (.int a2), some (.int x4), some (.int x6), none, some (.int (0 : Int32)), some (.int (0 : Int32)), none, none, none]) dX9_comes_86 (zlt rfl) rfl ?_
      have hk88_11 : ∀ (u6_88_11 : Int32) (y88_11 : zS), ZO K t 210 [some (.ref (zad K 21 0)), some (.int a1), some (.int a2), none, none, none, some (.int u6_88_11), none, none, none, none] [] y88_11 ((fun (u6_88_11 : Int32) (y88_11 : zS) => (zCi (fX9_rankOf a1 a2 y88_11) (fun x13 s12 => fX9_comes_218 a1 a2 u6_88_11 (fun (y218_14 : zS) => (fX9_comes_282 a1 a2 u6_88_11 (fun (y282_15 : zS) => (zIx (((4 : Int32) * a1) + a2) 12 (zIx (((4 : Int32) * a1) + a2) 12 (zB (zU y282_15 29 0 (((4 : Int32) * a1) + a2).toNatClampNeg ((y282_15 29 0 (((4 : Int32) * a1) + a2).toNatClampNeg) + (1 : Int32))) (fun s18 => some ((1 : Int32), s18)))) : Option (Int32 × zS))) zN (0 : Int32) y218_14 : Option (Int32 × zS))) zN x13 s12) : Option (Int32 × zS))) u6_88_11 y88_11) := by
        intro u6_88_11 y88_11
        show ZO K t 210 [some (.ref (zad K 21 0)), some (.int a1), some (.int a2), none, none, none, some (.int u6_88_11), none, none, none, none] [] y88_11 (zCi (fX9_rankOf a1 a2 y88_11) (fun x13 s12 => fX9_comes_218 a1 a2 u6_88_11 (fun (y218_14 : zS) => (fX9_comes_282 a1 a2 u6_88_11 (fun (y282_15 : zS) => (zIx (((4 : Int32) * a1) + a2) 12 (zIx (((4 : Int32) * a1) + a2) 12 (zB (zU y282_15 29 0 (((4 : Int32) * a1) + a2).toNatClampNeg ((y282_15 29 0 (((4 : Int32) * a1) + a2).toNatClampNeg) + (1 : Int32))) (fun s18 => some ((1 : Int32), s18)))) : Option (Int32 × zS))) zN (0 : Int32) y218_14 : Option (Int32 × zS))) zN x13 s12))
        refine z_aload_n (pc := 210) F dX9_comes_210 rfl ?_
        refine z_iload_n (pc := 211) F dX9_comes_211 rfl ?_
        refine z_iload_n (pc := 212) F dX9_comes_212 rfl ?_
        refine z_callVi (pc := 213) (st := []) F 21 0 [.int a1, .int a2] cl_RX9_156 (tX9_rankOf (zln K) y88_11 a1 a2) rfl (by decide) (fun _ => ⟨_, rfl⟩) rfl (by rw [hR]; exact ⟨rfl, rfl, Nat.le_of_ble_eq_true rfl, Nat.le_of_ble_eq_true rfl⟩) rfl rfl (Nat.le_of_ble_eq_true rfl) dX9_comes_213 (fun x13 s12 => ?_)
        refine z_istore (pc := 216) F (lv' := [some (.ref (zad K 21 0)), some (.int a1), some (.int a2), none, none, none, some (.int u6_88_11), some (.int x13), none, none, none]) dX9_comes_216 (zlt rfl) rfl ?_
        have hk218_14 : ∀ (y218_14 : zS), ZO K t 279 [some (.ref (zad K 21 0)), some (.int a1), some (.int a2), none, none, none, some (.int u6_88_11), none, none, none, none] [] y218_14 ((fun (y218_14 : zS) => (fX9_comes_282 a1 a2 u6_88_11 (fun (y282_15 : zS) => (zIx (((4 : Int32) * a1) + a2) 12 (zIx (((4 : Int32) * a1) + a2) 12 (zB (zU y282_15 29 0 (((4 : Int32) * a1) + a2).toNatClampNeg ((y282_15 29 0 (((4 : Int32) * a1) + a2).toNatClampNeg) + (1 : Int32))) (fun s18 => some ((1 : Int32), s18)))) : Option (Int32 × zS))) zN (0 : Int32) y218_14 : Option (Int32 × zS))) y218_14) := by
          intro y218_14
          show ZO K t 279 [some (.ref (zad K 21 0)), some (.int a1), some (.int a2), none, none, none, some (.int u6_88_11), none, none, none, none] [] y218_14 (fX9_comes_282 a1 a2 u6_88_11 (fun (y282_15 : zS) => (zIx (((4 : Int32) * a1) + a2) 12 (zIx (((4 : Int32) * a1) + a2) 12 (zB (zU y282_15 29 0 (((4 : Int32) * a1) + a2).toNatClampNeg ((y282_15 29 0 (((4 : Int32) * a1) + a2).toNatClampNeg) + (1 : Int32))) (fun s18 => some ((1 : Int32), s18)))) : Option (Int32 × zS))) zN (0 : Int32) y218_14)
          refine z_iconst (pc := 279) F (v := 0) dX9_comes_279 (by decide) ?_
          refine z_istore (pc := 280) F (lv' := [some (.ref (zad K 21 0)), some (.int a1), some (.int a2), none, none, none, some (.int u6_88_11), some (.int (0 : Int32)), none, none, none]) dX9_comes_280 (zlt rfl) rfl ?_
          have hk282_15 : ∀ (y282_15 : zS), ZO K t 317 [some (.ref (zad K 21 0)), some (.int a1), some (.int a2), none, none, none, none, none, none, none, none] [] y282_15 ((fun (y282_15 : zS) => (zIx (((4 : Int32) * a1) + a2) 12 (zIx (((4 : Int32) * a1) + a2) 12 (zB (zU y282_15 29 0 (((4 : Int32) * a1) + a2).toNatClampNeg ((y282_15 29 0 (((4 : Int32) * a1) + a2).toNatClampNeg) + (1 : Int32))) (fun s18 => some ((1 : Int32), s18)))) : Option (Int32 × zS))) y282_15) := by
            intro y282_15
            show ZO K t 317 [some (.ref (zad K 21 0)), some (.int a1), some (.int a2), none, none, none, none, none, none, none, none] [] y282_15 (zIx (((4 : Int32) * a1) + a2) 12 (zIx (((4 : Int32) * a1) + a2) 12 (zB (zU y282_15 29 0 (((4 : Int32) * a1) + a2).toNatClampNeg ((y282_15 29 0 (((4 : Int32) * a1) + a2).toNatClampNeg) + (1 : Int32))) (fun s18 => some ((1 : Int32), s18)))))
            refine z_aload_n (pc := 317) F dX9_comes_317 rfl ?_
            refine z_get (pc := 318) F 21 0 17 (v := .ref (zad K 29 0)) (by decide) (fun _ => rfl) rfl (by decide) inlX9 lk_RX9_41 rfl dX9_comes_318 ?_
            refine z_iconst (pc := 321) F (v := 4) dX9_comes_321 (by decide) ?_
            refine z_iload_n (pc := 322) F dX9_comes_322 rfl ?_
            refine z_imul (pc := 323) F dX9_comes_323 ?_
            refine z_iload_n (pc := 324) F dX9_comes_324 rfl ?_
            refine z_iadd (pc := 325) F dX9_comes_325 ?_
            refine z_dup2 (pc := 326) F dX9_comes_326 rfl rfl ?_
            refine z_ix (fun h16 => ?_)
            refine z_iald (pc := 327) F 29 0 (by decide) (fun _ => rfl) h16 dX9_comes_327 ?_
            refine z_iconst (pc := 328) F (v := 1) dX9_comes_328 (by decide) ?_
            refine z_iadd (pc := 329) F dX9_comes_329 ?_
            refine z_ix (fun h17 => ?_)
            refine z_iast (pc := 330) F 29 0 (by decide) (fun _ _ => rfl) h17 dX9_comes_330 (fun s18 => ?_)
            refine z_iconst (pc := 331) F (v := 1) dX9_comes_331 (by decide) ?_
            exact z_zret (pc := 332) F E (by decide) dX9_comes_332
          have L282_15 : ∀ (n282_15 : Nat) (v7_282_15 : Int32) (w282_15 : zS), ZO K t 282 [some (.ref (zad K 21 0)), some (.int a1), some (.int a2), none, none, none, some (.int u6_88_11), some (.int v7_282_15), none, none, none] [] w282_15 (fX9_comes_282 a1 a2 u6_88_11 (fun (y282_15 : zS) => (zIx (((4 : Int32) * a1) + a2) 12 (zIx (((4 : Int32) * a1) + a2) 12 (zB (zU y282_15 29 0 (((4 : Int32) * a1) + a2).toNatClampNeg ((y282_15 29 0 (((4 : Int32) * a1) + a2).toNatClampNeg) + (1 : Int32))) (fun s18 => some ((1 : Int32), s18)))) : Option (Int32 × zS))) n282_15 v7_282_15 w282_15) := by
            revert hk282_15; generalize (fun (y282_15 : zS) => (zIx (((4 : Int32) * a1) + a2) 12 (zIx (((4 : Int32) * a1) + a2) 12 (zB (zU y282_15 29 0 (((4 : Int32) * a1) + a2).toNatClampNeg ((y282_15 29 0 (((4 : Int32) * a1) + a2).toNatClampNeg) + (1 : Int32))) (fun s18 => some ((1 : Int32), s18)))) : Option (Int32 × zS))) = k282_15; intro hk282_15
            intro n282_15
            induction n282_15 with
            | zero => intro v7_282_15 w282_15; exact z_none
            | succ n282_15 ih282_15 =>
              intro v7_282_15 w282_15
              show ZO K t 282 [some (.ref (zad K 21 0)), some (.int a1), some (.int a2), none, none, none, some (.int u6_88_11), some (.int v7_282_15), none, none, none] [] w282_15 (if (8 : Int32) ≤ v7_282_15 then k282_15 w282_15 else zCi (fX9_at a1 a2 u6_88_11 w282_15) (fun x20 s19 => zIx v7_282_15 8 (zIx (x20 + v7_282_15) 480 (zB (zU s19 30 0 (x20 + v7_282_15).toNatClampNeg (s19 35 0 v7_282_15.toNatClampNeg)) (fun s23 => zB (v7_282_15 + 1) (fun x24 => fX9_comes_282 a1 a2 u6_88_11 k282_15 n282_15 x24 s23))))))
              refine z_iload (pc := 282) F dX9_comes_282 rfl ?_
              refine z_bipush (pc := 284) F (v := 8) dX9_comes_284 (by decide) ?_
              refine z_icmp_ge (pc := 286) F 317 dX9_comes_286 (by decide) (fun h25 => ?_) (fun h25 => ?_)
              · refine z_wk [true, true, true, true, true, true, false, false, true, true, true] (lv' := [some (.ref (zad K 21 0)), some (.int a1), some (.int a2), none, none, none, none, none, none, none, none]) rfl ?_
                exact hk282_15  w282_15
              · refine z_aload_n (pc := 289) F dX9_comes_289 rfl ?_
                refine z_get (pc := 290) F 21 0 18 (v := .ref (zad K 30 0)) (by decide) (fun _ => rfl) rfl (by decide) inlX9 lk_RX9_44 rfl dX9_comes_290 ?_
                refine z_iload_n (pc := 293) F dX9_comes_293 rfl ?_
                refine z_iload_n (pc := 294) F dX9_comes_294 rfl ?_
                refine z_iload (pc := 295) F dX9_comes_295 rfl ?_
                refine z_callSi (pc := 297) (st := [.ref (zad K 30 0)]) F [.int a1, .int a2, .int u6_88_11] cl_RX9_146 (tX9_at (zln K) w282_15 a1 a2 u6_88_11) rfl (by rw [hR]; exact ⟨rfl, rfl, Nat.le_of_ble_eq_true rfl, Nat.le_of_ble_eq_true rfl⟩) rfl rfl (Nat.le_of_ble_eq_true rfl) dX9_comes_297 (fun x20 s19 => ?_)
                refine z_iload (pc := 300) F dX9_comes_300 rfl ?_
                refine z_iadd (pc := 302) F dX9_comes_302 ?_
                refine z_aload_n (pc := 303) F dX9_comes_303 rfl ?_
                refine z_get (pc := 304) F 21 0 24 (v := .ref (zad K 35 0)) (by decide) (fun _ => rfl) rfl (by decide) inlX9 lk_RX9_62 rfl dX9_comes_304 ?_
                refine z_iload (pc := 307) F dX9_comes_307 rfl ?_
                refine z_ix (fun h21 => ?_)
                refine z_iald (pc := 309) F 35 0 (by decide) (fun _ => rfl) h21 dX9_comes_309 ?_
                refine z_ix (fun h22 => ?_)
                refine z_iast (pc := 310) F 30 0 (by decide) (fun _ _ => rfl) h22 dX9_comes_310 (fun s23 => ?_)
                refine z_iincB (pc := 311) F (lv' := fun x24 => [some (.ref (zad K 21 0)), some (.int a1), some (.int a2), none, none, none, some (.int u6_88_11), some (.int x24), none, none, none]) dX9_comes_311 rfl rfl (fun _ => rfl) (fun x24 => ?_)
                refine z_goto (pc := 314) F 282 dX9_comes_314 (by decide) ?_
                exact ih282_15 x24 s23
          exact L282_15 zN (0 : Int32) y218_14
        have L218_14 : ∀ (n218_14 : Nat) (v7_218_14 : Int32) (w218_14 : zS), ZO K t 218 [some (.ref (zad K 21 0)), some (.int a1), some (.int a2), none, none, none, some (.int u6_88_11), some (.int v7_218_14), none, none, none] [] w218_14 (fX9_comes_218 a1 a2 u6_88_11 (fun (y218_14 : zS) => (fX9_comes_282 a1 a2 u6_88_11 (fun (y282_15 : zS) => (zIx (((4 : Int32) * a1) + a2) 12 (zIx (((4 : Int32) * a1) + a2) 12 (zB (zU y282_15 29 0 (((4 : Int32) * a1) + a2).toNatClampNeg ((y282_15 29 0 (((4 : Int32) * a1) + a2).toNatClampNeg) + (1 : Int32))) (fun s18 => some ((1 : Int32), s18)))) : Option (Int32 × zS))) zN (0 : Int32) y218_14 : Option (Int32 × zS))) n218_14 v7_218_14 w218_14) := by
          revert hk218_14; generalize (fun (y218_14 : zS) => (fX9_comes_282 a1 a2 u6_88_11 (fun (y282_15 : zS) => (zIx (((4 : Int32) * a1) + a2) 12 (zIx (((4 : Int32) * a1) + a2) 12 (zB (zU y282_15 29 0 (((4 : Int32) * a1) + a2).toNatClampNeg ((y282_15 29 0 (((4 : Int32) * a1) + a2).toNatClampNeg) + (1 : Int32))) (fun s18 => some ((1 : Int32), s18)))) : Option (Int32 × zS))) zN (0 : Int32) y218_14 : Option (Int32 × zS))) = k218_14; intro hk218_14
          intro n218_14
          induction n218_14 with
          | zero => intro v7_218_14 w218_14; exact z_none
          | succ n218_14 ih218_14 =>
            intro v7_218_14 w218_14
            show ZO K t 218 [some (.ref (zad K 21 0)), some (.int a1), some (.int a2), none, none, none, some (.int u6_88_11), some (.int v7_218_14), none, none, none] [] w218_14 (if v7_218_14 ≤ u6_88_11 then k218_14 w218_14 else fX9_comes_228 a1 a2 v7_218_14 (fun (y228_26 : zS) => (zB (v7_218_14 + (-1)) (fun x27 => fX9_comes_218 a1 a2 u6_88_11 k218_14 n218_14 x27 y228_26) : Option (Int32 × zS))) zN (0 : Int32) w218_14)
            refine z_iload (pc := 218) F dX9_comes_218 rfl ?_
            refine z_iload (pc := 220) F dX9_comes_220 rfl ?_
            refine z_icmp_le (pc := 222) F 279 dX9_comes_222 (by decide) (fun h37 => ?_) (fun h37 => ?_)
            · refine z_wk [true, true, true, true, true, true, true, false, true, true, true] (lv' := [some (.ref (zad K 21 0)), some (.int a1), some (.int a2), none, none, none, some (.int u6_88_11), none, none, none, none]) rfl ?_
              exact hk218_14  w218_14
            · refine z_iconst (pc := 225) F (v := 0) dX9_comes_225 (by decide) ?_
              refine z_istore (pc := 226) F (lv' := [some (.ref (zad K 21 0)), some (.int a1), some (.int a2), none, none, none, some (.int u6_88_11), some (.int v7_218_14), some (.int (0 : Int32)), none, none]) dX9_comes_226 (zlt rfl) rfl ?_
              have hk228_26 : ∀ (y228_26 : zS), ZO K t 273 [some (.ref (zad K 21 0)), some (.int a1), some (.int a2), none, none, none, some (.int u6_88_11), some (.int v7_218_14), none, none, none] [] y228_26 ((fun (y228_26 : zS) => (zB (v7_218_14 + (-1)) (fun x27 => fX9_comes_218 a1 a2 u6_88_11 k218_14 n218_14 x27 y228_26) : Option (Int32 × zS))) y228_26) := by
                intro y228_26
                show ZO K t 273 [some (.ref (zad K 21 0)), some (.int a1), some (.int a2), none, none, none, some (.int u6_88_11), some (.int v7_218_14), none, none, none] [] y228_26 (zB (v7_218_14 + (-1)) (fun x27 => fX9_comes_218 a1 a2 u6_88_11 k218_14 n218_14 x27 y228_26))
                refine z_iincB (pc := 273) F (lv' := fun x27 => [some (.ref (zad K 21 0)), some (.int a1), some (.int a2), none, none, none, some (.int u6_88_11), some (.int x27), none, none, none]) dX9_comes_273 rfl rfl (fun _ => rfl) (fun x27 => ?_)
                refine z_goto (pc := 276) F 218 dX9_comes_276 (by decide) ?_
                exact ih218_14 x27 y228_26
              have L228_26 : ∀ (n228_26 : Nat) (v8_228_26 : Int32) (w228_26 : zS), ZO K t 228 [some (.ref (zad K 21 0)), some (.int a1), some (.int a2), none, none, none, some (.int u6_88_11), some (.int v7_218_14), some (.int v8_228_26), none, none] [] w228_26 (fX9_comes_228 a1 a2 v7_218_14 (fun (y228_26 : zS) => (zB (v7_218_14 + (-1)) (fun x27 => fX9_comes_218 a1 a2 u6_88_11 k218_14 n218_14 x27 y228_26) : Option (Int32 × zS))) n228_26 v8_228_26 w228_26) := by
                revert hk228_26; generalize (fun (y228_26 : zS) => (zB (v7_218_14 + (-1)) (fun x27 => fX9_comes_218 a1 a2 u6_88_11 k218_14 n218_14 x27 y228_26) : Option (Int32 × zS))) = k228_26; intro hk228_26
                intro n228_26
                induction n228_26 with
                | zero => intro v8_228_26 w228_26; exact z_none
                | succ n228_26 ih228_26 =>
                  intro v8_228_26 w228_26
                  show ZO K t 228 [some (.ref (zad K 21 0)), some (.int a1), some (.int a2), none, none, none, some (.int u6_88_11), some (.int v7_218_14), some (.int v8_228_26), none, none] [] w228_26 (if (8 : Int32) ≤ v8_228_26 then k228_26 w228_26 else zCi (fX9_at a1 a2 v7_218_14 w228_26) (fun x29 s28 => zCi (fX9_at a1 a2 (v7_218_14 - (1 : Int32)) s28) (fun x31 s30 => zIx (x31 + v8_228_26) 480 (zIx (x29 + v8_228_26) 480 (zB (zU s30 30 0 (x29 + v8_228_26).toNatClampNeg (s30 30 0 (x31 + v8_228_26).toNatClampNeg)) (fun s34 => zB (v8_228_26 + 1) (fun x35 => fX9_comes_228 a1 a2 v7_218_14 k228_26 n228_26 x35 s34)))))))
                  refine z_iload (pc := 228) F dX9_comes_228 rfl ?_
                  refine z_bipush (pc := 230) F (v := 8) dX9_comes_230 (by decide) ?_
                  refine z_icmp_ge (pc := 232) F 273 dX9_comes_232 (by decide) (fun h36 => ?_) (fun h36 => ?_)
                  · refine z_wk [true, true, true, true, true, true, true, true, false, true, true] (lv' := [some (.ref (zad K 21 0)), some (.int a1), some (.int a2), none, none, none, some (.int u6_88_11), some (.int v7_218_14), none, none, none]) rfl ?_
                    exact hk228_26  w228_26
                  · refine z_aload_n (pc := 235) F dX9_comes_235 rfl ?_
                    refine z_get (pc := 236) F 21 0 18 (v := .ref (zad K 30 0)) (by decide) (fun _ => rfl) rfl (by decide) inlX9 lk_RX9_44 rfl dX9_comes_236 ?_
                    refine z_iload_n (pc := 239) F dX9_comes_239 rfl ?_
                    refine z_iload_n (pc := 240) F dX9_comes_240 rfl ?_
                    refine z_iload (pc := 241) F dX9_comes_241 rfl ?_
                    refine z_callSi (pc := 243) (st := [.ref (zad K 30 0)]) F [.int a1, .int a2, .int v7_218_14] cl_RX9_146 (tX9_at (zln K) w228_26 a1 a2 v7_218_14) rfl (by rw [hR]; exact ⟨rfl, rfl, Nat.le_of_ble_eq_true rfl, Nat.le_of_ble_eq_true rfl⟩) rfl rfl (Nat.le_of_ble_eq_true rfl) dX9_comes_243 (fun x29 s28 => ?_)
                    refine z_iload (pc := 246) F dX9_comes_246 rfl ?_
                    refine z_iadd (pc := 248) F dX9_comes_248 ?_
                    refine z_aload_n (pc := 249) F dX9_comes_249 rfl ?_
                    refine z_get (pc := 250) F 21 0 18 (v := .ref (zad K 30 0)) (by decide) (fun _ => rfl) rfl (by decide) inlX9 lk_RX9_44 rfl dX9_comes_250 ?_
                    refine z_iload_n (pc := 253) F dX9_comes_253 rfl ?_
                    refine z_iload_n (pc := 254) F dX9_comes_254 rfl ?_
                    refine z_iload (pc := 255) F dX9_comes_255 rfl ?_
                    refine z_iconst (pc := 257) F (v := 1) dX9_comes_257 (by decide) ?_
                    refine z_isub (pc := 258) F dX9_comes_258 ?_
                    refine z_callSi (pc := 259) (st := [.ref (zad K 30 0), .int (x29 + v8_228_26), .ref (zad K 30 0)]) F [.int a1, .int a2, .int (v7_218_14 - (1 : Int32))] cl_RX9_146 (tX9_at (zln K) s28 a1 a2 (v7_218_14 - (1 : Int32))) rfl (by rw [hR]; exact ⟨rfl, rfl, Nat.le_of_ble_eq_true rfl, Nat.le_of_ble_eq_true rfl⟩) rfl rfl (Nat.le_of_ble_eq_true rfl) dX9_comes_259 (fun x31 s30 => ?_)
                    refine z_iload (pc := 262) F dX9_comes_262 rfl ?_
                    refine z_iadd (pc := 264) F dX9_comes_264 ?_
                    refine z_ix (fun h32 => ?_)
                    refine z_iald (pc := 265) F 30 0 (by decide) (fun _ => rfl) h32 dX9_comes_265 ?_
                    refine z_ix (fun h33 => ?_)
                    refine z_iast (pc := 266) F 30 0 (by decide) (fun _ _ => rfl) h33 dX9_comes_266 (fun s34 => ?_)
                    refine z_iincB (pc := 267) F (lv' := fun x35 => [some (.ref (zad K 21 0)), some (.int a1), some (.int a2), none, none, none, some (.int u6_88_11), some (.int v7_218_14), some (.int x35), none, none]) dX9_comes_267 rfl rfl (fun _ => rfl) (fun x35 => ?_)
                    refine z_goto (pc := 270) F 228 dX9_comes_270 (by decide) ?_
                    exact ih228_26 x35 s34
              exact L228_26 zN (0 : Int32) w218_14
        exact L218_14 zN x13 s12
      have L88_11 : ∀ (n88_11 : Nat) (v6_88_11 : Int32) (v7_88_11 : Int32) (w88_11 : zS), ZO K t 88 [some (.ref (zad K 21 0)), some (.int a1), some (.int a2), some (.int x4), some (.int x6), none, some (.int v6_88_11), some (.int v7_88_11), none, none, none] [] w88_11 (fX9_comes_88 a1 a2 x4 x6 (fun (u6_88_11 : Int32) (y88_11 : zS) => (zCi (fX9_rankOf a1 a2 y88_11) (fun x13 s12 => fX9_comes_218 a1 a2 u6_88_11 (fun (y218_14 : zS) => (fX9_comes_282 a1 a2 u6_88_11 (fun (y282_15 : zS) => (zIx (((4 : Int32) * a1) + a2) 12 (zIx (((4 : Int32) * a1) + a2) 12 (zB (zU y282_15 29 0 (((4 : Int32) * a1) + a2).toNatClampNeg ((y282_15 29 0 (((4 : Int32) * a1) + a2).toNatClampNeg) + (1 : Int32))) (fun s18 => some ((1 : Int32), s18)))) : Option (Int32 × zS))) zN (0 : Int32) y218_14 : Option (Int32 × zS))) zN x13 s12) : Option (Int32 × zS))) n88_11 v6_88_11 v7_88_11 w88_11) := by
        revert hk88_11; generalize (fun (u6_88_11 : Int32) (y88_11 : zS) => (zCi (fX9_rankOf a1 a2 y88_11) (fun x13 s12 => fX9_comes_218 a1 a2 u6_88_11 (fun (y218_14 : zS) => (fX9_comes_282 a1 a2 u6_88_11 (fun (y282_15 : zS) => (zIx (((4 : Int32) * a1) + a2) 12 (zIx (((4 : Int32) * a1) + a2) 12 (zB (zU y282_15 29 0 (((4 : Int32) * a1) + a2).toNatClampNeg ((y282_15 29 0 (((4 : Int32) * a1) + a2).toNatClampNeg) + (1 : Int32))) (fun s18 => some ((1 : Int32), s18)))) : Option (Int32 × zS))) zN (0 : Int32) y218_14 : Option (Int32 × zS))) zN x13 s12) : Option (Int32 × zS))) = k88_11; intro hk88_11
        intro n88_11
        induction n88_11 with
        | zero => intro v6_88_11 v7_88_11 w88_11; exact z_none
        | succ n88_11 ih88_11 =>
          intro v6_88_11 v7_88_11 w88_11
          show ZO K t 88 [some (.ref (zad K 21 0)), some (.int a1), some (.int a2), some (.int x4), some (.int x6), none, some (.int v6_88_11), some (.int v7_88_11), none, none, none] [] w88_11 (zCi (fX9_rankOf a1 a2 w88_11) (fun x39 s38 => if x39 ≤ v7_88_11 then k88_11 v6_88_11 s38 else zCi (fX9_at a1 a2 v7_88_11 s38) (fun x41 s40 => zIx (x41 + x6) 480 (zB (s40 30 0 (x41 + x6).toNatClampNeg) (fun x43 => zCi (fX9_leadOf_30 x41 x4 s40) (fun x45 s44 => if x6 ≤ x45 then zB (v6_88_11 + (0 : Int32)) (fun x46 => fX9_comes_149 x4 x41 x43 (fun (y149_47 : zS) => (zB (v7_88_11 + 1) (fun x48 => fX9_comes_88 a1 a2 x4 x6 k88_11 n88_11 x46 x48 y149_47) : Option (Int32 × zS))) zN (0 : Int32) s44) else zB (v6_88_11 + (1 : Int32)) (fun x56 => fX9_comes_149_57 x4 x41 x43 (fun (y149_57 : zS) => (zB (v7_88_11 + 1) (fun x58 => fX9_comes_88 a1 a2 x4 x6 k88_11 n88_11 x56 x58 y149_57) : Option (Int32 × zS))) zN (0 : Int32) s44)))))))
          refine z_iload (pc := 88) F dX9_comes_88 rfl ?_
          refine z_aload_n (pc := 90) F dX9_comes_90 rfl ?_
          refine z_iload_n (pc := 91) F dX9_comes_91 rfl ?_
          refine z_iload_n (pc := 92) F dX9_comes_92 rfl ?_
          refine z_callVi (pc := 93) (st := [.int v7_88_11]) F 21 0 [.int a1, .int a2] cl_RX9_156 (tX9_rankOf (zln K) w88_11 a1 a2) rfl (by decide) (fun _ => ⟨_, rfl⟩) rfl (by rw [hR]; exact ⟨rfl, rfl, Nat.le_of_ble_eq_true rfl, Nat.le_of_ble_eq_true rfl⟩) rfl rfl (Nat.le_of_ble_eq_true rfl) dX9_comes_93 (fun x39 s38 => ?_)
          refine z_icmp_ge (pc := 96) F 210 dX9_comes_96 (by decide) (fun h67 => ?_) (fun h67 => ?_)
          · refine z_wk [true, true, true, false, false, true, true, false, true, true, true] (lv' := [some (.ref (zad K 21 0)), some (.int a1), some (.int a2), none, none, none, some (.int v6_88_11), none, none, none, none]) rfl ?_
            exact hk88_11 v6_88_11 s38
          · refine z_iload_n (pc := 99) F dX9_comes_99 rfl ?_
            refine z_iload_n (pc := 100) F dX9_comes_100 rfl ?_
            refine z_iload (pc := 101) F dX9_comes_101 rfl ?_
            refine z_callSi (pc := 103) (st := []) F [.int a1, .int a2, .int v7_88_11] cl_RX9_146 (tX9_at (zln K) s38 a1 a2 v7_88_11) rfl (by rw [hR]; exact ⟨rfl, rfl, Nat.le_of_ble_eq_true rfl, Nat.le_of_ble_eq_true rfl⟩) rfl rfl (Nat.le_of_ble_eq_true rfl) dX9_comes_103 (fun x41 s40 => ?_)
            refine z_istore (pc := 106) F (lv' := [some (.ref (zad K 21 0)), some (.int a1), some (.int a2), some (.int x4), some (.int x6), none, some (.int v6_88_11), some (.int v7_88_11), some (.int x41), none, none]) dX9_comes_106 (zlt rfl) rfl ?_
            refine z_aload_n (pc := 108) F dX9_comes_108 rfl ?_
            refine z_get (pc := 109) F 21 0 18 (v := .ref (zad K 30 0)) (by decide) (fun _ => rfl) rfl (by decide) inlX9 lk_RX9_44 rfl dX9_comes_109 ?_
            refine z_iload (pc := 112) F dX9_comes_112 rfl ?_
            refine z_iload (pc := 114) F dX9_comes_114 rfl ?_
            refine z_iadd (pc := 116) F dX9_comes_116 ?_
            refine z_ix (fun h42 => ?_)
            refine z_iald (pc := 117) F 30 0 (by decide) (fun _ => rfl) h42 dX9_comes_117 ?_
            refine z_Bi (fun x43 => ?_)
            refine z_istore (pc := 118) F (lv' := [some (.ref (zad K 21 0)), some (.int a1), some (.int a2), some (.int x4), some (.int x6), none, some (.int v6_88_11), some (.int v7_88_11), some (.int x41), some (.int x43), none]) dX9_comes_118 (zlt rfl) rfl ?_
            refine z_iload (pc := 120) F dX9_comes_120 rfl ?_
            refine z_aload_n (pc := 122) F dX9_comes_122 rfl ?_
            refine z_aload_n (pc := 123) F dX9_comes_123 rfl ?_
            refine z_get (pc := 124) F 21 0 18 (v := .ref (zad K 30 0)) (by decide) (fun _ => rfl) rfl (by decide) inlX9 lk_RX9_44 rfl dX9_comes_124 ?_
            refine z_iload (pc := 127) F dX9_comes_127 rfl ?_
            refine z_iload_n (pc := 129) F dX9_comes_129 rfl ?_
            refine z_callVi (pc := 130) (st := [.int v6_88_11]) F 21 0 [.ref (zad K 30 0), .int x41, .int x4] cl_RX9_162 (tX9_leadOf_30 (zln K) s40 x41 x4) rfl (by decide) (fun _ => ⟨_, rfl⟩) rfl (by rw [hR]; exact ⟨rfl, rfl, Nat.le_of_ble_eq_true rfl, Nat.le_of_ble_eq_true rfl⟩) rfl rfl (Nat.le_of_ble_eq_true rfl) dX9_comes_130 (fun x45 s44 => ?_)
            refine z_iload (pc := 133) F dX9_comes_133 rfl ?_
            refine z_icmp_ge (pc := 135) F 142 dX9_comes_135 (by decide) (fun h66 => ?_) (fun h66 => ?_)
            · refine z_iconst (pc := 142) F (v := 0) dX9_comes_142 (by decide) ?_
              refine z_iadd (pc := 143) F dX9_comes_143 ?_
              refine z_Bi (fun x46 => ?_)
              refine z_istore (pc := 144) F (lv' := [some (.ref (zad K 21 0)), some (.int a1), some (.int a2), some (.int x4), some (.int x6), none, some (.int x46), some (.int v7_88_11), some (.int x41), some (.int x43), none]) dX9_comes_144 (zlt rfl) rfl ?_
              refine z_iconst (pc := 146) F (v := 0) dX9_comes_146 (by decide) ?_
              refine z_istore (pc := 147) F (lv' := [some (.ref (zad K 21 0)), some (.int a1), some (.int a2), some (.int x4), some (.int x6), none, some (.int x46), some (.int v7_88_11), some (.int x41), some (.int x43), some (.int (0 : Int32))]) dX9_comes_147 (zlt rfl) rfl ?_
              have hk149_47 : ∀ (y149_47 : zS), ZO K t 204 [some (.ref (zad K 21 0)), some (.int a1), some (.int a2), some (.int x4), some (.int x6), none, some (.int x46), some (.int v7_88_11), none, none, none] [] y149_47 ((fun (y149_47 : zS) => (zB (v7_88_11 + 1) (fun x48 => fX9_comes_88 a1 a2 x4 x6 k88_11 n88_11 x46 x48 y149_47) : Option (Int32 × zS))) y149_47) := by
                intro y149_47
                show ZO K t 204 [some (.ref (zad K 21 0)), some (.int a1), some (.int a2), some (.int x4), some (.int x6), none, some (.int x46), some (.int v7_88_11), none, none, none] [] y149_47 (zB (v7_88_11 + 1) (fun x48 => fX9_comes_88 a1 a2 x4 x6 k88_11 n88_11 x46 x48 y149_47))
                refine z_iincB (pc := 204) F (lv' := fun x48 => [some (.ref (zad K 21 0)), some (.int a1), some (.int a2), some (.int x4), some (.int x6), none, some (.int x46), some (.int x48), none, none, none]) dX9_comes_204 rfl rfl (fun _ => rfl) (fun x48 => ?_)
                refine z_goto (pc := 207) F 88 dX9_comes_207 (by decide) ?_
                exact ih88_11 x46 x48 y149_47
              have L149_47 : ∀ (n149_47 : Nat) (v10_149_47 : Int32) (w149_47 : zS), ZO K t 149 [some (.ref (zad K 21 0)), some (.int a1), some (.int a2), some (.int x4), some (.int x6), none, some (.int x46), some (.int v7_88_11), some (.int x41), some (.int x43), some (.int v10_149_47)] [] w149_47 (fX9_comes_149 x4 x41 x43 (fun (y149_47 : zS) => (zB (v7_88_11 + 1) (fun x48 => fX9_comes_88 a1 a2 x4 x6 k88_11 n88_11 x46 x48 y149_47) : Option (Int32 × zS))) n149_47 v10_149_47 w149_47) := by
                revert hk149_47; generalize (fun (y149_47 : zS) => (zB (v7_88_11 + 1) (fun x48 => fX9_comes_88 a1 a2 x4 x6 k88_11 n88_11 x46 x48 y149_47) : Option (Int32 × zS))) = k149_47; intro hk149_47
                intro n149_47
                induction n149_47 with
                | zero => intro v10_149_47 w149_47; exact z_none
                | succ n149_47 ih149_47 =>
                  intro v10_149_47 w149_47
                  show ZO K t 149 [some (.ref (zad K 21 0)), some (.int a1), some (.int a2), some (.int x4), some (.int x6), none, some (.int x46), some (.int v7_88_11), some (.int x41), some (.int x43), some (.int v10_149_47)] [] w149_47 (if (x4 + (3 : Int32)) ≤ v10_149_47 then k149_47 w149_47 else zIx (x41 + v10_149_47) 480 (zIx v10_149_47 8 (zGd (¬ (w149_47 21 0 12) = 0) (zIx (x41 + v10_149_47) 480 (zB (zU w149_47 30 0 (x41 + v10_149_47).toNatClampNeg (((w149_47 30 0 (x41 + v10_149_47).toNatClampNeg) + (((w149_47 21 0 12) - x43) * (w149_47 35 0 v10_149_47.toNatClampNeg))) - ((w149_47 30 0 (x41 + v10_149_47).toNatClampNeg) + (((w149_47 21 0 12) - x43) * (w149_47 35 0 v10_149_47.toNatClampNeg))) / (w149_47 21 0 12) * (w149_47 21 0 12))) (fun s53 => zB (v10_149_47 + 1) (fun x54 => fX9_comes_149 x4 x41 x43 k149_47 n149_47 x54 s53)))))))
                  refine z_iload (pc := 149) F dX9_comes_149 rfl ?_
                  refine z_iload_n (pc := 151) F dX9_comes_151 rfl ?_
                  refine z_iconst (pc := 152) F (v := 3) dX9_comes_152 (by decide) ?_
                  refine z_iadd (pc := 153) F dX9_comes_153 ?_
                  refine z_icmp_ge (pc := 154) F 204 dX9_comes_154 (by decide) (fun h55 => ?_) (fun h55 => ?_)
                  · refine z_wk [true, true, true, true, true, true, true, true, false, false, false] (lv' := [some (.ref (zad K 21 0)), some (.int a1), some (.int a2), some (.int x4), some (.int x6), none, some (.int x46), some (.int v7_88_11), none, none, none]) rfl ?_
                    exact hk149_47  w149_47
                  · refine z_aload_n (pc := 157) F dX9_comes_157 rfl ?_
                    refine z_get (pc := 158) F 21 0 18 (v := .ref (zad K 30 0)) (by decide) (fun _ => rfl) rfl (by decide) inlX9 lk_RX9_44 rfl dX9_comes_158 ?_
                    refine z_iload (pc := 161) F dX9_comes_161 rfl ?_
                    refine z_iload (pc := 163) F dX9_comes_163 rfl ?_
                    refine z_iadd (pc := 165) F dX9_comes_165 ?_
                    refine z_aload_n (pc := 166) F dX9_comes_166 rfl ?_
                    refine z_get (pc := 167) F 21 0 18 (v := .ref (zad K 30 0)) (by decide) (fun _ => rfl) rfl (by decide) inlX9 lk_RX9_44 rfl dX9_comes_167 ?_
                    refine z_iload (pc := 170) F dX9_comes_170 rfl ?_
                    refine z_iload (pc := 172) F dX9_comes_172 rfl ?_
                    refine z_iadd (pc := 174) F dX9_comes_174 ?_
                    refine z_ix (fun h49 => ?_)
                    refine z_iald (pc := 175) F 30 0 (by decide) (fun _ => rfl) h49 dX9_comes_175 ?_
                    refine z_aload_n (pc := 176) F dX9_comes_176 rfl ?_
                    refine z_get (pc := 177) F 21 0 12 (v := .int (w149_47 21 0 12)) (by decide) (fun _ => rfl) rfl (by decide) inlX9 lk_RX9_32 rfl dX9_comes_177 ?_
                    refine z_iload (pc := 180) F dX9_comes_180 rfl ?_
                    refine z_isub (pc := 182) F dX9_comes_182 ?_
                    refine z_aload_n (pc := 183) F dX9_comes_183 rfl ?_
                    refine z_get (pc := 184) F 21 0 24 (v := .ref (zad K 35 0)) (by decide) (fun _ => rfl) rfl (by decide) inlX9 lk_RX9_62 rfl dX9_comes_184 ?_
                    refine z_iload (pc := 187) F dX9_comes_187 rfl ?_
                    refine z_ix (fun h50 => ?_)
                    refine z_iald (pc := 189) F 35 0 (by decide) (fun _ => rfl) h50 dX9_comes_189 ?_
                    refine z_imul (pc := 190) F dX9_comes_190 ?_
                    refine z_iadd (pc := 191) F dX9_comes_191 ?_
                    refine z_aload_n (pc := 192) F dX9_comes_192 rfl ?_
                    refine z_get (pc := 193) F 21 0 12 (v := .int (w149_47 21 0 12)) (by decide) (fun _ => rfl) rfl (by decide) inlX9 lk_RX9_32 rfl dX9_comes_193 ?_
                    refine z_gd (fun h51 => ?_)
                    refine z_irem (pc := 196) F h51 dX9_comes_196 ?_
                    refine z_ix (fun h52 => ?_)
                    refine z_iast (pc := 197) F 30 0 (by decide) (fun _ _ => rfl) h52 dX9_comes_197 (fun s53 => ?_)
                    refine z_iincB (pc := 198) F (lv' := fun x54 => [some (.ref (zad K 21 0)), some (.int a1), some (.int a2), some (.int x4), some (.int x6), none, some (.int x46), some (.int v7_88_11), some (.int x41), some (.int x43), some (.int x54)]) dX9_comes_198 rfl rfl (fun _ => rfl) (fun x54 => ?_)
                    refine z_goto (pc := 201) F 149 dX9_comes_201 (by decide) ?_
                    exact ih149_47 x54 s53
              exact L149_47 zN (0 : Int32) s44
            · refine z_iconst (pc := 138) F (v := 1) dX9_comes_138 (by decide) ?_
              refine z_goto (pc := 139) F 143 dX9_comes_139 (by decide) ?_
              refine z_iadd (pc := 143) F dX9_comes_143 ?_
              refine z_Bi (fun x56 => ?_)
              refine z_istore (pc := 144) F (lv' := [some (.ref (zad K 21 0)), some (.int a1), some (.int a2), some (.int x4), some (.int x6), none, some (.int x56), some (.int v7_88_11), some (.int x41), some (.int x43), none]) dX9_comes_144 (zlt rfl) rfl ?_
              refine z_iconst (pc := 146) F (v := 0) dX9_comes_146 (by decide) ?_
              refine z_istore (pc := 147) F (lv' := [some (.ref (zad K 21 0)), some (.int a1), some (.int a2), some (.int x4), some (.int x6), none, some (.int x56), some (.int v7_88_11), some (.int x41), some (.int x43), some (.int (0 : Int32))]) dX9_comes_147 (zlt rfl) rfl ?_
              have hk149_57 : ∀ (y149_57 : zS), ZO K t 204 [some (.ref (zad K 21 0)), some (.int a1), some (.int a2), some (.int x4), some (.int x6), none, some (.int x56), some (.int v7_88_11), none, none, none] [] y149_57 ((fun (y149_57 : zS) => (zB (v7_88_11 + 1) (fun x58 => fX9_comes_88 a1 a2 x4 x6 k88_11 n88_11 x56 x58 y149_57) : Option (Int32 × zS))) y149_57) := by
                intro y149_57
                show ZO K t 204 [some (.ref (zad K 21 0)), some (.int a1), some (.int a2), some (.int x4), some (.int x6), none, some (.int x56), some (.int v7_88_11), none, none, none] [] y149_57 (zB (v7_88_11 + 1) (fun x58 => fX9_comes_88 a1 a2 x4 x6 k88_11 n88_11 x56 x58 y149_57))
                refine z_iincB (pc := 204) F (lv' := fun x58 => [some (.ref (zad K 21 0)), some (.int a1), some (.int a2), some (.int x4), some (.int x6), none, some (.int x56), some (.int x58), none, none, none]) dX9_comes_204 rfl rfl (fun _ => rfl) (fun x58 => ?_)
                refine z_goto (pc := 207) F 88 dX9_comes_207 (by decide) ?_
                exact ih88_11 x56 x58 y149_57
              have L149_57 : ∀ (n149_57 : Nat) (v10_149_57 : Int32) (w149_57 : zS), ZO K t 149 [some (.ref (zad K 21 0)), some (.int a1), some (.int a2), some (.int x4), some (.int x6), none, some (.int x56), some (.int v7_88_11), some (.int x41), some (.int x43), some (.int v10_149_57)] [] w149_57 (fX9_comes_149_57 x4 x41 x43 (fun (y149_57 : zS) => (zB (v7_88_11 + 1) (fun x58 => fX9_comes_88 a1 a2 x4 x6 k88_11 n88_11 x56 x58 y149_57) : Option (Int32 × zS))) n149_57 v10_149_57 w149_57) := by
                revert hk149_57; generalize (fun (y149_57 : zS) => (zB (v7_88_11 + 1) (fun x58 => fX9_comes_88 a1 a2 x4 x6 k88_11 n88_11 x56 x58 y149_57) : Option (Int32 × zS))) = k149_57; intro hk149_57
                intro n149_57
                induction n149_57 with
                | zero => intro v10_149_57 w149_57; exact z_none
                | succ n149_57 ih149_57 =>
                  intro v10_149_57 w149_57
                  show ZO K t 149 [some (.ref (zad K 21 0)), some (.int a1), some (.int a2), some (.int x4), some (.int x6), none, some (.int x56), some (.int v7_88_11), some (.int x41), some (.int x43), some (.int v10_149_57)] [] w149_57 (if (x4 + (3 : Int32)) ≤ v10_149_57 then k149_57 w149_57 else zIx (x41 + v10_149_57) 480 (zIx v10_149_57 8 (zGd (¬ (w149_57 21 0 12) = 0) (zIx (x41 + v10_149_57) 480 (zB (zU w149_57 30 0 (x41 + v10_149_57).toNatClampNeg (((w149_57 30 0 (x41 + v10_149_57).toNatClampNeg) + (((w149_57 21 0 12) - x43) * (w149_57 35 0 v10_149_57.toNatClampNeg))) - ((w149_57 30 0 (x41 + v10_149_57).toNatClampNeg) + (((w149_57 21 0 12) - x43) * (w149_57 35 0 v10_149_57.toNatClampNeg))) / (w149_57 21 0 12) * (w149_57 21 0 12))) (fun s63 => zB (v10_149_57 + 1) (fun x64 => fX9_comes_149_57 x4 x41 x43 k149_57 n149_57 x64 s63)))))))
                  refine z_iload (pc := 149) F dX9_comes_149 rfl ?_
                  refine z_iload_n (pc := 151) F dX9_comes_151 rfl ?_
                  refine z_iconst (pc := 152) F (v := 3) dX9_comes_152 (by decide) ?_
                  refine z_iadd (pc := 153) F dX9_comes_153 ?_
                  refine z_icmp_ge (pc := 154) F 204 dX9_comes_154 (by decide) (fun h65 => ?_) (fun h65 => ?_)
                  · refine z_wk [true, true, true, true, true, true, true, true, false, false, false] (lv' := [some (.ref (zad K 21 0)), some (.int a1), some (.int a2), some (.int x4), some (.int x6), none, some (.int x56), some (.int v7_88_11), none, none, none]) rfl ?_
                    exact hk149_57  w149_57
                  · refine z_aload_n (pc := 157) F dX9_comes_157 rfl ?_
                    refine z_get (pc := 158) F 21 0 18 (v := .ref (zad K 30 0)) (by decide) (fun _ => rfl) rfl (by decide) inlX9 lk_RX9_44 rfl dX9_comes_158 ?_
                    refine z_iload (pc := 161) F dX9_comes_161 rfl ?_
                    refine z_iload (pc := 163) F dX9_comes_163 rfl ?_
                    refine z_iadd (pc := 165) F dX9_comes_165 ?_
                    refine z_aload_n (pc := 166) F dX9_comes_166 rfl ?_
                    refine z_get (pc := 167) F 21 0 18 (v := .ref (zad K 30 0)) (by decide) (fun _ => rfl) rfl (by decide) inlX9 lk_RX9_44 rfl dX9_comes_167 ?_
                    refine z_iload (pc := 170) F dX9_comes_170 rfl ?_
                    refine z_iload (pc := 172) F dX9_comes_172 rfl ?_
                    refine z_iadd (pc := 174) F dX9_comes_174 ?_
                    refine z_ix (fun h59 => ?_)
                    refine z_iald (pc := 175) F 30 0 (by decide) (fun _ => rfl) h59 dX9_comes_175 ?_
                    refine z_aload_n (pc := 176) F dX9_comes_176 rfl ?_
                    refine z_get (pc := 177) F 21 0 12 (v := .int (w149_57 21 0 12)) (by decide) (fun _ => rfl) rfl (by decide) inlX9 lk_RX9_32 rfl dX9_comes_177 ?_
                    refine z_iload (pc := 180) F dX9_comes_180 rfl ?_
                    refine z_isub (pc := 182) F dX9_comes_182 ?_
                    refine z_aload_n (pc := 183) F dX9_comes_183 rfl ?_
                    refine z_get (pc := 184) F 21 0 24 (v := .ref (zad K 35 0)) (by decide) (fun _ => rfl) rfl (by decide) inlX9 lk_RX9_62 rfl dX9_comes_184 ?_
                    refine z_iload (pc := 187) F dX9_comes_187 rfl ?_
                    refine z_ix (fun h60 => ?_)
                    refine z_iald (pc := 189) F 35 0 (by decide) (fun _ => rfl) h60 dX9_comes_189 ?_
                    refine z_imul (pc := 190) F dX9_comes_190 ?_
                    refine z_iadd (pc := 191) F dX9_comes_191 ?_
                    refine z_aload_n (pc := 192) F dX9_comes_192 rfl ?_
                    refine z_get (pc := 193) F 21 0 12 (v := .int (w149_57 21 0 12)) (by decide) (fun _ => rfl) rfl (by decide) inlX9 lk_RX9_32 rfl dX9_comes_193 ?_
                    refine z_gd (fun h61 => ?_)
                    refine z_irem (pc := 196) F h61 dX9_comes_196 ?_
                    refine z_ix (fun h62 => ?_)
                    refine z_iast (pc := 197) F 30 0 (by decide) (fun _ _ => rfl) h62 dX9_comes_197 (fun s63 => ?_)
                    refine z_iincB (pc := 198) F (lv' := fun x64 => [some (.ref (zad K 21 0)), some (.int a1), some (.int a2), some (.int x4), some (.int x6), none, some (.int x56), some (.int v7_88_11), some (.int x41), some (.int x43), some (.int x64)]) dX9_comes_198 rfl rfl (fun _ => rfl) (fun x64 => ?_)
                    refine z_goto (pc := 201) F 149 dX9_comes_201 (by decide) ?_
                    exact ih149_57 x64 s63
              exact L149_57 zN (0 : Int32) s44
      exact L88_11 zN (0 : Int32) (0 : Int32) y46_10
    have L46_10 : ∀ (n46_10 : Nat) (v6_46_10 : Int32) (w46_10 : zS), ZO K t 46 [some (.ref (zad K 21 0)), some (.int a1), some (.int a2), some (.int x4), some (.int x6), some (.int x9), some (.int v6_46_10), none, none, none, none] [] w46_10 (fX9_comes_46 x4 x9 (fun (y46_10 : zS) => (fX9_comes_88 a1 a2 x4 x6 (fun (u6_88_11 : Int32) (y88_11 : zS) => (zCi (fX9_rankOf a1 a2 y88_11) (fun x13 s12 => fX9_comes_218 a1 a2 u6_88_11 (fun (y218_14 : zS) => (fX9_comes_282 a1 a2 u6_88_11 (fun (y282_15 : zS) => (zIx (((4 : Int32) * a1) + a2) 12 (zIx (((4 : Int32) * a1) + a2) 12 (zB (zU y282_15 29 0 (((4 : Int32) * a1) + a2).toNatClampNeg ((y282_15 29 0 (((4 : Int32) * a1) + a2).toNatClampNeg) + (1 : Int32))) (fun s18 => some ((1 : Int32), s18)))) : Option (Int32 × zS))) zN (0 : Int32) y218_14 : Option (Int32 × zS))) zN x13 s12) : Option (Int32 × zS))) zN (0 : Int32) (0 : Int32) y46_10 : Option (Int32 × zS))) n46_10 v6_46_10 w46_10) := by
      revert hk46_10; generalize (fun (y46_10 : zS) => (fX9_comes_88 a1 a2 x4 x6 (fun (u6_88_11 : Int32) (y88_11 : zS) => (zCi (fX9_rankOf a1 a2 y88_11) (fun x13 s12 => fX9_comes_218 a1 a2 u6_88_11 (fun (y218_14 : zS) => (fX9_comes_282 a1 a2 u6_88_11 (fun (y282_15 : zS) => (zIx (((4 : Int32) * a1) + a2) 12 (zIx (((4 : Int32) * a1) + a2) 12 (zB (zU y282_15 29 0 (((4 : Int32) * a1) + a2).toNatClampNeg ((y282_15 29 0 (((4 : Int32) * a1) + a2).toNatClampNeg) + (1 : Int32))) (fun s18 => some ((1 : Int32), s18)))) : Option (Int32 × zS))) zN (0 : Int32) y218_14 : Option (Int32 × zS))) zN x13 s12) : Option (Int32 × zS))) zN (0 : Int32) (0 : Int32) y46_10 : Option (Int32 × zS))) = k46_10; intro hk46_10
      intro n46_10
      induction n46_10 with
      | zero => intro v6_46_10 w46_10; exact z_none
      | succ n46_10 ih46_10 =>
        intro v6_46_10 w46_10
        show ZO K t 46 [some (.ref (zad K 21 0)), some (.int a1), some (.int a2), some (.int x4), some (.int x6), some (.int x9), some (.int v6_46_10), none, none, none, none] [] w46_10 (if (x4 + (3 : Int32)) ≤ v6_46_10 then k46_10 w46_10 else zIx v6_46_10 8 (zGd (¬ (w46_10 21 0 12) = 0) (zIx v6_46_10 8 (zB (zU w46_10 35 0 v6_46_10.toNatClampNeg (((w46_10 35 0 v6_46_10.toNatClampNeg) * x9) - ((w46_10 35 0 v6_46_10.toNatClampNeg) * x9) / (w46_10 21 0 12) * (w46_10 21 0 12))) (fun s71 => zB (v6_46_10 + 1) (fun x72 => fX9_comes_46 x4 x9 k46_10 n46_10 x72 s71))))))
        refine z_iload (pc := 46) F dX9_comes_46 rfl ?_
        refine z_iload_n (pc := 48) F dX9_comes_48 rfl ?_
        refine z_iconst (pc := 49) F (v := 3) dX9_comes_49 (by decide) ?_
        refine z_iadd (pc := 50) F dX9_comes_50 ?_
        refine z_icmp_ge (pc := 51) F 82 dX9_comes_51 (by decide) (fun h73 => ?_) (fun h73 => ?_)
        · refine z_wk [true, true, true, true, true, false, false, true, true, true, true] (lv' := [some (.ref (zad K 21 0)), some (.int a1), some (.int a2), some (.int x4), some (.int x6), none, none, none, none, none, none]) rfl ?_
          exact hk46_10  w46_10
        · refine z_aload_n (pc := 54) F dX9_comes_54 rfl ?_
          refine z_get (pc := 55) F 21 0 24 (v := .ref (zad K 35 0)) (by decide) (fun _ => rfl) rfl (by decide) inlX9 lk_RX9_62 rfl dX9_comes_55 ?_
          refine z_iload (pc := 58) F dX9_comes_58 rfl ?_
          refine z_aload_n (pc := 60) F dX9_comes_60 rfl ?_
          refine z_get (pc := 61) F 21 0 24 (v := .ref (zad K 35 0)) (by decide) (fun _ => rfl) rfl (by decide) inlX9 lk_RX9_62 rfl dX9_comes_61 ?_
          refine z_iload (pc := 64) F dX9_comes_64 rfl ?_
          refine z_ix (fun h68 => ?_)
          refine z_iald (pc := 66) F 35 0 (by decide) (fun _ => rfl) h68 dX9_comes_66 ?_
          refine z_iload (pc := 67) F dX9_comes_67 rfl ?_
          refine z_imul (pc := 69) F dX9_comes_69 ?_
          refine z_aload_n (pc := 70) F dX9_comes_70 rfl ?_
          refine z_get (pc := 71) F 21 0 12 (v := .int (w46_10 21 0 12)) (by decide) (fun _ => rfl) rfl (by decide) inlX9 lk_RX9_32 rfl dX9_comes_71 ?_
          refine z_gd (fun h69 => ?_)
          refine z_irem (pc := 74) F h69 dX9_comes_74 ?_
          refine z_ix (fun h70 => ?_)
          refine z_iast (pc := 75) F 35 0 (by decide) (fun _ _ => rfl) h70 dX9_comes_75 (fun s71 => ?_)
          refine z_iincB (pc := 76) F (lv' := fun x72 => [some (.ref (zad K 21 0)), some (.int a1), some (.int a2), some (.int x4), some (.int x6), some (.int x9), some (.int x72), none, none, none, none]) dX9_comes_76 rfl rfl (fun _ => rfl) (fun x72 => ?_)
          refine z_goto (pc := 79) F 46 dX9_comes_79 (by decide) ?_
          exact ih46_10 x72 s71
    exact L46_10 zN (0 : Int32) s8
  · refine z_iconst (pc := 9) F (v := 0) dX9_comes_9 (by decide) ?_
    exact z_zret (pc := 10) F E (by decide) dX9_comes_10
