def fX2_nodeOf (a1 : Int32) (a2 : Int32) (σ : zS) : Option (Option Nat × zS) := zCq (fX2_find a1 σ) (fun s1 => some (none, s1)) (fun i2 s1 => zGd (i2 < 3) (if a2 < 0 then some (none, s1) else if a2 < (4 : Int32) then zIx a2 4 (zB (4 * i2 + a2.toNatClampNeg) (fun i5 => zGd (i5 < 12) (some (some i5, s1)))) else some (none, s1)))
abbrev rmX2_nodeOf : Room := { frames := 1, cells := 0, slots := 0, locals := 22 }
set_option maxRecDepth 100000 in
set_option maxHeartbeats 4000000 in
theorem tX2_nodeOf (l : Launch) (σ : zS) (a1 : Int32) (a2 : Int32) : zMq 15 l yX2_nodeOf cX2_nodeOf 4 (some (.object "AddedLetters$Node")) rmX2_nodeOf (fun ad => [.ref (ad 10 0), .int a1, .int a2]) σ (fX2_nodeOf a1 a2 σ) := by
  refine zMq.of RX2 (by decide +kernel) rfl (fun _ => Nat.le_of_ble_eq_true rfl) (fun _ => zcat rfl) (fun K t F hR hL E => ?_)
  show ZO K t 0 [some (.ref (zad K 10 0)), some (.int a1), some (.int a2), none] [] σ (zCq (fX2_find a1 σ) (fun s1 => some (none, s1)) (fun i2 s1 => zGd (i2 < 3) (if a2 < 0 then some (none, s1) else if a2 < (4 : Int32) then zIx a2 4 (zB (4 * i2 + a2.toNatClampNeg) (fun i5 => zGd (i5 < 12) (some (some i5, s1)))) else some (none, s1))))
  refine z_aload_n (pc := 0) F dX2_nodeOf_0 rfl ?_
  refine z_iload_n (pc := 1) F dX2_nodeOf_1 rfl ?_
  refine z_callVq (pc := 2) (st := []) F 10 0 [.int a1] cl_RX2_40 (tX2_find (zln K) σ a1) rfl (by decide) (fun _ => ⟨_, rfl⟩) rfl (by rw [hR]; exact ⟨rfl, rfl, Nat.le_of_ble_eq_true rfl, Nat.le_of_ble_eq_true rfl⟩) rfl rfl (Nat.le_of_ble_eq_true rfl) dX2_nodeOf_2 (fun s1 => ?_) (fun i2 s1 => ?_)
  · refine z_astore_nN (pc := 5) F (lv' := [some (.ref (zad K 10 0)), some (.int a1), some (.int a2), some (.null)]) dX2_nodeOf_5 (zlt rfl) rfl ?_
    refine z_aload_nN (pc := 6) F dX2_nodeOf_6 rfl ?_
    refine z_ifnullN (pc := 7) F 19 dX2_nodeOf_7 (by decide) ?_
    refine z_null (pc := 19) F dX2_nodeOf_19 ?_
    refine z_goto (pc := 20) F 29 dX2_nodeOf_20 (by decide) ?_
    exact z_aretN (pc := 29) F E dX2_nodeOf_29
  · refine z_gd (fun h3 => ?_)
    refine z_astore_n (pc := 5) F (lv' := [some (.ref (zad K 10 0)), some (.int a1), some (.int a2), some (.ref (zad K 13 i2))]) dX2_nodeOf_5 (zlt rfl) rfl ?_
    refine z_aload_n (pc := 6) F dX2_nodeOf_6 rfl ?_
    refine z_ifnull (pc := 7) F dX2_nodeOf_7 ?_
    refine z_iload_n (pc := 10) F dX2_nodeOf_10 rfl ?_
    refine z_if_lt (pc := 11) F 19 dX2_nodeOf_11 (by decide) (fun h8 => ?_) (fun h8 => ?_)
    · refine z_null (pc := 19) F dX2_nodeOf_19 ?_
      refine z_goto (pc := 20) F 29 dX2_nodeOf_20 (by decide) ?_
      exact z_aretN (pc := 29) F E dX2_nodeOf_29
    · refine z_iload_n (pc := 14) F dX2_nodeOf_14 rfl ?_
      refine z_iconst (pc := 15) F (v := 4) dX2_nodeOf_15 (by decide) ?_
      refine z_icmp_lt (pc := 16) F 23 dX2_nodeOf_16 (by decide) (fun h7 => ?_) (fun h7 => ?_)
      · refine z_aload_n (pc := 23) F dX2_nodeOf_23 rfl ?_
        refine z_getN (pc := 24) F 13 i2 0 (v := .ref (zad K 14 i2)) h3 (fun _ => rfl) rfl (by decide) inlX1 lk_RX2_44 rfl dX2_nodeOf_24 ?_
        refine z_iload_n (pc := 27) F dX2_nodeOf_27 rfl ?_
        refine z_ix (fun h4 => ?_)
        refine z_aald (pc := 28) F 14 i2 15 (4 * i2 + a2.toNatClampNeg) 3 h3 (fun _ => rfl) (fun _ => rfl) rfl h4 (fun _ => rfl) dX2_nodeOf_28 ?_
        refine z_Br (fun i5 => ?_)
        refine z_gd (fun h6 => ?_)
        exact z_aret (pc := 29) (i := i5) F E dX2_nodeOf_29
      · refine z_null (pc := 19) F dX2_nodeOf_19 ?_
        refine z_goto (pc := 20) F 29 dX2_nodeOf_20 (by decide) ?_
        exact z_aretN (pc := 29) F E dX2_nodeOf_29
def fX2_takeOutDone_4 (k4_1 : Int32 → zS → Option (Int32 × zS)) : Nat → Int32 → Int32 → zS → Option (Int32 × zS)
  | 0, _, _, _ => none
  | (n4_1 + 1), v1_4_1, v2_4_1, w4_1 => if (w4_1 10 0 4) ≤ v2_4_1 then k4_1 v1_4_1 w4_1 else zIx v2_4_1 3 (zB ((w4_1 11 0 v2_4_1.toNatClampNeg).toNatClampNeg % 3) (fun i5 => zGd (i5 < 3) (zCi (fX1_isDone i5 w4_1) (fun x8 s7 => if x8 = 0 then zIx v2_4_1 3 (zB ((s7 11 0 v2_4_1.toNatClampNeg).toNatClampNeg % 3) (fun i11 => zGd (i11 < 3) (zIx v1_4_1 3 (zB ((s7 11 0 v1_4_1.toNatClampNeg).toNatClampNeg % 3) (fun i14 => zGd (i14 < 3) (zIx v2_4_1 3 (zB (zU s7 11 0 v2_4_1.toNatClampNeg (nI i14)) (fun s17 => zIx v1_4_1 3 (zB (zU s17 11 0 v1_4_1.toNatClampNeg (nI i11)) (fun s19 => zB (v1_4_1 + 1) (fun x20 => zB (v2_4_1 + 1) (fun x21 => fX2_takeOutDone_4 k4_1 n4_1 x20 x21 s19)))))))))))) else zB (v2_4_1 + 1) (fun x9 => fX2_takeOutDone_4 k4_1 n4_1 v1_4_1 x9 s7)))))
def fX2_takeOutDone (σ : zS) : Option (Int32 × zS) := fX2_takeOutDone_4 (fun (u1_4_1 : Int32) (y4_1 : zS) => (zB ((y4_1 10 0 4) - u1_4_1) (fun x2 => zB (zU y4_1 10 0 4 u1_4_1) (fun s3 => some (x2, s3))) : Option (Int32 × zS))) zN (0 : Int32) (0 : Int32) σ
abbrev rmX2_takeOutDone : Room := { frames := 2, cells := 0, slots := 0, locals := 43 }
set_option maxRecDepth 100000 in
set_option maxHeartbeats 4000000 in
theorem tX2_takeOutDone (l : Launch) (σ : zS) : zMi l yX2_takeOutDone cX2_takeOutDone 4 (some .int) rmX2_takeOutDone (fun ad => [.ref (ad 10 0)]) σ (fX2_takeOutDone σ) := by
  refine zMi.of RX2 (by decide +kernel) rfl (fun _ => Nat.le_of_ble_eq_true rfl) (fun _ => zcat rfl) (fun K t F hR hL E => ?_)
  show ZO K t 0 [some (.ref (zad K 10 0)), none, none, none] [] σ (fX2_takeOutDone_4 (fun (u1_4_1 : Int32) (y4_1 : zS) => (zB ((y4_1 10 0 4) - u1_4_1) (fun x2 => zB (zU y4_1 10 0 4 u1_4_1) (fun s3 => some (x2, s3))) : Option (Int32 × zS))) zN (0 : Int32) (0 : Int32) σ)
  refine z_iconst (pc := 0) F (v := 0) dX2_takeOutDone_0 (by decide) ?_
  refine z_istore_n (pc := 1) F (lv' := [some (.ref (zad K 10 0)), some (.int (0 : Int32)), none, none]) dX2_takeOutDone_1 (zlt rfl) rfl ?_
  refine z_iconst (pc := 2) F (v := 0) dX2_takeOutDone_2 (by decide) ?_
  refine z_istore_n (pc := 3) F (lv' := [some (.ref (zad K 10 0)), some (.int (0 : Int32)), some (.int (0 : Int32)), none]) dX2_takeOutDone_3 (zlt rfl) rfl ?_
  have hk4_1 : ∀ (u1_4_1 : Int32) (y4_1 : zS), ZO K t 59 [some (.ref (zad K 10 0)), some (.int u1_4_1), none, none] [] y4_1 ((fun (u1_4_1 : Int32) (y4_1 : zS) => (zB ((y4_1 10 0 4) - u1_4_1) (fun x2 => zB (zU y4_1 10 0 4 u1_4_1) (fun s3 => some (x2, s3))) : Option (Int32 × zS))) u1_4_1 y4_1) := by
    intro u1_4_1 y4_1
    show ZO K t 59 [some (.ref (zad K 10 0)), some (.int u1_4_1), none, none] [] y4_1 (zB ((y4_1 10 0 4) - u1_4_1) (fun x2 => zB (zU y4_1 10 0 4 u1_4_1) (fun s3 => some (x2, s3))))
    refine z_aload_n (pc := 59) F dX2_takeOutDone_59 rfl ?_
    refine z_get (pc := 60) F 10 0 4 (v := .int (y4_1 10 0 4)) (by decide) (fun _ => rfl) rfl (by decide) inlX2 lk_RX2_30 rfl dX2_takeOutDone_60 ?_
    refine z_iload_n (pc := 63) F dX2_takeOutDone_63 rfl ?_
    refine z_isub (pc := 64) F dX2_takeOutDone_64 ?_
    refine z_Bi (fun x2 => ?_)
    refine z_istore_n (pc := 65) F (lv' := [some (.ref (zad K 10 0)), some (.int u1_4_1), some (.int x2), none]) dX2_takeOutDone_65 (zlt rfl) rfl ?_
    refine z_aload_n (pc := 66) F dX2_takeOutDone_66 rfl ?_
    refine z_iload_n (pc := 67) F dX2_takeOutDone_67 rfl ?_
    refine z_put (pc := 68) F 10 0 4 tyX2 tyX2_ok nmX2 (by decide) (fun _ => rfl) rfl (by decide) inlX2 lk_RX2_30 rfl (by decide +kernel) (fun _ => Nat.le_of_ble_eq_true rfl) (fun _ => rfl) dX2_takeOutDone_68 (fun s3 => ?_)
    refine z_iload_n (pc := 71) F dX2_takeOutDone_71 rfl ?_
    exact z_iret (pc := 72) F E dX2_takeOutDone_72
  have L4_1 : ∀ (n4_1 : Nat) (v1_4_1 : Int32) (v2_4_1 : Int32) (w4_1 : zS), ZO K t 4 [some (.ref (zad K 10 0)), some (.int v1_4_1), some (.int v2_4_1), none] [] w4_1 (fX2_takeOutDone_4 (fun (u1_4_1 : Int32) (y4_1 : zS) => (zB ((y4_1 10 0 4) - u1_4_1) (fun x2 => zB (zU y4_1 10 0 4 u1_4_1) (fun s3 => some (x2, s3))) : Option (Int32 × zS))) n4_1 v1_4_1 v2_4_1 w4_1) := by
    revert hk4_1; generalize (fun (u1_4_1 : Int32) (y4_1 : zS) => (zB ((y4_1 10 0 4) - u1_4_1) (fun x2 => zB (zU y4_1 10 0 4 u1_4_1) (fun s3 => some (x2, s3))) : Option (Int32 × zS))) = k4_1; intro hk4_1
    intro n4_1
    induction n4_1 with
    | zero => intro v1_4_1 v2_4_1 w4_1; exact z_none
    | succ n4_1 ih4_1 =>
      intro v1_4_1 v2_4_1 w4_1
      show ZO K t 4 [some (.ref (zad K 10 0)), some (.int v1_4_1), some (.int v2_4_1), none] [] w4_1 (if (w4_1 10 0 4) ≤ v2_4_1 then k4_1 v1_4_1 w4_1 else zIx v2_4_1 3 (zB ((w4_1 11 0 v2_4_1.toNatClampNeg).toNatClampNeg % 3) (fun i5 => zGd (i5 < 3) (zCi (fX1_isDone i5 w4_1) (fun x8 s7 => if x8 = 0 then zIx v2_4_1 3 (zB ((s7 11 0 v2_4_1.toNatClampNeg).toNatClampNeg % 3) (fun i11 => zGd (i11 < 3) (zIx v1_4_1 3 (zB ((s7 11 0 v1_4_1.toNatClampNeg).toNatClampNeg % 3) (fun i14 => zGd (i14 < 3) (zIx v2_4_1 3 (zB (zU s7 11 0 v2_4_1.toNatClampNeg (nI i14)) (fun s17 => zIx v1_4_1 3 (zB (zU s17 11 0 v1_4_1.toNatClampNeg (nI i11)) (fun s19 => zB (v1_4_1 + 1) (fun x20 => zB (v2_4_1 + 1) (fun x21 => fX2_takeOutDone_4 k4_1 n4_1 x20 x21 s19)))))))))))) else zB (v2_4_1 + 1) (fun x9 => fX2_takeOutDone_4 k4_1 n4_1 v1_4_1 x9 s7))))))
      refine z_iload_n (pc := 4) F dX2_takeOutDone_4 rfl ?_
      refine z_aload_n (pc := 5) F dX2_takeOutDone_5 rfl ?_
      refine z_get (pc := 6) F 10 0 4 (v := .int (w4_1 10 0 4)) (by decide) (fun _ => rfl) rfl (by decide) inlX2 lk_RX2_30 rfl dX2_takeOutDone_6 ?_
      refine z_icmp_ge (pc := 9) F 59 dX2_takeOutDone_9 (by decide) (fun h23 => ?_) (fun h23 => ?_)
      · refine z_wk [true, true, false, true] (lv' := [some (.ref (zad K 10 0)), some (.int v1_4_1), none, none]) rfl ?_
        exact hk4_1 v1_4_1 w4_1
      · refine z_aload_n (pc := 12) F dX2_takeOutDone_12 rfl ?_
        refine z_get (pc := 13) F 10 0 0 (v := .ref (zad K 11 0)) (by decide) (fun _ => rfl) rfl (by decide) inlX2 lk_RX2_11 rfl dX2_takeOutDone_13 ?_
        refine z_iload_n (pc := 16) F dX2_takeOutDone_16 rfl ?_
        refine z_ix (fun h4 => ?_)
        refine z_aald (pc := 17) F 11 0 13 ((w4_1 11 0 v2_4_1.toNatClampNeg).toNatClampNeg % 3) 2 (by decide) (fun _ => rfl) (fun _ => rfl) rfl h4 (fun _ => rfl) dX2_takeOutDone_17 ?_
        refine z_Br (fun i5 => ?_)
        refine z_gd (fun h6 => ?_)
        refine z_callNi (pc := 18) (st := []) F 13 i5 [] cl_RX2_106 (tX1_isDone (zln K) w4_1 i5 h6) rfl h6 (fun _ => ⟨_, rfl⟩) rfl (by rw [hR]; exact ⟨rfl, rfl, Nat.le_of_ble_eq_true rfl, Nat.le_of_ble_eq_true rfl⟩) rfl rfl (Nat.le_of_ble_eq_true rfl) dX2_takeOutDone_18 (fun x8 s7 => ?_)
        refine z_if_ne (pc := 21) F 53 dX2_takeOutDone_21 (by decide) (fun h22 => ?_) (fun h22 => ?_)
        · refine z_iincB (pc := 53) F (lv' := fun x9 => [some (.ref (zad K 10 0)), some (.int v1_4_1), some (.int x9), none]) dX2_takeOutDone_53 rfl rfl (fun _ => rfl) (fun x9 => ?_)
          refine z_goto (pc := 56) F 4 dX2_takeOutDone_56 (by decide) ?_
          exact ih4_1 v1_4_1 x9 s7
        · refine z_aload_n (pc := 24) F dX2_takeOutDone_24 rfl ?_
          refine z_get (pc := 25) F 10 0 0 (v := .ref (zad K 11 0)) (by decide) (fun _ => rfl) rfl (by decide) inlX2 lk_RX2_11 rfl dX2_takeOutDone_25 ?_
          refine z_iload_n (pc := 28) F dX2_takeOutDone_28 rfl ?_
          refine z_ix (fun h10 => ?_)
          refine z_aald (pc := 29) F 11 0 13 ((s7 11 0 v2_4_1.toNatClampNeg).toNatClampNeg % 3) 2 (by decide) (fun _ => rfl) (fun _ => rfl) rfl h10 (fun _ => rfl) dX2_takeOutDone_29 ?_
          refine z_Br (fun i11 => ?_)
          refine z_gd (fun h12 => ?_)
          refine z_astore_n (pc := 30) F (lv' := [some (.ref (zad K 10 0)), some (.int v1_4_1), some (.int v2_4_1), some (.ref (zad K 13 i11))]) dX2_takeOutDone_30 (zlt rfl) rfl ?_
          refine z_aload_n (pc := 31) F dX2_takeOutDone_31 rfl ?_
          refine z_get (pc := 32) F 10 0 0 (v := .ref (zad K 11 0)) (by decide) (fun _ => rfl) rfl (by decide) inlX2 lk_RX2_11 rfl dX2_takeOutDone_32 ?_
          refine z_iload_n (pc := 35) F dX2_takeOutDone_35 rfl ?_
          refine z_aload_n (pc := 36) F dX2_takeOutDone_36 rfl ?_
          refine z_get (pc := 37) F 10 0 0 (v := .ref (zad K 11 0)) (by decide) (fun _ => rfl) rfl (by decide) inlX2 lk_RX2_11 rfl dX2_takeOutDone_37 ?_
          refine z_iload_n (pc := 40) F dX2_takeOutDone_40 rfl ?_
          refine z_ix (fun h13 => ?_)
          refine z_aald (pc := 41) F 11 0 13 ((s7 11 0 v1_4_1.toNatClampNeg).toNatClampNeg % 3) 2 (by decide) (fun _ => rfl) (fun _ => rfl) rfl h13 (fun _ => rfl) dX2_takeOutDone_41 ?_
          refine z_Br (fun i14 => ?_)
          refine z_gd (fun h15 => ?_)
          refine z_ix (fun h16 => ?_)
          refine z_slot (pc := 42) F h15 h16 dX2_takeOutDone_42 (fun s17 => ?_)
          refine z_aload_n (pc := 43) F dX2_takeOutDone_43 rfl ?_
          refine z_get (pc := 44) F 10 0 0 (v := .ref (zad K 11 0)) (by decide) (fun _ => rfl) rfl (by decide) inlX2 lk_RX2_11 rfl dX2_takeOutDone_44 ?_
          refine z_iload_n (pc := 47) F dX2_takeOutDone_47 rfl ?_
          refine z_aload_n (pc := 48) F dX2_takeOutDone_48 rfl ?_
          refine z_ix (fun h18 => ?_)
          refine z_slot (pc := 49) F h12 h18 dX2_takeOutDone_49 (fun s19 => ?_)
          refine z_iincB (pc := 50) F (lv' := fun x20 => [some (.ref (zad K 10 0)), some (.int x20), some (.int v2_4_1), some (.ref (zad K 13 i11))]) dX2_takeOutDone_50 rfl rfl (fun _ => rfl) (fun x20 => ?_)
          refine z_iincB (pc := 53) F (lv' := fun x21 => [some (.ref (zad K 10 0)), some (.int x20), some (.int x21), some (.ref (zad K 13 i11))]) dX2_takeOutDone_53 rfl rfl (fun _ => rfl) (fun x21 => ?_)
          refine z_goto (pc := 56) F 4 dX2_takeOutDone_56 (by decide) ?_
          refine z_wk [true, true, true, false] (lv' := [some (.ref (zad K 10 0)), some (.int x20), some (.int x21), none]) rfl ?_
          exact ih4_1 x20 x21 s19
  exact L4_1 zN (0 : Int32) (0 : Int32) σ
def fX3_cell (nd : Nat) (a1 : Int32) (a2 : Int32) (σ : zS) : Option (Int32 × zS) := if a1 < 0 then if (0 : Int32) = 0 then some ((0 : Int32), σ) else zIx a1 5 (zB (5 * nd + a1.toNatClampNeg) (fun i2 => zGd (i2 < 61) (zIx a2 8 (some (σ 18 i2 a2.toNatClampNeg, σ))))) else if (5 : Int32) ≤ a1 then if (0 : Int32) = 0 then some ((0 : Int32), σ) else zIx a1 5 (zB (5 * nd + a1.toNatClampNeg) (fun i7 => zGd (i7 < 61) (zIx a2 8 (some (σ 18 i7 a2.toNatClampNeg, σ))))) else if a2 < 0 then if (0 : Int32) = 0 then some ((0 : Int32), σ) else zIx a1 5 (zB (5 * nd + a1.toNatClampNeg) (fun i12 => zGd (i12 < 61) (zIx a2 8 (some (σ 18 i12 a2.toNatClampNeg, σ))))) else if (8 : Int32) ≤ a2 then if (0 : Int32) = 0 then some ((0 : Int32), σ) else zIx a1 5 (zB (5 * nd + a1.toNatClampNeg) (fun i17 => zGd (i17 < 61) (zIx a2 8 (some (σ 18 i17 a2.toNatClampNeg, σ))))) else if (1 : Int32) = 0 then some ((0 : Int32), σ) else zIx a1 5 (zB (5 * nd + a1.toNatClampNeg) (fun i22 => zGd (i22 < 61) (zIx a2 8 (some (σ 18 i22 a2.toNatClampNeg, σ)))))
abbrev rmX3_cell : Room := { frames := 0, cells := 0, slots := 0, locals := 0 }
set_option maxRecDepth 100000 in
set_option maxHeartbeats 4000000 in
theorem tX3_cell (l : Launch) (σ : zS) (nd : Nat) (a1 : Int32) (a2 : Int32) (h_nd : nd < 12) : zMi l yX3_cell cX3_cell 4 (some .int) rmX3_cell (fun ad => [.ref (ad 15 nd), .int a1, .int a2]) σ (fX3_cell nd a1 a2 σ) := by
  refine zMi.of RX3 (by decide +kernel) rfl (fun _ => Nat.le_of_ble_eq_true rfl) (fun _ => zcat rfl) (fun K t F hR hL E => ?_)
  show ZO K t 0 [some (.ref (zad K 15 nd)), some (.int a1), some (.int a2), none] [] σ (if a1 < 0 then if (0 : Int32) = 0 then some ((0 : Int32), σ) else zIx a1 5 (zB (5 * nd + a1.toNatClampNeg) (fun i2 => zGd (i2 < 61) (zIx a2 8 (some (σ 18 i2 a2.toNatClampNeg, σ))))) else if (5 : Int32) ≤ a1 then if (0 : Int32) = 0 then some ((0 : Int32), σ) else zIx a1 5 (zB (5 * nd + a1.toNatClampNeg) (fun i7 => zGd (i7 < 61) (zIx a2 8 (some (σ 18 i7 a2.toNatClampNeg, σ))))) else if a2 < 0 then if (0 : Int32) = 0 then some ((0 : Int32), σ) else zIx a1 5 (zB (5 * nd + a1.toNatClampNeg) (fun i12 => zGd (i12 < 61) (zIx a2 8 (some (σ 18 i12 a2.toNatClampNeg, σ))))) else if (8 : Int32) ≤ a2 then if (0 : Int32) = 0 then some ((0 : Int32), σ) else zIx a1 5 (zB (5 * nd + a1.toNatClampNeg) (fun i17 => zGd (i17 < 61) (zIx a2 8 (some (σ 18 i17 a2.toNatClampNeg, σ))))) else if (1 : Int32) = 0 then some ((0 : Int32), σ) else zIx a1 5 (zB (5 * nd + a1.toNatClampNeg) (fun i22 => zGd (i22 < 61) (zIx a2 8 (some (σ 18 i22 a2.toNatClampNeg, σ))))))
  refine z_iload_n (pc := 0) F dX3_cell_0 rfl ?_
  refine z_if_lt (pc := 1) F 23 dX3_cell_1 (by decide) (fun h29 => ?_) (fun h29 => ?_)
  · refine z_iconst (pc := 23) F (v := 0) dX3_cell_23 (by decide) ?_
    refine z_istore_n (pc := 24) F (lv' := [some (.ref (zad K 15 nd)), some (.int a1), some (.int a2), some (.int (0 : Int32))]) dX3_cell_24 (zlt rfl) rfl ?_
    refine z_iload_n (pc := 25) F dX3_cell_25 rfl ?_
    refine z_if_eq (pc := 26) F 40 dX3_cell_26 (by decide) (fun h5 => ?_) (fun h5 => ?_)
    · refine z_iconst (pc := 40) F (v := 0) dX3_cell_40 (by decide) ?_
      exact z_iret (pc := 41) F E dX3_cell_41
    · refine z_aload_n (pc := 29) F dX3_cell_29 rfl ?_
      refine z_get (pc := 30) F 15 nd 0 (v := .ref (zad K 16 nd)) h_nd (fun _ => rfl) rfl (by decide) inlX3 lk_RX3_11 rfl dX3_cell_30 ?_
      refine z_iload_n (pc := 33) F dX3_cell_33 rfl ?_
      refine z_ix (fun h1 => ?_)
      refine z_aald (pc := 34) F 16 nd 18 (5 * nd + a1.toNatClampNeg) 4 h_nd (fun _ => rfl) (fun _ => rfl) rfl h1 (fun _ => rfl) dX3_cell_34 ?_
      refine z_Br (fun i2 => ?_)
      refine z_gd (fun h3 => ?_)
      refine z_iload_n (pc := 35) F dX3_cell_35 rfl ?_
      refine z_ix (fun h4 => ?_)
      refine z_iald (pc := 36) F 18 i2 h3 (fun _ => rfl) h4 dX3_cell_36 ?_
      refine z_goto (pc := 37) F 41 dX3_cell_37 (by decide) ?_
      exact z_iret (pc := 41) F E dX3_cell_41
  · refine z_iload_n (pc := 4) F dX3_cell_4 rfl ?_
    refine z_iconst (pc := 5) F (v := 5) dX3_cell_5 (by decide) ?_
    refine z_icmp_ge (pc := 6) F 23 dX3_cell_6 (by decide) (fun h28 => ?_) (fun h28 => ?_)
    · refine z_iconst (pc := 23) F (v := 0) dX3_cell_23 (by decide) ?_
      refine z_istore_n (pc := 24) F (lv' := [some (.ref (zad K 15 nd)), some (.int a1), some (.int a2), some (.int (0 : Int32))]) dX3_cell_24 (zlt rfl) rfl ?_
      refine z_iload_n (pc := 25) F dX3_cell_25 rfl ?_
      refine z_if_eq (pc := 26) F 40 dX3_cell_26 (by decide) (fun h10 => ?_) (fun h10 => ?_)
      · refine z_iconst (pc := 40) F (v := 0) dX3_cell_40 (by decide) ?_
        exact z_iret (pc := 41) F E dX3_cell_41
      · refine z_aload_n (pc := 29) F dX3_cell_29 rfl ?_
        refine z_get (pc := 30) F 15 nd 0 (v := .ref (zad K 16 nd)) h_nd (fun _ => rfl) rfl (by decide) inlX3 lk_RX3_11 rfl dX3_cell_30 ?_
        refine z_iload_n (pc := 33) F dX3_cell_33 rfl ?_
        refine z_ix (fun h6 => ?_)
        refine z_aald (pc := 34) F 16 nd 18 (5 * nd + a1.toNatClampNeg) 4 h_nd (fun _ => rfl) (fun _ => rfl) rfl h6 (fun _ => rfl) dX3_cell_34 ?_
        refine z_Br (fun i7 => ?_)
        refine z_gd (fun h8 => ?_)
        refine z_iload_n (pc := 35) F dX3_cell_35 rfl ?_
        refine z_ix (fun h9 => ?_)
        refine z_iald (pc := 36) F 18 i7 h8 (fun _ => rfl) h9 dX3_cell_36 ?_
        refine z_goto (pc := 37) F 41 dX3_cell_37 (by decide) ?_
        exact z_iret (pc := 41) F E dX3_cell_41
    · refine z_iload_n (pc := 9) F dX3_cell_9 rfl ?_
      refine z_if_lt (pc := 10) F 23 dX3_cell_10 (by decide) (fun h27 => ?_) (fun h27 => ?_)
      · refine z_iconst (pc := 23) F (v := 0) dX3_cell_23 (by decide) ?_
        refine z_istore_n (pc := 24) F (lv' := [some (.ref (zad K 15 nd)), some (.int a1), some (.int a2), some (.int (0 : Int32))]) dX3_cell_24 (zlt rfl) rfl ?_
        refine z_iload_n (pc := 25) F dX3_cell_25 rfl ?_
        refine z_if_eq (pc := 26) F 40 dX3_cell_26 (by decide) (fun h15 => ?_) (fun h15 => ?_)
        · refine z_iconst (pc := 40) F (v := 0) dX3_cell_40 (by decide) ?_
          exact z_iret (pc := 41) F E dX3_cell_41
        · refine z_aload_n (pc := 29) F dX3_cell_29 rfl ?_
          refine z_get (pc := 30) F 15 nd 0 (v := .ref (zad K 16 nd)) h_nd (fun _ => rfl) rfl (by decide) inlX3 lk_RX3_11 rfl dX3_cell_30 ?_
          refine z_iload_n (pc := 33) F dX3_cell_33 rfl ?_
          refine z_ix (fun h11 => ?_)
          refine z_aald (pc := 34) F 16 nd 18 (5 * nd + a1.toNatClampNeg) 4 h_nd (fun _ => rfl) (fun _ => rfl) rfl h11 (fun _ => rfl) dX3_cell_34 ?_
          refine z_Br (fun i12 => ?_)
          refine z_gd (fun h13 => ?_)
          refine z_iload_n (pc := 35) F dX3_cell_35 rfl ?_
          refine z_ix (fun h14 => ?_)
          refine z_iald (pc := 36) F 18 i12 h13 (fun _ => rfl) h14 dX3_cell_36 ?_
          refine z_goto (pc := 37) F 41 dX3_cell_37 (by decide) ?_
          exact z_iret (pc := 41) F E dX3_cell_41
      · refine z_iload_n (pc := 13) F dX3_cell_13 rfl ?_
        refine z_bipush (pc := 14) F (v := 8) dX3_cell_14 (by decide) ?_
        refine z_icmp_ge (pc := 16) F 23 dX3_cell_16 (by decide) (fun h26 => ?_) (fun h26 => ?_)
        · refine z_iconst (pc := 23) F (v := 0) dX3_cell_23 (by decide) ?_
          refine z_istore_n (pc := 24) F (lv' := [some (.ref (zad K 15 nd)), some (.int a1), some (.int a2), some (.int (0 : Int32))]) dX3_cell_24 (zlt rfl) rfl ?_
          refine z_iload_n (pc := 25) F dX3_cell_25 rfl ?_
          refine z_if_eq (pc := 26) F 40 dX3_cell_26 (by decide) (fun h20 => ?_) (fun h20 => ?_)
          · refine z_iconst (pc := 40) F (v := 0) dX3_cell_40 (by decide) ?_
            exact z_iret (pc := 41) F E dX3_cell_41
          · refine z_aload_n (pc := 29) F dX3_cell_29 rfl ?_
            refine z_get (pc := 30) F 15 nd 0 (v := .ref (zad K 16 nd)) h_nd (fun _ => rfl) rfl (by decide) inlX3 lk_RX3_11 rfl dX3_cell_30 ?_
            refine z_iload_n (pc := 33) F dX3_cell_33 rfl ?_
            refine z_ix (fun h16 => ?_)
            refine z_aald (pc := 34) F 16 nd 18 (5 * nd + a1.toNatClampNeg) 4 h_nd (fun _ => rfl) (fun _ => rfl) rfl h16 (fun _ => rfl) dX3_cell_34 ?_
            refine z_Br (fun i17 => ?_)
            refine z_gd (fun h18 => ?_)
            refine z_iload_n (pc := 35) F dX3_cell_35 rfl ?_
            refine z_ix (fun h19 => ?_)
            refine z_iald (pc := 36) F 18 i17 h18 (fun _ => rfl) h19 dX3_cell_36 ?_
            refine z_goto (pc := 37) F 41 dX3_cell_37 (by decide) ?_
            exact z_iret (pc := 41) F E dX3_cell_41
        · refine z_iconst (pc := 19) F (v := 1) dX3_cell_19 (by decide) ?_
          refine z_goto (pc := 20) F 24 dX3_cell_20 (by decide) ?_
          refine z_istore_n (pc := 24) F (lv' := [some (.ref (zad K 15 nd)), some (.int a1), some (.int a2), some (.int (1 : Int32))]) dX3_cell_24 (zlt rfl) rfl ?_
          refine z_iload_n (pc := 25) F dX3_cell_25 rfl ?_
          refine z_if_eq (pc := 26) F 40 dX3_cell_26 (by decide) (fun h25 => ?_) (fun h25 => ?_)
          · refine z_iconst (pc := 40) F (v := 0) dX3_cell_40 (by decide) ?_
            exact z_iret (pc := 41) F E dX3_cell_41
          · refine z_aload_n (pc := 29) F dX3_cell_29 rfl ?_
            refine z_get (pc := 30) F 15 nd 0 (v := .ref (zad K 16 nd)) h_nd (fun _ => rfl) rfl (by decide) inlX3 lk_RX3_11 rfl dX3_cell_30 ?_
            refine z_iload_n (pc := 33) F dX3_cell_33 rfl ?_
            refine z_ix (fun h21 => ?_)
            refine z_aald (pc := 34) F 16 nd 18 (5 * nd + a1.toNatClampNeg) 4 h_nd (fun _ => rfl) (fun _ => rfl) rfl h21 (fun _ => rfl) dX3_cell_34 ?_
            refine z_Br (fun i22 => ?_)
            refine z_gd (fun h23 => ?_)
            refine z_iload_n (pc := 35) F dX3_cell_35 rfl ?_
            refine z_ix (fun h24 => ?_)
            refine z_iald (pc := 36) F 18 i22 h23 (fun _ => rfl) h24 dX3_cell_36 ?_
            refine z_goto (pc := 37) F 41 dX3_cell_37 (by decide) ?_
            exact z_iret (pc := 41) F E dX3_cell_41
def fX3_knows_24 (nd : Nat) (a1 : Int32) (k24_3 : zS → Option (Int32 × zS)) : Nat → Int32 → zS → Option (Int32 × zS)
  | 0, _, _ => none
  | (n24_3 + 1), v2_24_3, w24_3 => if (5 : Int32) ≤ v2_24_3 then k24_3 w24_3 else zIx a1 5 (zB (5 * nd + a1.toNatClampNeg) (fun i5 => zGd (i5 < 61) (zIx v2_24_3 8 (if (w24_3 18 i5 v2_24_3.toNatClampNeg) = 0 then zB (v2_24_3 + 1) (fun x8 => fX3_knows_24 nd a1 k24_3 n24_3 x8 w24_3) else some ((0 : Int32), w24_3)))))
def fX3_knows (nd : Nat) (a1 : Int32) (σ : zS) : Option (Int32 × zS) := if a1 < 0 then some ((0 : Int32), σ) else if (5 : Int32) ≤ a1 then some ((0 : Int32), σ) else zIx a1 5 (if (σ 17 nd a1.toNatClampNeg) = 0 then some ((0 : Int32), σ) else zB (a1 + (1 : Int32)) (fun x2 => fX3_knows_24 nd a1 (fun (y24_3 : zS) => (some ((1 : Int32), y24_3) : Option (Int32 × zS))) zN x2 σ))
abbrev rmX3_knows : Room := { frames := 0, cells := 0, slots := 0, locals := 0 }
set_option maxRecDepth 100000 in
set_option maxHeartbeats 4000000 in
theorem tX3_knows (l : Launch) (σ : zS) (nd : Nat) (a1 : Int32) (h_nd : nd < 12) : zMi l yX3_knows cX3_knows 3 (some .boolean) rmX3_knows (fun ad => [.ref (ad 15 nd), .int a1]) σ (fX3_knows nd a1 σ) := by
  refine zMi.of RX3 (by decide +kernel) rfl (fun _ => Nat.le_of_ble_eq_true rfl) (fun _ => zcat rfl) (fun K t F hR hL E => ?_)
  show ZO K t 0 [some (.ref (zad K 15 nd)), some (.int a1), none] [] σ (if a1 < 0 then some ((0 : Int32), σ) else if (5 : Int32) ≤ a1 then some ((0 : Int32), σ) else zIx a1 5 (if (σ 17 nd a1.toNatClampNeg) = 0 then some ((0 : Int32), σ) else zB (a1 + (1 : Int32)) (fun x2 => fX3_knows_24 nd a1 (fun (y24_3 : zS) => (some ((1 : Int32), y24_3) : Option (Int32 × zS))) zN x2 σ)))
  refine z_iload_n (pc := 0) F dX3_knows_0 rfl ?_
  refine z_if_lt (pc := 1) F 18 dX3_knows_1 (by decide) (fun h13 => ?_) (fun h13 => ?_)
  · refine z_iconst (pc := 18) F (v := 0) dX3_knows_18 (by decide) ?_
    exact z_zret (pc := 19) F E (by decide) dX3_knows_19
  · refine z_iload_n (pc := 4) F dX3_knows_4 rfl ?_
    refine z_iconst (pc := 5) F (v := 5) dX3_knows_5 (by decide) ?_
    refine z_icmp_ge (pc := 6) F 18 dX3_knows_6 (by decide) (fun h12 => ?_) (fun h12 => ?_)
    · refine z_iconst (pc := 18) F (v := 0) dX3_knows_18 (by decide) ?_
      exact z_zret (pc := 19) F E (by decide) dX3_knows_19
    · refine z_aload_n (pc := 9) F dX3_knows_9 rfl ?_
      refine z_get (pc := 10) F 15 nd 1 (v := .ref (zad K 17 nd)) h_nd (fun _ => rfl) rfl (by decide) inlX3 lk_RX3_16 rfl dX3_knows_10 ?_
      refine z_iload_n (pc := 13) F dX3_knows_13 rfl ?_
      refine z_ix (fun h1 => ?_)
      refine z_zald (pc := 14) F 17 nd h_nd (fun _ => rfl) h1 dX3_knows_14 ?_
      refine z_if_ne (pc := 15) F 20 dX3_knows_15 (by decide) (fun h11 => ?_) (fun h11 => ?_)
      · refine z_iload_n (pc := 20) F dX3_knows_20 rfl ?_
        refine z_iconst (pc := 21) F (v := 1) dX3_knows_21 (by decide) ?_
        refine z_iadd (pc := 22) F dX3_knows_22 ?_
        refine z_Bi (fun x2 => ?_)
        refine z_istore_n (pc := 23) F (lv' := [some (.ref (zad K 15 nd)), some (.int a1), some (.int x2)]) dX3_knows_23 (zlt rfl) rfl ?_
        have hk24_3 : ∀ (y24_3 : zS), ZO K t 48 [none, none, none] [] y24_3 ((fun (y24_3 : zS) => (some ((1 : Int32), y24_3) : Option (Int32 × zS))) y24_3) := by
          intro y24_3
          show ZO K t 48 [none, none, none] [] y24_3 (some ((1 : Int32), y24_3))
          refine z_iconst (pc := 48) F (v := 1) dX3_knows_48 (by decide) ?_
          exact z_zret (pc := 49) F E (by decide) dX3_knows_49
        have L24_3 : ∀ (n24_3 : Nat) (v2_24_3 : Int32) (w24_3 : zS), ZO K t 24 [some (.ref (zad K 15 nd)), some (.int a1), some (.int v2_24_3)] [] w24_3 (fX3_knows_24 nd a1 (fun (y24_3 : zS) => (some ((1 : Int32), y24_3) : Option (Int32 × zS))) n24_3 v2_24_3 w24_3) := by
          revert hk24_3; generalize (fun (y24_3 : zS) => (some ((1 : Int32), y24_3) : Option (Int32 × zS))) = k24_3; intro hk24_3
          intro n24_3
          induction n24_3 with
          | zero => intro v2_24_3 w24_3; exact z_none
          | succ n24_3 ih24_3 =>
            intro v2_24_3 w24_3
            show ZO K t 24 [some (.ref (zad K 15 nd)), some (.int a1), some (.int v2_24_3)] [] w24_3 (if (5 : Int32) ≤ v2_24_3 then k24_3 w24_3 else zIx a1 5 (zB (5 * nd + a1.toNatClampNeg) (fun i5 => zGd (i5 < 61) (zIx v2_24_3 8 (if (w24_3 18 i5 v2_24_3.toNatClampNeg) = 0 then zB (v2_24_3 + 1) (fun x8 => fX3_knows_24 nd a1 k24_3 n24_3 x8 w24_3) else some ((0 : Int32), w24_3))))))
            refine z_iload_n (pc := 24) F dX3_knows_24 rfl ?_
            refine z_iconst (pc := 25) F (v := 5) dX3_knows_25 (by decide) ?_
            refine z_icmp_ge (pc := 26) F 48 dX3_knows_26 (by decide) (fun h10 => ?_) (fun h10 => ?_)
            · refine z_wk [false, false, false] (lv' := [none, none, none]) rfl ?_
              exact hk24_3  w24_3
            · refine z_aload_n (pc := 29) F dX3_knows_29 rfl ?_
              refine z_get (pc := 30) F 15 nd 0 (v := .ref (zad K 16 nd)) h_nd (fun _ => rfl) rfl (by decide) inlX3 lk_RX3_11 rfl dX3_knows_30 ?_
              refine z_iload_n (pc := 33) F dX3_knows_33 rfl ?_
              refine z_ix (fun h4 => ?_)
              refine z_aald (pc := 34) F 16 nd 18 (5 * nd + a1.toNatClampNeg) 4 h_nd (fun _ => rfl) (fun _ => rfl) rfl h4 (fun _ => rfl) dX3_knows_34 ?_
              refine z_Br (fun i5 => ?_)
              refine z_gd (fun h6 => ?_)
              refine z_iload_n (pc := 35) F dX3_knows_35 rfl ?_
              refine z_ix (fun h7 => ?_)
              refine z_iald (pc := 36) F 18 i5 h6 (fun _ => rfl) h7 dX3_knows_36 ?_
              refine z_if_eq (pc := 37) F 42 dX3_knows_37 (by decide) (fun h9 => ?_) (fun h9 => ?_)
              · refine z_iincB (pc := 42) F (lv' := fun x8 => [some (.ref (zad K 15 nd)), some (.int a1), some (.int x8)]) dX3_knows_42 rfl rfl (fun _ => rfl) (fun x8 => ?_)
                refine z_goto (pc := 45) F 24 dX3_knows_45 (by decide) ?_
                exact ih24_3 x8 w24_3
              · refine z_iconst (pc := 40) F (v := 0) dX3_knows_40 (by decide) ?_
                exact z_zret (pc := 41) F E (by decide) dX3_knows_41
        exact L24_3 zN x2 σ
      · refine z_iconst (pc := 18) F (v := 0) dX3_knows_18 (by decide) ?_
        exact z_zret (pc := 19) F E (by decide) dX3_knows_19
def fX3_placeOf_4 (nd : Nat) (a1 : Int32) (k4_1 : zS → Option (Int32 × zS)) : Nat → Int32 → Int32 → zS → Option (Int32 × zS)
  | 0, _, _, _ => none
  | (n4_1 + 1), v2_4_1, v3_4_1, w4_1 => if (5 : Int32) ≤ v3_4_1 then k4_1 w4_1 else zIx v3_4_1 5 (if (w4_1 17 nd v3_4_1.toNatClampNeg) = 0 then zB (v3_4_1 + 1) (fun x3 => fX3_placeOf_4 nd a1 k4_1 n4_1 v2_4_1 x3 w4_1) else if v2_4_1 = a1 then some (v3_4_1, w4_1) else zB (v2_4_1 + 1) (fun x4 => zB (v3_4_1 + 1) (fun x5 => fX3_placeOf_4 nd a1 k4_1 n4_1 x4 x5 w4_1)))
def fX3_placeOf (nd : Nat) (a1 : Int32) (σ : zS) : Option (Int32 × zS) := fX3_placeOf_4 nd a1 (fun (y4_1 : zS) => (some ((-1 : Int32), y4_1) : Option (Int32 × zS))) zN (0 : Int32) (0 : Int32) σ
abbrev rmX3_placeOf : Room := { frames := 0, cells := 0, slots := 0, locals := 0 }
set_option maxRecDepth 100000 in
set_option maxHeartbeats 4000000 in
theorem tX3_placeOf (l : Launch) (σ : zS) (nd : Nat) (a1 : Int32) (h_nd : nd < 12) : zMi l yX3_placeOf cX3_placeOf 4 (some .int) rmX3_placeOf (fun ad => [.ref (ad 15 nd), .int a1]) σ (fX3_placeOf nd a1 σ) := by
  refine zMi.of RX3 (by decide +kernel) rfl (fun _ => Nat.le_of_ble_eq_true rfl) (fun _ => zcat rfl) (fun K t F hR hL E => ?_)
  show ZO K t 0 [some (.ref (zad K 15 nd)), some (.int a1), none, none] [] σ (fX3_placeOf_4 nd a1 (fun (y4_1 : zS) => (some ((-1 : Int32), y4_1) : Option (Int32 × zS))) zN (0 : Int32) (0 : Int32) σ)
  refine z_iconst (pc := 0) F (v := 0) dX3_placeOf_0 (by decide) ?_
  refine z_istore_n (pc := 1) F (lv' := [some (.ref (zad K 15 nd)), some (.int a1), some (.int (0 : Int32)), none]) dX3_placeOf_1 (zlt rfl) rfl ?_
  refine z_iconst (pc := 2) F (v := 0) dX3_placeOf_2 (by decide) ?_
  refine z_istore_n (pc := 3) F (lv' := [some (.ref (zad K 15 nd)), some (.int a1), some (.int (0 : Int32)), some (.int (0 : Int32))]) dX3_placeOf_3 (zlt rfl) rfl ?_
  have hk4_1 : ∀ (y4_1 : zS), ZO K t 34 [none, none, none, none] [] y4_1 ((fun (y4_1 : zS) => (some ((-1 : Int32), y4_1) : Option (Int32 × zS))) y4_1) := by
    intro y4_1
    show ZO K t 34 [none, none, none, none] [] y4_1 (some ((-1 : Int32), y4_1))
    refine z_iconst (pc := 34) F (v := -1) dX3_placeOf_34 (by decide) ?_
    exact z_iret (pc := 35) F E dX3_placeOf_35
  have L4_1 : ∀ (n4_1 : Nat) (v2_4_1 : Int32) (v3_4_1 : Int32) (w4_1 : zS), ZO K t 4 [some (.ref (zad K 15 nd)), some (.int a1), some (.int v2_4_1), some (.int v3_4_1)] [] w4_1 (fX3_placeOf_4 nd a1 (fun (y4_1 : zS) => (some ((-1 : Int32), y4_1) : Option (Int32 × zS))) n4_1 v2_4_1 v3_4_1 w4_1) := by
    revert hk4_1; generalize (fun (y4_1 : zS) => (some ((-1 : Int32), y4_1) : Option (Int32 × zS))) = k4_1; intro hk4_1
    intro n4_1
    induction n4_1 with
    | zero => intro v2_4_1 v3_4_1 w4_1; exact z_none
    | succ n4_1 ih4_1 =>
      intro v2_4_1 v3_4_1 w4_1
      show ZO K t 4 [some (.ref (zad K 15 nd)), some (.int a1), some (.int v2_4_1), some (.int v3_4_1)] [] w4_1 (if (5 : Int32) ≤ v3_4_1 then k4_1 w4_1 else zIx v3_4_1 5 (if (w4_1 17 nd v3_4_1.toNatClampNeg) = 0 then zB (v3_4_1 + 1) (fun x3 => fX3_placeOf_4 nd a1 k4_1 n4_1 v2_4_1 x3 w4_1) else if v2_4_1 = a1 then some (v3_4_1, w4_1) else zB (v2_4_1 + 1) (fun x4 => zB (v3_4_1 + 1) (fun x5 => fX3_placeOf_4 nd a1 k4_1 n4_1 x4 x5 w4_1))))
      refine z_iload_n (pc := 4) F dX3_placeOf_4 rfl ?_
      refine z_iconst (pc := 5) F (v := 5) dX3_placeOf_5 (by decide) ?_
      refine z_icmp_ge (pc := 6) F 34 dX3_placeOf_6 (by decide) (fun h8 => ?_) (fun h8 => ?_)
      · refine z_wk [false, false, false, false] (lv' := [none, none, none, none]) rfl ?_
        exact hk4_1  w4_1
      · refine z_aload_n (pc := 9) F dX3_placeOf_9 rfl ?_
        refine z_get (pc := 10) F 15 nd 1 (v := .ref (zad K 17 nd)) h_nd (fun _ => rfl) rfl (by decide) inlX3 lk_RX3_16 rfl dX3_placeOf_10 ?_
        refine z_iload_n (pc := 13) F dX3_placeOf_13 rfl ?_
        refine z_ix (fun h2 => ?_)
        refine z_zald (pc := 14) F 17 nd h_nd (fun _ => rfl) h2 dX3_placeOf_14 ?_
        refine z_if_eq (pc := 15) F 28 dX3_placeOf_15 (by decide) (fun h7 => ?_) (fun h7 => ?_)
        · refine z_iincB (pc := 28) F (lv' := fun x3 => [some (.ref (zad K 15 nd)), some (.int a1), some (.int v2_4_1), some (.int x3)]) dX3_placeOf_28 rfl rfl (fun _ => rfl) (fun x3 => ?_)
          refine z_goto (pc := 31) F 4 dX3_placeOf_31 (by decide) ?_
          exact ih4_1 v2_4_1 x3 w4_1
        · refine z_iload_n (pc := 18) F dX3_placeOf_18 rfl ?_
          refine z_iload_n (pc := 19) F dX3_placeOf_19 rfl ?_
          refine z_icmp_ne (pc := 20) F 25 dX3_placeOf_20 (by decide) (fun h6 => ?_) (fun h6 => ?_)
          · refine z_iincB (pc := 25) F (lv' := fun x4 => [some (.ref (zad K 15 nd)), some (.int a1), some (.int x4), some (.int v3_4_1)]) dX3_placeOf_25 rfl rfl (fun _ => rfl) (fun x4 => ?_)
            refine z_iincB (pc := 28) F (lv' := fun x5 => [some (.ref (zad K 15 nd)), some (.int a1), some (.int x4), some (.int x5)]) dX3_placeOf_28 rfl rfl (fun _ => rfl) (fun x5 => ?_)
            refine z_goto (pc := 31) F 4 dX3_placeOf_31 (by decide) ?_
            exact ih4_1 x4 x5 w4_1
          · refine z_iload_n (pc := 23) F dX3_placeOf_23 rfl ?_
            exact z_iret (pc := 24) F E dX3_placeOf_24
  exact L4_1 zN (0 : Int32) (0 : Int32) σ
def fX4_answer (a1 : Int32) (σ : zS) : Option (Int32 × zS) := if 0 ≤ a1 then if (σ 19 0 1) ≤ a1 then some ((-9 : Int32), σ) else zIx a1 60 (some (σ 20 0 a1.toNatClampNeg, σ)) else some (σ 19 0 1, σ)
abbrev rmX4_answer : Room := { frames := 0, cells := 0, slots := 0, locals := 0 }
set_option maxRecDepth 100000 in
set_option maxHeartbeats 4000000 in
theorem tX4_answer (l : Launch) (σ : zS) (a1 : Int32) : zMi l yX4_answer cX4_answer 2 (some .int) rmX4_answer (fun ad => [.ref (ad 19 0), .int a1]) σ (fX4_answer a1 σ) := by
  refine zMi.of RX4 (by decide +kernel) rfl (fun _ => Nat.le_of_ble_eq_true rfl) (fun _ => zcat rfl) (fun K t F hR hL E => ?_)
  show ZO K t 0 [some (.ref (zad K 19 0)), some (.int a1)] [] σ (if 0 ≤ a1 then if (σ 19 0 1) ≤ a1 then some ((-9 : Int32), σ) else zIx a1 60 (some (σ 20 0 a1.toNatClampNeg, σ)) else some (σ 19 0 1, σ))
  refine z_iload_n (pc := 0) F dX4_answer_0 rfl ?_
  refine z_if_ge (pc := 1) F 9 dX4_answer_1 (by decide) (fun h3 => ?_) (fun h3 => ?_)
  · refine z_iload_n (pc := 9) F dX4_answer_9 rfl ?_
    refine z_aload_n (pc := 10) F dX4_answer_10 rfl ?_
    refine z_get (pc := 11) F 19 0 1 (v := .int (σ 19 0 1)) (by decide) (fun _ => rfl) rfl (by decide) inlX4 lk_RX4_15 rfl dX4_answer_11 ?_
    refine z_icmp_ge (pc := 14) F 26 dX4_answer_14 (by decide) (fun h2 => ?_) (fun h2 => ?_)
    · refine z_bipush (pc := 26) F (v := -9) dX4_answer_26 (by decide) ?_
      exact z_iret (pc := 28) F E dX4_answer_28
    · refine z_aload_n (pc := 17) F dX4_answer_17 rfl ?_
      refine z_get (pc := 18) F 19 0 0 (v := .ref (zad K 20 0)) (by decide) (fun _ => rfl) rfl (by decide) inlX4 lk_RX4_9 rfl dX4_answer_18 ?_
      refine z_iload_n (pc := 21) F dX4_answer_21 rfl ?_
      refine z_ix (fun h1 => ?_)
      refine z_iald (pc := 22) F 20 0 (by decide) (fun _ => rfl) h1 dX4_answer_22 ?_
      refine z_goto (pc := 23) F 28 dX4_answer_23 (by decide) ?_
      exact z_iret (pc := 28) F E dX4_answer_28
  · refine z_aload_n (pc := 4) F dX4_answer_4 rfl ?_
    refine z_get (pc := 5) F 19 0 1 (v := .int (σ 19 0 1)) (by decide) (fun _ => rfl) rfl (by decide) inlX4 lk_RX4_15 rfl dX4_answer_5 ?_
    exact z_iret (pc := 8) F E dX4_answer_8
def fX4_put (a1 : Int32) (σ : zS) : Option (Int32 × zS) := if (60 : Int32) ≤ (σ 19 0 1) then some ((0 : Int32), σ) else zIx (σ 19 0 1) 60 (zB (zU σ 20 0 (σ 19 0 1).toNatClampNeg a1) (fun s2 => zB (zU s2 19 0 1 ((s2 19 0 1) + (1 : Int32))) (fun s3 => some ((0 : Int32), s3))))
abbrev rmX4_put : Room := { frames := 0, cells := 0, slots := 0, locals := 0 }
set_option maxRecDepth 100000 in
set_option maxHeartbeats 4000000 in
theorem tX4_put (l : Launch) (σ : zS) (a1 : Int32) : zMv l yX4_put cX4_put 2 none rmX4_put (fun ad => [.ref (ad 19 0), .int a1]) σ (fX4_put a1 σ) := by
  refine zMv.of RX4 (by decide +kernel) rfl (fun _ => Nat.le_of_ble_eq_true rfl) (fun _ => zcat rfl) (fun K t F hR hL E => ?_)
  show ZO K t 0 [some (.ref (zad K 19 0)), some (.int a1)] [] σ (if (60 : Int32) ≤ (σ 19 0 1) then some ((0 : Int32), σ) else zIx (σ 19 0 1) 60 (zB (zU σ 20 0 (σ 19 0 1).toNatClampNeg a1) (fun s2 => zB (zU s2 19 0 1 ((s2 19 0 1) + (1 : Int32))) (fun s3 => some ((0 : Int32), s3)))))
  refine z_aload_n (pc := 0) F dX4_put_0 rfl ?_
  refine z_get (pc := 1) F 19 0 1 (v := .int (σ 19 0 1)) (by decide) (fun _ => rfl) rfl (by decide) inlX4 lk_RX4_15 rfl dX4_put_1 ?_
  refine z_bipush (pc := 4) F (v := 60) dX4_put_4 (by decide) ?_
  refine z_icmp_ge (pc := 6) F 29 dX4_put_6 (by decide) (fun h4 => ?_) (fun h4 => ?_)
  · exact z_vret (pc := 29) (x := 0) F E dX4_put_29
  · refine z_aload_n (pc := 9) F dX4_put_9 rfl ?_
    refine z_get (pc := 10) F 19 0 0 (v := .ref (zad K 20 0)) (by decide) (fun _ => rfl) rfl (by decide) inlX4 lk_RX4_9 rfl dX4_put_10 ?_
    refine z_aload_n (pc := 13) F dX4_put_13 rfl ?_
    refine z_get (pc := 14) F 19 0 1 (v := .int (σ 19 0 1)) (by decide) (fun _ => rfl) rfl (by decide) inlX4 lk_RX4_15 rfl dX4_put_14 ?_
    refine z_iload_n (pc := 17) F dX4_put_17 rfl ?_
    refine z_ix (fun h1 => ?_)
    refine z_iast (pc := 18) F 20 0 (by decide) (fun _ _ => rfl) h1 dX4_put_18 (fun s2 => ?_)
    refine z_aload_n (pc := 19) F dX4_put_19 rfl ?_
    refine z_dup (pc := 20) F dX4_put_20 rfl ?_
    refine z_get (pc := 21) F 19 0 1 (v := .int (s2 19 0 1)) (by decide) (fun _ => rfl) rfl (by decide) inlX4 lk_RX4_15 rfl dX4_put_21 ?_
    refine z_iconst (pc := 24) F (v := 1) dX4_put_24 (by decide) ?_
    refine z_iadd (pc := 25) F dX4_put_25 ?_
    refine z_put (pc := 26) F 19 0 1 tyX4 tyX4_ok nmX4 (by decide) (fun _ => rfl) rfl (by decide) inlX4 lk_RX4_15 rfl (by decide +kernel) (fun _ => Nat.le_of_ble_eq_true rfl) (fun _ => rfl) dX4_put_26 (fun s3 => ?_)
    exact z_vret (pc := 29) (x := 0) F E dX4_put_29
def fX4_putFigure (a1 : Int32) (σ : zS) : Option (Int32 × zS) := zCv (fX4_put ((48 : Int32) + a1) σ) (fun s1 => some ((0 : Int32), s1))
abbrev rmX4_putFigure : Room := { frames := 1, cells := 0, slots := 0, locals := 21 }
set_option maxRecDepth 100000 in
set_option maxHeartbeats 4000000 in
theorem tX4_putFigure (l : Launch) (σ : zS) (a1 : Int32) : zMv l yX4_putFigure cX4_putFigure 2 none rmX4_putFigure (fun ad => [.ref (ad 19 0), .int a1]) σ (fX4_putFigure a1 σ) := by
  refine zMv.of RX4 (by decide +kernel) rfl (fun _ => Nat.le_of_ble_eq_true rfl) (fun _ => zcat rfl) (fun K t F hR hL E => ?_)
  show ZO K t 0 [some (.ref (zad K 19 0)), some (.int a1)] [] σ (zCv (fX4_put ((48 : Int32) + a1) σ) (fun s1 => some ((0 : Int32), s1)))
  refine z_aload_n (pc := 0) F dX4_putFigure_0 rfl ?_
  refine z_bipush (pc := 1) F (v := 48) dX4_putFigure_1 (by decide) ?_
  refine z_iload_n (pc := 3) F dX4_putFigure_3 rfl ?_
  refine z_iadd (pc := 4) F dX4_putFigure_4 ?_
  refine z_callVv (pc := 5) (st := []) F 19 0 [.int ((48 : Int32) + a1)] cl_RX4_19 (tX4_put (zln K) σ ((48 : Int32) + a1)) rfl (by decide) (fun _ => ⟨_, rfl⟩) rfl (by rw [hR]; exact ⟨rfl, rfl, Nat.le_of_ble_eq_true rfl, Nat.le_of_ble_eq_true rfl⟩) rfl rfl (Nat.le_of_ble_eq_true rfl) dX4_putFigure_5 (fun s1 => ?_)
  exact z_vret (pc := 8) (x := 0) F E dX4_putFigure_8
def fX4_putBody (a1 : Int32) (σ : zS) : Option (Int32 × zS) := if a1 < (100 : Int32) then if a1 < (10 : Int32) then zGd (¬ (10 : Int32) = 0) (zCv (fX4_putFigure (a1 - a1 / (10 : Int32) * (10 : Int32)) σ) (fun s2 => some ((0 : Int32), s2))) else zGd (¬ (10 : Int32) = 0) (zGd (¬ (10 : Int32) = 0) (zCv (fX4_putFigure ((a1 / (10 : Int32)) - (a1 / (10 : Int32)) / (10 : Int32) * (10 : Int32)) σ) (fun s5 => zGd (¬ (10 : Int32) = 0) (zCv (fX4_putFigure (a1 - a1 / (10 : Int32) * (10 : Int32)) s5) (fun s7 => some ((0 : Int32), s7)))))) else zGd (¬ (100 : Int32) = 0) (zCv (fX4_putFigure (a1 / (100 : Int32)) σ) (fun s10 => if a1 < (10 : Int32) then zGd (¬ (10 : Int32) = 0) (zCv (fX4_putFigure (a1 - a1 / (10 : Int32) * (10 : Int32)) s10) (fun s12 => some ((0 : Int32), s12))) else zGd (¬ (10 : Int32) = 0) (zGd (¬ (10 : Int32) = 0) (zCv (fX4_putFigure ((a1 / (10 : Int32)) - (a1 / (10 : Int32)) / (10 : Int32) * (10 : Int32)) s10) (fun s15 => zGd (¬ (10 : Int32) = 0) (zCv (fX4_putFigure (a1 - a1 / (10 : Int32) * (10 : Int32)) s15) (fun s17 => some ((0 : Int32), s17))))))))
abbrev rmX4_putBody : Room := { frames := 2, cells := 0, slots := 0, locals := 42 }
set_option maxRecDepth 100000 in
set_option maxHeartbeats 4000000 in
theorem tX4_putBody (l : Launch) (σ : zS) (a1 : Int32) : zMv l yX4_putBody cX4_putBody 2 none rmX4_putBody (fun ad => [.ref (ad 19 0), .int a1]) σ (fX4_putBody a1 σ) := by
  refine zMv.of RX4 (by decide +kernel) rfl (fun _ => Nat.le_of_ble_eq_true rfl) (fun _ => zcat rfl) (fun K t F hR hL E => ?_)
  show ZO K t 0 [some (.ref (zad K 19 0)), some (.int a1)] [] σ (if a1 < (100 : Int32) then if a1 < (10 : Int32) then zGd (¬ (10 : Int32) = 0) (zCv (fX4_putFigure (a1 - a1 / (10 : Int32) * (10 : Int32)) σ) (fun s2 => some ((0 : Int32), s2))) else zGd (¬ (10 : Int32) = 0) (zGd (¬ (10 : Int32) = 0) (zCv (fX4_putFigure ((a1 / (10 : Int32)) - (a1 / (10 : Int32)) / (10 : Int32) * (10 : Int32)) σ) (fun s5 => zGd (¬ (10 : Int32) = 0) (zCv (fX4_putFigure (a1 - a1 / (10 : Int32) * (10 : Int32)) s5) (fun s7 => some ((0 : Int32), s7)))))) else zGd (¬ (100 : Int32) = 0) (zCv (fX4_putFigure (a1 / (100 : Int32)) σ) (fun s10 => if a1 < (10 : Int32) then zGd (¬ (10 : Int32) = 0) (zCv (fX4_putFigure (a1 - a1 / (10 : Int32) * (10 : Int32)) s10) (fun s12 => some ((0 : Int32), s12))) else zGd (¬ (10 : Int32) = 0) (zGd (¬ (10 : Int32) = 0) (zCv (fX4_putFigure ((a1 / (10 : Int32)) - (a1 / (10 : Int32)) / (10 : Int32) * (10 : Int32)) s10) (fun s15 => zGd (¬ (10 : Int32) = 0) (zCv (fX4_putFigure (a1 - a1 / (10 : Int32) * (10 : Int32)) s15) (fun s17 => some ((0 : Int32), s17)))))))))
  refine z_iload_n (pc := 0) F dX4_putBody_0 rfl ?_
  refine z_bipush (pc := 1) F (v := 100) dX4_putBody_1 (by decide) ?_
  refine z_icmp_lt (pc := 3) F 14 dX4_putBody_3 (by decide) (fun h19 => ?_) (fun h19 => ?_)
  · refine z_iload_n (pc := 14) F dX4_putBody_14 rfl ?_
    refine z_bipush (pc := 15) F (v := 10) dX4_putBody_15 (by decide) ?_
    refine z_icmp_lt (pc := 17) F 31 dX4_putBody_17 (by decide) (fun h8 => ?_) (fun h8 => ?_)
    · refine z_aload_n (pc := 31) F dX4_putBody_31 rfl ?_
      refine z_iload_n (pc := 32) F dX4_putBody_32 rfl ?_
      refine z_bipush (pc := 33) F (v := 10) dX4_putBody_33 (by decide) ?_
      refine z_gd (fun h1 => ?_)
      refine z_irem (pc := 35) F h1 dX4_putBody_35 ?_
      refine z_callVv (pc := 36) (st := []) F 19 0 [.int (a1 - a1 / (10 : Int32) * (10 : Int32))] cl_RX4_23 (tX4_putFigure (zln K) σ (a1 - a1 / (10 : Int32) * (10 : Int32))) rfl (by decide) (fun _ => ⟨_, rfl⟩) rfl (by rw [hR]; exact ⟨rfl, rfl, Nat.le_of_ble_eq_true rfl, Nat.le_of_ble_eq_true rfl⟩) rfl rfl (Nat.le_of_ble_eq_true rfl) dX4_putBody_36 (fun s2 => ?_)
      exact z_vret (pc := 39) (x := 0) F E dX4_putBody_39
    · refine z_aload_n (pc := 20) F dX4_putBody_20 rfl ?_
      refine z_iload_n (pc := 21) F dX4_putBody_21 rfl ?_
      refine z_bipush (pc := 22) F (v := 10) dX4_putBody_22 (by decide) ?_
      refine z_gd (fun h3 => ?_)
      refine z_idiv (pc := 24) F h3 dX4_putBody_24 ?_
      refine z_bipush (pc := 25) F (v := 10) dX4_putBody_25 (by decide) ?_
      refine z_gd (fun h4 => ?_)
      refine z_irem (pc := 27) F h4 dX4_putBody_27 ?_
      refine z_callVv (pc := 28) (st := []) F 19 0 [.int ((a1 / (10 : Int32)) - (a1 / (10 : Int32)) / (10 : Int32) * (10 : Int32))] cl_RX4_23 (tX4_putFigure (zln K) σ ((a1 / (10 : Int32)) - (a1 / (10 : Int32)) / (10 : Int32) * (10 : Int32))) rfl (by decide) (fun _ => ⟨_, rfl⟩) rfl (by rw [hR]; exact ⟨rfl, rfl, Nat.le_of_ble_eq_true rfl, Nat.le_of_ble_eq_true rfl⟩) rfl rfl (Nat.le_of_ble_eq_true rfl) dX4_putBody_28 (fun s5 => ?_)
      refine z_aload_n (pc := 31) F dX4_putBody_31 rfl ?_
      refine z_iload_n (pc := 32) F dX4_putBody_32 rfl ?_
      refine z_bipush (pc := 33) F (v := 10) dX4_putBody_33 (by decide) ?_
      refine z_gd (fun h6 => ?_)
      refine z_irem (pc := 35) F h6 dX4_putBody_35 ?_
      refine z_callVv (pc := 36) (st := []) F 19 0 [.int (a1 - a1 / (10 : Int32) * (10 : Int32))] cl_RX4_23 (tX4_putFigure (zln K) s5 (a1 - a1 / (10 : Int32) * (10 : Int32))) rfl (by decide) (fun _ => ⟨_, rfl⟩) rfl (by rw [hR]; exact ⟨rfl, rfl, Nat.le_of_ble_eq_true rfl, Nat.le_of_ble_eq_true rfl⟩) rfl rfl (Nat.le_of_ble_eq_true rfl) dX4_putBody_36 (fun s7 => ?_)
      exact z_vret (pc := 39) (x := 0) F E dX4_putBody_39
  · refine z_aload_n (pc := 6) F dX4_putBody_6 rfl ?_
    refine z_iload_n (pc := 7) F dX4_putBody_7 rfl ?_
    refine z_bipush (pc := 8) F (v := 100) dX4_putBody_8 (by decide) ?_
    refine z_gd (fun h9 => ?_)
    refine z_idiv (pc := 10) F h9 dX4_putBody_10 ?_
    refine z_callVv (pc := 11) (st := []) F 19 0 [.int (a1 / (100 : Int32))] cl_RX4_23 (tX4_putFigure (zln K) σ (a1 / (100 : Int32))) rfl (by decide) (fun _ => ⟨_, rfl⟩) rfl (by rw [hR]; exact ⟨rfl, rfl, Nat.le_of_ble_eq_true rfl, Nat.le_of_ble_eq_true rfl⟩) rfl rfl (Nat.le_of_ble_eq_true rfl) dX4_putBody_11 (fun s10 => ?_)
    refine z_iload_n (pc := 14) F dX4_putBody_14 rfl ?_
    refine z_bipush (pc := 15) F (v := 10) dX4_putBody_15 (by decide) ?_
    refine z_icmp_lt (pc := 17) F 31 dX4_putBody_17 (by decide) (fun h18 => ?_) (fun h18 => ?_)
    · refine z_aload_n (pc := 31) F dX4_putBody_31 rfl ?_
      refine z_iload_n (pc := 32) F dX4_putBody_32 rfl ?_
      refine z_bipush (pc := 33) F (v := 10) dX4_putBody_33 (by decide) ?_
      refine z_gd (fun h11 => ?_)
      refine z_irem (pc := 35) F h11 dX4_putBody_35 ?_
      refine z_callVv (pc := 36) (st := []) F 19 0 [.int (a1 - a1 / (10 : Int32) * (10 : Int32))] cl_RX4_23 (tX4_putFigure (zln K) s10 (a1 - a1 / (10 : Int32) * (10 : Int32))) rfl (by decide) (fun _ => ⟨_, rfl⟩) rfl (by rw [hR]; exact ⟨rfl, rfl, Nat.le_of_ble_eq_true rfl, Nat.le_of_ble_eq_true rfl⟩) rfl rfl (Nat.le_of_ble_eq_true rfl) dX4_putBody_36 (fun s12 => ?_)
      exact z_vret (pc := 39) (x := 0) F E dX4_putBody_39
    · refine z_aload_n (pc := 20) F dX4_putBody_20 rfl ?_
      refine z_iload_n (pc := 21) F dX4_putBody_21 rfl ?_
      refine z_bipush (pc := 22) F (v := 10) dX4_putBody_22 (by decide) ?_
      refine z_gd (fun h13 => ?_)
      refine z_idiv (pc := 24) F h13 dX4_putBody_24 ?_
      refine z_bipush (pc := 25) F (v := 10) dX4_putBody_25 (by decide) ?_
      refine z_gd (fun h14 => ?_)
      refine z_irem (pc := 27) F h14 dX4_putBody_27 ?_
      refine z_callVv (pc := 28) (st := []) F 19 0 [.int ((a1 / (10 : Int32)) - (a1 / (10 : Int32)) / (10 : Int32) * (10 : Int32))] cl_RX4_23 (tX4_putFigure (zln K) s10 ((a1 / (10 : Int32)) - (a1 / (10 : Int32)) / (10 : Int32) * (10 : Int32))) rfl (by decide) (fun _ => ⟨_, rfl⟩) rfl (by rw [hR]; exact ⟨rfl, rfl, Nat.le_of_ble_eq_true rfl, Nat.le_of_ble_eq_true rfl⟩) rfl rfl (Nat.le_of_ble_eq_true rfl) dX4_putBody_28 (fun s15 => ?_)
      refine z_aload_n (pc := 31) F dX4_putBody_31 rfl ?_
      refine z_iload_n (pc := 32) F dX4_putBody_32 rfl ?_
      refine z_bipush (pc := 33) F (v := 10) dX4_putBody_33 (by decide) ?_
      refine z_gd (fun h16 => ?_)
      refine z_irem (pc := 35) F h16 dX4_putBody_35 ?_
      refine z_callVv (pc := 36) (st := []) F 19 0 [.int (a1 - a1 / (10 : Int32) * (10 : Int32))] cl_RX4_23 (tX4_putFigure (zln K) s15 (a1 - a1 / (10 : Int32) * (10 : Int32))) rfl (by decide) (fun _ => ⟨_, rfl⟩) rfl (by rw [hR]; exact ⟨rfl, rfl, Nat.le_of_ble_eq_true rfl, Nat.le_of_ble_eq_true rfl⟩) rfl rfl (Nat.le_of_ble_eq_true rfl) dX4_putBody_36 (fun s17 => ?_)
      exact z_vret (pc := 39) (x := 0) F E dX4_putBody_39
