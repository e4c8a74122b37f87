def fX9_within (a1 : Int32) (a2 : Int32) (a3 : Int32) (σ : zS) : Option (Int32 × zS) := if a1 < a2 then some ((0 : Int32), σ) else if a3 < a1 then some ((0 : Int32), σ) else some ((1 : Int32), σ)
abbrev rmX9_within : Room := { frames := 0, cells := 0, slots := 0, locals := 0 }
set_option maxRecDepth 100000 in
set_option maxHeartbeats 4000000 in
theorem tX9_within (l : Launch) (σ : zS) (a1 : Int32) (a2 : Int32) (a3 : Int32) : zMi l yX9_within cX9_within 3 (some .boolean) rmX9_within (fun _ => [.int a1, .int a2, .int a3]) σ (fX9_within a1 a2 a3 σ) := by
  refine zMi.of RX9 (by decide +kernel) rfl (fun _ => Nat.le_of_ble_eq_true rfl) (fun _ => zcat rfl) (fun K t F hR hL E => ?_)
  show ZO K t 0 [some (.int a1), some (.int a2), some (.int a3)] [] σ (if a1 < a2 then some ((0 : Int32), σ) else if a3 < a1 then some ((0 : Int32), σ) else some ((1 : Int32), σ))
  refine z_iload_n (pc := 0) F dX9_within_0 rfl ?_
  refine z_iload_n (pc := 1) F dX9_within_1 rfl ?_
  refine z_icmp_lt (pc := 2) F 14 dX9_within_2 (by decide) (fun h2 => ?_) (fun h2 => ?_)
  · refine z_iconst (pc := 14) F (v := 0) dX9_within_14 (by decide) ?_
    exact z_zret (pc := 15) F E (by decide) dX9_within_15
  · refine z_iload_n (pc := 5) F dX9_within_5 rfl ?_
    refine z_iload_n (pc := 6) F dX9_within_6 rfl ?_
    refine z_icmp_gt (pc := 7) F 14 dX9_within_7 (by decide) (fun h1 => ?_) (fun h1 => ?_)
    · refine z_iconst (pc := 14) F (v := 0) dX9_within_14 (by decide) ?_
      exact z_zret (pc := 15) F E (by decide) dX9_within_15
    · refine z_iconst (pc := 10) F (v := 1) dX9_within_10 (by decide) ?_
      refine z_goto (pc := 11) F 15 dX9_within_11 (by decide) ?_
      exact z_zret (pc := 15) F E (by decide) dX9_within_15
def fX9_isNode (a1 : Int32) (σ : zS) : Option (Int32 × zS) := zCi (fX9_within a1 (0 : Int32) (3 : Int32) σ) (fun x2 s1 => zGd (x2 = 0 ∨ x2 = 1) (some (x2, s1)))
abbrev rmX9_isNode : Room := { frames := 1, cells := 0, slots := 0, locals := 22 }
set_option maxRecDepth 100000 in
set_option maxHeartbeats 4000000 in
theorem tX9_isNode (l : Launch) (σ : zS) (a1 : Int32) : zMi l yX9_isNode cX9_isNode 1 (some .boolean) rmX9_isNode (fun _ => [.int a1]) σ (fX9_isNode a1 σ) := by
  refine zMi.of RX9 (by decide +kernel) rfl (fun _ => Nat.le_of_ble_eq_true rfl) (fun _ => zcat rfl) (fun K t F hR hL E => ?_)
  show ZO K t 0 [some (.int a1)] [] σ (zCi (fX9_within a1 (0 : Int32) (3 : Int32) σ) (fun x2 s1 => zGd (x2 = 0 ∨ x2 = 1) (some (x2, s1))))
  refine z_iload_n (pc := 0) F dX9_isNode_0 rfl ?_
  refine z_iconst (pc := 1) F (v := 0) dX9_isNode_1 (by decide) ?_
  refine z_iconst (pc := 2) F (v := 3) dX9_isNode_2 (by decide) ?_
  refine z_callSi (pc := 3) (st := []) F [.int a1, .int (0 : Int32), .int (3 : Int32)] cl_RX9_68 (tX9_within (zln K) σ a1 (0 : Int32) (3 : Int32)) rfl (by rw [hR]; exact ⟨rfl, rfl, Nat.le_of_ble_eq_true rfl, Nat.le_of_ble_eq_true rfl⟩) rfl rfl (Nat.le_of_ble_eq_true rfl) dX9_isNode_3 (fun x2 s1 => ?_)
  refine z_gd (fun h3 => ?_)
  exact z_zret (pc := 6) F E (zNarB h3) dX9_isNode_6
def fX9_againstNodes (a1 : Int32) (a2 : Int32) (a3 : Int32) (σ : zS) : Option (Int32 × zS) := zCi (fX9_placeOf a1 σ) (fun x2 s1 => if x2 = (-9 : Int32) then some ((-1 : Int32), s1) else zCi (fX9_isNode a2 s1) (fun x4 s3 => if x4 = 0 then some ((-1 : Int32), s3) else zCi (fX9_isNode a3 s3) (fun x6 s5 => if x6 = 0 then some ((-1 : Int32), s5) else if a2 = a3 then some ((-3 : Int32), s5) else some ((0 : Int32), s5))))
abbrev rmX9_againstNodes : Room := { frames := 2, cells := 0, slots := 0, locals := 42 }
set_option maxRecDepth 100000 in
set_option maxHeartbeats 4000000 in
theorem tX9_againstNodes (l : Launch) (σ : zS) (a1 : Int32) (a2 : Int32) (a3 : Int32) : zMi l yX9_againstNodes cX9_againstNodes 4 (some .int) rmX9_againstNodes (fun ad => [.ref (ad 21 0), .int a1, .int a2, .int a3]) σ (fX9_againstNodes a1 a2 a3 σ) := by
  refine zMi.of RX9 (by decide +kernel) rfl (fun _ => Nat.le_of_ble_eq_true rfl) (fun _ => zcat rfl) (fun K t F hR hL E => ?_)
  show ZO K t 0 [some (.ref (zad K 21 0)), some (.int a1), some (.int a2), some (.int a3)] [] σ (zCi (fX9_placeOf a1 σ) (fun x2 s1 => if x2 = (-9 : Int32) then some ((-1 : Int32), s1) else zCi (fX9_isNode a2 s1) (fun x4 s3 => if x4 = 0 then some ((-1 : Int32), s3) else zCi (fX9_isNode a3 s3) (fun x6 s5 => if x6 = 0 then some ((-1 : Int32), s5) else if a2 = a3 then some ((-3 : Int32), s5) else some ((0 : Int32), s5)))))
  refine z_aload_n (pc := 0) F dX9_againstNodes_0 rfl ?_
  refine z_iload_n (pc := 1) F dX9_againstNodes_1 rfl ?_
  refine z_callVi (pc := 2) (st := []) F 21 0 [.int a1] cl_RX9_150 (tX9_placeOf (zln K) σ a1) rfl (by decide) (fun _ => ⟨_, rfl⟩) rfl (by rw [hR]; exact ⟨rfl, rfl, Nat.le_of_ble_eq_true rfl, Nat.le_of_ble_eq_true rfl⟩) rfl rfl (Nat.le_of_ble_eq_true rfl) dX9_againstNodes_2 (fun x2 s1 => ?_)
  refine z_bipush (pc := 5) F (v := -9) dX9_againstNodes_5 (by decide) ?_
  refine z_icmp_eq (pc := 7) F 24 dX9_againstNodes_7 (by decide) (fun h10 => ?_) (fun h10 => ?_)
  · refine z_iconst (pc := 24) F (v := -1) dX9_againstNodes_24 (by decide) ?_
    refine z_goto (pc := 25) F 39 dX9_againstNodes_25 (by decide) ?_
    exact z_iret (pc := 39) F E dX9_againstNodes_39
  · refine z_iload_n (pc := 10) F dX9_againstNodes_10 rfl ?_
    refine z_callSi (pc := 11) (st := []) F [.int a2] cl_RX9_153 (tX9_isNode (zln K) s1 a2) rfl (by rw [hR]; exact ⟨rfl, rfl, Nat.le_of_ble_eq_true rfl, Nat.le_of_ble_eq_true rfl⟩) rfl rfl (Nat.le_of_ble_eq_true rfl) dX9_againstNodes_11 (fun x4 s3 => ?_)
    refine z_if_eq (pc := 14) F 24 dX9_againstNodes_14 (by decide) (fun h9 => ?_) (fun h9 => ?_)
    · refine z_iconst (pc := 24) F (v := -1) dX9_againstNodes_24 (by decide) ?_
      refine z_goto (pc := 25) F 39 dX9_againstNodes_25 (by decide) ?_
      exact z_iret (pc := 39) F E dX9_againstNodes_39
    · refine z_iload_n (pc := 17) F dX9_againstNodes_17 rfl ?_
      refine z_callSi (pc := 18) (st := []) F [.int a3] cl_RX9_153 (tX9_isNode (zln K) s3 a3) rfl (by rw [hR]; exact ⟨rfl, rfl, Nat.le_of_ble_eq_true rfl, Nat.le_of_ble_eq_true rfl⟩) rfl rfl (Nat.le_of_ble_eq_true rfl) dX9_againstNodes_18 (fun x6 s5 => ?_)
      refine z_if_ne (pc := 21) F 28 dX9_againstNodes_21 (by decide) (fun h8 => ?_) (fun h8 => ?_)
      · refine z_iload_n (pc := 28) F dX9_againstNodes_28 rfl ?_
        refine z_iload_n (pc := 29) F dX9_againstNodes_29 rfl ?_
        refine z_icmp_ne (pc := 30) F 38 dX9_againstNodes_30 (by decide) (fun h7 => ?_) (fun h7 => ?_)
        · refine z_iconst (pc := 38) F (v := 0) dX9_againstNodes_38 (by decide) ?_
          exact z_iret (pc := 39) F E dX9_againstNodes_39
        · refine z_bipush (pc := 33) F (v := -3) dX9_againstNodes_33 (by decide) ?_
          refine z_goto (pc := 35) F 39 dX9_againstNodes_35 (by decide) ?_
          exact z_iret (pc := 39) F E dX9_againstNodes_39
      · refine z_iconst (pc := 24) F (v := -1) dX9_againstNodes_24 (by decide) ?_
        refine z_goto (pc := 25) F 39 dX9_againstNodes_25 (by decide) ?_
        exact z_iret (pc := 39) F E dX9_againstNodes_39
def fX9_air (a1 : Int32) (σ : zS) : Option (Int32 × zS) := zCi (fX9_within a1 (0 : Int32) (255 : Int32) σ) (fun x2 s1 => if x2 = 0 then some ((-2 : Int32), s1) else zB (s1 21 0 6) (fun x3 => zB (zU s1 21 0 6 a1) (fun s4 => some (x3, s4))))
abbrev rmX9_air : Room := { frames := 1, cells := 0, slots := 0, locals := 22 }
set_option maxRecDepth 100000 in
set_option maxHeartbeats 4000000 in
theorem tX9_air (l : Launch) (σ : zS) (a1 : Int32) : zMi l yX9_air cX9_air 3 (some .int) rmX9_air (fun ad => [.ref (ad 21 0), .int a1]) σ (fX9_air a1 σ) := by
  refine zMi.of RX9 (by decide +kernel) rfl (fun _ => Nat.le_of_ble_eq_true rfl) (fun _ => zcat rfl) (fun K t F hR hL E => ?_)
  show ZO K t 0 [some (.ref (zad K 21 0)), some (.int a1), none] [] σ (zCi (fX9_within a1 (0 : Int32) (255 : Int32) σ) (fun x2 s1 => if x2 = 0 then some ((-2 : Int32), s1) else zB (s1 21 0 6) (fun x3 => zB (zU s1 21 0 6 a1) (fun s4 => some (x3, s4)))))
  refine z_iload_n (pc := 0) F dX9_air_0 rfl ?_
  refine z_iconst (pc := 1) F (v := 0) dX9_air_1 (by decide) ?_
  refine z_sipush (pc := 2) F (v := 255) dX9_air_2 (by decide) ?_
  refine z_callSi (pc := 5) (st := []) F [.int a1, .int (0 : Int32), .int (255 : Int32)] cl_RX9_68 (tX9_within (zln K) σ a1 (0 : Int32) (255 : Int32)) rfl (by rw [hR]; exact ⟨rfl, rfl, Nat.le_of_ble_eq_true rfl, Nat.le_of_ble_eq_true rfl⟩) rfl rfl (Nat.le_of_ble_eq_true rfl) dX9_air_5 (fun x2 s1 => ?_)
  refine z_if_ne (pc := 8) F 14 dX9_air_8 (by decide) (fun h5 => ?_) (fun h5 => ?_)
  · refine z_aload_n (pc := 14) F dX9_air_14 rfl ?_
    refine z_get (pc := 15) F 21 0 6 (v := .int (s1 21 0 6)) (by decide) (fun _ => rfl) rfl (by decide) inlX9 lk_RX9_22 rfl dX9_air_15 ?_
    refine z_Bi (fun x3 => ?_)
    refine z_istore_n (pc := 18) F (lv' := [some (.ref (zad K 21 0)), some (.int a1), some (.int x3)]) dX9_air_18 (zlt rfl) rfl ?_
    refine z_aload_n (pc := 19) F dX9_air_19 rfl ?_
    refine z_iload_n (pc := 20) F dX9_air_20 rfl ?_
    refine z_put (pc := 21) F 21 0 6 tyX9 tyX9_ok nmX9 (by decide) (fun _ => rfl) rfl (by decide) inlX9 lk_RX9_22 rfl (by decide +kernel) (fun _ => Nat.le_of_ble_eq_true rfl) (fun _ => rfl) dX9_air_21 (fun s4 => ?_)
    refine z_iload_n (pc := 24) F dX9_air_24 rfl ?_
    exact z_iret (pc := 25) F E dX9_air_25
  · refine z_bipush (pc := 11) F (v := -2) dX9_air_11 (by decide) ?_
    exact z_iret (pc := 13) F E dX9_air_13
def fX9_anew_12 (k12_3 : zS → Option (Int32 × zS)) : Nat → Int32 → zS → Option (Int32 × zS)
  | 0, _, _ => none
  | (n12_3 + 1), v2_12_3, w12_3 => if (8 : Int32) ≤ v2_12_3 then k12_3 w12_3 else zIx v2_12_3 8 (zB (zU w12_3 23 0 v2_12_3.toNatClampNeg (0 : Int32)) (fun s8 => zB (v2_12_3 + 1) (fun x9 => fX9_anew_12 k12_3 n12_3 x9 s8)))
def fX9_anew (σ : zS) : Option (Int32 × zS) := zB (σ 21 0 3) (fun x1 => zB (zU σ 21 0 0 (0 : Int32)) (fun s2 => fX9_anew_12 (fun (y12_3 : zS) => (zB (zU y12_3 21 0 3 (0 : Int32)) (fun s4 => zB (zU s4 21 0 8 (0 : Int32)) (fun s5 => zB (zU s5 21 0 9 (0 : Int32)) (fun s6 => some (x1, s6)))) : Option (Int32 × zS))) zN (0 : Int32) s2))
abbrev rmX9_anew : Room := { frames := 0, cells := 0, slots := 0, locals := 0 }
set_option maxRecDepth 100000 in
set_option maxHeartbeats 4000000 in
theorem tX9_anew (l : Launch) (σ : zS) : zMi l yX9_anew cX9_anew 3 (some .int) rmX9_anew (fun ad => [.ref (ad 21 0)]) σ (fX9_anew σ) := by
  refine zMi.of RX9 (by decide +kernel) rfl (fun _ => Nat.le_of_ble_eq_true rfl) (fun _ => zcat rfl) (fun K t F hR hL E => ?_)
  show ZO K t 0 [some (.ref (zad K 21 0)), none, none] [] σ (zB (σ 21 0 3) (fun x1 => zB (zU σ 21 0 0 (0 : Int32)) (fun s2 => fX9_anew_12 (fun (y12_3 : zS) => (zB (zU y12_3 21 0 3 (0 : Int32)) (fun s4 => zB (zU s4 21 0 8 (0 : Int32)) (fun s5 => zB (zU s5 21 0 9 (0 : Int32)) (fun s6 => some (x1, s6)))) : Option (Int32 × zS))) zN (0 : Int32) s2)))
  refine z_aload_n (pc := 0) F dX9_anew_0 rfl ?_
  refine z_get (pc := 1) F 21 0 3 (v := .int (σ 21 0 3)) (by decide) (fun _ => rfl) rfl (by decide) inlX9 lk_RX9_79 rfl dX9_anew_1 ?_
  refine z_Bi (fun x1 => ?_)
  refine z_istore_n (pc := 4) F (lv' := [some (.ref (zad K 21 0)), some (.int x1), none]) dX9_anew_4 (zlt rfl) rfl ?_
  refine z_aload_n (pc := 5) F dX9_anew_5 rfl ?_
  refine z_iconst (pc := 6) F (v := 0) dX9_anew_6 (by decide) ?_
  refine z_put (pc := 7) F 21 0 0 tyX9 tyX9_ok nmX9 (by decide) (fun _ => rfl) rfl (by decide) inlX9 lk_RX9_72 rfl (by decide +kernel) (fun _ => Nat.le_of_ble_eq_true rfl) (fun _ => rfl) dX9_anew_7 (fun s2 => ?_)
  refine z_iconst (pc := 10) F (v := 0) dX9_anew_10 (by decide) ?_
  refine z_istore_n (pc := 11) F (lv' := [some (.ref (zad K 21 0)), some (.int x1), some (.int (0 : Int32))]) dX9_anew_11 (zlt rfl) rfl ?_
  have hk12_3 : ∀ (y12_3 : zS), ZO K t 31 [some (.ref (zad K 21 0)), some (.int x1), none] [] y12_3 ((fun (y12_3 : zS) => (zB (zU y12_3 21 0 3 (0 : Int32)) (fun s4 => zB (zU s4 21 0 8 (0 : Int32)) (fun s5 => zB (zU s5 21 0 9 (0 : Int32)) (fun s6 => some (x1, s6)))) : Option (Int32 × zS))) y12_3) := by
    intro y12_3
    show ZO K t 31 [some (.ref (zad K 21 0)), some (.int x1), none] [] y12_3 (zB (zU y12_3 21 0 3 (0 : Int32)) (fun s4 => zB (zU s4 21 0 8 (0 : Int32)) (fun s5 => zB (zU s5 21 0 9 (0 : Int32)) (fun s6 => some (x1, s6)))))
    refine z_aload_n (pc := 31) F dX9_anew_31 rfl ?_
    refine z_iconst (pc := 32) F (v := 0) dX9_anew_32 (by decide) ?_
    refine z_put (pc := 33) F 21 0 3 tyX9 tyX9_ok nmX9 (by decide) (fun _ => rfl) rfl (by decide) inlX9 lk_RX9_79 rfl (by decide +kernel) (fun _ => Nat.le_of_ble_eq_true rfl) (fun _ => rfl) dX9_anew_33 (fun s4 => ?_)
    refine z_aload_n (pc := 36) F dX9_anew_36 rfl ?_
    refine z_iconst (pc := 37) F (v := 0) dX9_anew_37 (by decide) ?_
    refine z_put (pc := 38) F 21 0 8 tyX9 tyX9_ok nmX9 (by decide) (fun _ => rfl) rfl (by decide) inlX9 lk_RX9_96 rfl (by decide +kernel) (fun _ => Nat.le_of_ble_eq_true rfl) (fun _ => rfl) dX9_anew_38 (fun s5 => ?_)
    refine z_aload_n (pc := 41) F dX9_anew_41 rfl ?_
    refine z_iconst (pc := 42) F (v := 0) dX9_anew_42 (by decide) ?_
    refine z_put (pc := 43) F 21 0 9 tyX9 tyX9_ok nmX9 (by decide) (fun _ => rfl) rfl (by decide) inlX9 lk_RX9_99 rfl (by decide +kernel) (fun _ => Nat.le_of_ble_eq_true rfl) (fun _ => rfl) dX9_anew_43 (fun s6 => ?_)
    refine z_iload_n (pc := 46) F dX9_anew_46 rfl ?_
    exact z_iret (pc := 47) F E dX9_anew_47
  have L12_3 : ∀ (n12_3 : Nat) (v2_12_3 : Int32) (w12_3 : zS), ZO K t 12 [some (.ref (zad K 21 0)), some (.int x1), some (.int v2_12_3)] [] w12_3 (fX9_anew_12 (fun (y12_3 : zS) => (zB (zU y12_3 21 0 3 (0 : Int32)) (fun s4 => zB (zU s4 21 0 8 (0 : Int32)) (fun s5 => zB (zU s5 21 0 9 (0 : Int32)) (fun s6 => some (x1, s6)))) : Option (Int32 × zS))) n12_3 v2_12_3 w12_3) := by
    revert hk12_3; generalize (fun (y12_3 : zS) => (zB (zU y12_3 21 0 3 (0 : Int32)) (fun s4 => zB (zU s4 21 0 8 (0 : Int32)) (fun s5 => zB (zU s5 21 0 9 (0 : Int32)) (fun s6 => some (x1, s6)))) : Option (Int32 × zS))) = k12_3; intro hk12_3
    intro n12_3
    induction n12_3 with
    | zero => intro v2_12_3 w12_3; exact z_none
    | succ n12_3 ih12_3 =>
      intro v2_12_3 w12_3
      show ZO K t 12 [some (.ref (zad K 21 0)), some (.int x1), some (.int v2_12_3)] [] w12_3 (if (8 : Int32) ≤ v2_12_3 then k12_3 w12_3 else zIx v2_12_3 8 (zB (zU w12_3 23 0 v2_12_3.toNatClampNeg (0 : Int32)) (fun s8 => zB (v2_12_3 + 1) (fun x9 => fX9_anew_12 k12_3 n12_3 x9 s8))))
      refine z_iload_n (pc := 12) F dX9_anew_12 rfl ?_
      refine z_bipush (pc := 13) F (v := 8) dX9_anew_13 (by decide) ?_
      refine z_icmp_ge (pc := 15) F 31 dX9_anew_15 (by decide) (fun h10 => ?_) (fun h10 => ?_)
      · refine z_wk [true, true, false] (lv' := [some (.ref (zad K 21 0)), some (.int x1), none]) rfl ?_
        exact hk12_3  w12_3
      · refine z_aload_n (pc := 18) F dX9_anew_18 rfl ?_
        refine z_get (pc := 19) F 21 0 2 (v := .ref (zad K 23 0)) (by decide) (fun _ => rfl) rfl (by decide) inlX9 lk_RX9_13 rfl dX9_anew_19 ?_
        refine z_iload_n (pc := 22) F dX9_anew_22 rfl ?_
        refine z_iconst (pc := 23) F (v := 0) dX9_anew_23 (by decide) ?_
        refine z_ix (fun h7 => ?_)
        refine z_iast (pc := 24) F 23 0 (by decide) (fun _ _ => rfl) h7 dX9_anew_24 (fun s8 => ?_)
        refine z_iincB (pc := 25) F (lv' := fun x9 => [some (.ref (zad K 21 0)), some (.int x1), some (.int x9)]) dX9_anew_25 rfl rfl (fun _ => rfl) (fun x9 => ?_)
        refine z_goto (pc := 28) F 12 dX9_anew_28 (by decide) ?_
        exact ih12_3 x9 s8
  exact L12_3 zN (0 : Int32) s2
def fX9_at (a1 : Int32) (a2 : Int32) (a3 : Int32) (σ : zS) : Option (Int32 × zS) := some ((8 : Int32) * (((5 : Int32) * (((4 : Int32) * a1) + a2)) + a3), σ)
abbrev rmX9_at : Room := { frames := 0, cells := 0, slots := 0, locals := 0 }
set_option maxRecDepth 100000 in
set_option maxHeartbeats 4000000 in
theorem tX9_at (l : Launch) (σ : zS) (a1 : Int32) (a2 : Int32) (a3 : Int32) : zMi l yX9_at cX9_at 3 (some .int) rmX9_at (fun _ => [.int a1, .int a2, .int a3]) σ (fX9_at a1 a2 a3 σ) := by
  refine zMi.of RX9 (by decide +kernel) rfl (fun _ => Nat.le_of_ble_eq_true rfl) (fun _ => zcat rfl) (fun K t F hR hL E => ?_)
  show ZO K t 0 [some (.int a1), some (.int a2), some (.int a3)] [] σ (some ((8 : Int32) * (((5 : Int32) * (((4 : Int32) * a1) + a2)) + a3), σ))
  refine z_bipush (pc := 0) F (v := 8) dX9_at_0 (by decide) ?_
  refine z_iconst (pc := 2) F (v := 5) dX9_at_2 (by decide) ?_
  refine z_iconst (pc := 3) F (v := 4) dX9_at_3 (by decide) ?_
  refine z_iload_n (pc := 4) F dX9_at_4 rfl ?_
  refine z_imul (pc := 5) F dX9_at_5 ?_
  refine z_iload_n (pc := 6) F dX9_at_6 rfl ?_
  refine z_iadd (pc := 7) F dX9_at_7 ?_
  refine z_imul (pc := 8) F dX9_at_8 ?_
  refine z_iload_n (pc := 9) F dX9_at_9 rfl ?_
  refine z_iadd (pc := 10) F dX9_at_10 ?_
  refine z_imul (pc := 11) F dX9_at_11 ?_
  exact z_iret (pc := 12) F E dX9_at_12
def fX9_isSum (a1 : Int32) (σ : zS) : Option (Int32 × zS) := zCi (fX9_within a1 (1 : Int32) (1023 : Int32) σ) (fun x2 s1 => if x2 = 0 then some ((0 : Int32), s1) else if (a1 &&& ((s1 21 0 0) ^^^ (-1 : Int32))) = 0 then some ((1 : Int32), s1) else some ((0 : Int32), s1))
abbrev rmX9_isSum : Room := { frames := 1, cells := 0, slots := 0, locals := 22 }
set_option maxRecDepth 100000 in
set_option maxHeartbeats 4000000 in
theorem tX9_isSum (l : Launch) (σ : zS) (a1 : Int32) : zMi l yX9_isSum cX9_isSum 2 (some .boolean) rmX9_isSum (fun ad => [.ref (ad 21 0), .int a1]) σ (fX9_isSum a1 σ) := by
  refine zMi.of RX9 (by decide +kernel) rfl (fun _ => Nat.le_of_ble_eq_true rfl) (fun _ => zcat rfl) (fun K t F hR hL E => ?_)
  show ZO K t 0 [some (.ref (zad K 21 0)), some (.int a1)] [] σ (zCi (fX9_within a1 (1 : Int32) (1023 : Int32) σ) (fun x2 s1 => if x2 = 0 then some ((0 : Int32), s1) else if (a1 &&& ((s1 21 0 0) ^^^ (-1 : Int32))) = 0 then some ((1 : Int32), s1) else some ((0 : Int32), s1)))
  refine z_iload_n (pc := 0) F dX9_isSum_0 rfl ?_
  refine z_iconst (pc := 1) F (v := 1) dX9_isSum_1 (by decide) ?_
  refine z_sipush (pc := 2) F (v := 1023) dX9_isSum_2 (by decide) ?_
  refine z_callSi (pc := 5) (st := []) F [.int a1, .int (1 : Int32), .int (1023 : Int32)] cl_RX9_68 (tX9_within (zln K) σ a1 (1 : Int32) (1023 : Int32)) rfl (by rw [hR]; exact ⟨rfl, rfl, Nat.le_of_ble_eq_true rfl, Nat.le_of_ble_eq_true rfl⟩) rfl rfl (Nat.le_of_ble_eq_true rfl) dX9_isSum_5 (fun x2 s1 => ?_)
  refine z_if_eq (pc := 8) F 26 dX9_isSum_8 (by decide) (fun h4 => ?_) (fun h4 => ?_)
  · refine z_iconst (pc := 26) F (v := 0) dX9_isSum_26 (by decide) ?_
    exact z_zret (pc := 27) F E (by decide) dX9_isSum_27
  · refine z_iload_n (pc := 11) F dX9_isSum_11 rfl ?_
    refine z_aload_n (pc := 12) F dX9_isSum_12 rfl ?_
    refine z_get (pc := 13) F 21 0 0 (v := .int (s1 21 0 0)) (by decide) (fun _ => rfl) rfl (by decide) inlX9 lk_RX9_72 rfl dX9_isSum_13 ?_
    refine z_iconst (pc := 16) F (v := -1) dX9_isSum_16 (by decide) ?_
    refine z_ixor (pc := 17) F dX9_isSum_17 ?_
    refine z_iand (pc := 18) F dX9_isSum_18 ?_
    refine z_if_ne (pc := 19) F 26 dX9_isSum_19 (by decide) (fun h3 => ?_) (fun h3 => ?_)
    · refine z_iconst (pc := 26) F (v := 0) dX9_isSum_26 (by decide) ?_
      exact z_zret (pc := 27) F E (by decide) dX9_isSum_27
    · refine z_iconst (pc := 22) F (v := 1) dX9_isSum_22 (by decide) ?_
      refine z_goto (pc := 23) F 27 dX9_isSum_23 (by decide) ?_
      exact z_zret (pc := 27) F E (by decide) dX9_isSum_27
def fX9_size_4 (a1 : Int32) (k4_1 : Int32 → zS → Option (Int32 × zS)) : Nat → Int32 → Int32 → zS → Option (Int32 × zS)
  | 0, _, _, _ => none
  | (n4_1 + 1), v1_4_1, v2_4_1, w4_1 => if (10 : Int32) ≤ v2_4_1 then k4_1 v1_4_1 w4_1 else zB (v1_4_1 + ((a1 >>> (v2_4_1 &&& 31)) &&& (1 : Int32))) (fun x2 => zB (v2_4_1 + 1) (fun x3 => fX9_size_4 a1 k4_1 n4_1 x2 x3 w4_1))
def fX9_size (a1 : Int32) (σ : zS) : Option (Int32 × zS) := fX9_size_4 a1 (fun (u1_4_1 : Int32) (y4_1 : zS) => (some (u1_4_1, y4_1) : Option (Int32 × zS))) zN (0 : Int32) (0 : Int32) σ
abbrev rmX9_size : Room := { frames := 0, cells := 0, slots := 0, locals := 0 }
set_option maxRecDepth 100000 in
set_option maxHeartbeats 4000000 in
theorem tX9_size (l : Launch) (σ : zS) (a1 : Int32) : zMi l yX9_size cX9_size 3 (some .int) rmX9_size (fun _ => [.int a1]) σ (fX9_size a1 σ) := by
  refine zMi.of RX9 (by decide +kernel) rfl (fun _ => Nat.le_of_ble_eq_true rfl) (fun _ => zcat rfl) (fun K t F hR hL E => ?_)
  show ZO K t 0 [some (.int a1), none, none] [] σ (fX9_size_4 a1 (fun (u1_4_1 : Int32) (y4_1 : zS) => (some (u1_4_1, y4_1) : Option (Int32 × zS))) zN (0 : Int32) (0 : Int32) σ)
  refine z_iconst (pc := 0) F (v := 0) dX9_size_0 (by decide) ?_
  refine z_istore_n (pc := 1) F (lv' := [some (.int a1), some (.int (0 : Int32)), none]) dX9_size_1 (zlt rfl) rfl ?_
  refine z_iconst (pc := 2) F (v := 0) dX9_size_2 (by decide) ?_
  refine z_istore_n (pc := 3) F (lv' := [some (.int a1), some (.int (0 : Int32)), some (.int (0 : Int32))]) dX9_size_3 (zlt rfl) rfl ?_
  have hk4_1 : ∀ (u1_4_1 : Int32) (y4_1 : zS), ZO K t 24 [none, some (.int u1_4_1), none] [] y4_1 ((fun (u1_4_1 : Int32) (y4_1 : zS) => (some (u1_4_1, y4_1) : Option (Int32 × zS))) u1_4_1 y4_1) := by
    intro u1_4_1 y4_1
    show ZO K t 24 [none, some (.int u1_4_1), none] [] y4_1 (some (u1_4_1, y4_1))
    refine z_iload_n (pc := 24) F dX9_size_24 rfl ?_
    exact z_iret (pc := 25) F E dX9_size_25
  have L4_1 : ∀ (n4_1 : Nat) (v1_4_1 : Int32) (v2_4_1 : Int32) (w4_1 : zS), ZO K t 4 [some (.int a1), some (.int v1_4_1), some (.int v2_4_1)] [] w4_1 (fX9_size_4 a1 (fun (u1_4_1 : Int32) (y4_1 : zS) => (some (u1_4_1, y4_1) : Option (Int32 × zS))) n4_1 v1_4_1 v2_4_1 w4_1) := by
    revert hk4_1; generalize (fun (u1_4_1 : Int32) (y4_1 : zS) => (some (u1_4_1, y4_1) : Option (Int32 × zS))) = k4_1; intro hk4_1
    intro n4_1
    induction n4_1 with
    | zero => intro v1_4_1 v2_4_1 w4_1; exact z_none
    | succ n4_1 ih4_1 =>
      intro v1_4_1 v2_4_1 w4_1
      show ZO K t 4 [some (.int a1), some (.int v1_4_1), some (.int v2_4_1)] [] w4_1 (if (10 : Int32) ≤ v2_4_1 then k4_1 v1_4_1 w4_1 else zB (v1_4_1 + ((a1 >>> (v2_4_1 &&& 31)) &&& (1 : Int32))) (fun x2 => zB (v2_4_1 + 1) (fun x3 => fX9_size_4 a1 k4_1 n4_1 x2 x3 w4_1)))
      refine z_iload_n (pc := 4) F dX9_size_4 rfl ?_
      refine z_bipush (pc := 5) F (v := 10) dX9_size_5 (by decide) ?_
      refine z_icmp_ge (pc := 7) F 24 dX9_size_7 (by decide) (fun h4 => ?_) (fun h4 => ?_)
      · refine z_wk [false, true, false] (lv' := [none, some (.int v1_4_1), none]) rfl ?_
        exact hk4_1 v1_4_1 w4_1
      · refine z_iload_n (pc := 10) F dX9_size_10 rfl ?_
        refine z_iload_n (pc := 11) F dX9_size_11 rfl ?_
        refine z_iload_n (pc := 12) F dX9_size_12 rfl ?_
        refine z_ishr (pc := 13) F dX9_size_13 ?_
        refine z_iconst (pc := 14) F (v := 1) dX9_size_14 (by decide) ?_
        refine z_iand (pc := 15) F dX9_size_15 ?_
        refine z_iadd (pc := 16) F dX9_size_16 ?_
        refine z_Bi (fun x2 => ?_)
        refine z_istore_n (pc := 17) F (lv' := [some (.int a1), some (.int x2), some (.int v2_4_1)]) dX9_size_17 (zlt rfl) rfl ?_
        refine z_iincB (pc := 18) F (lv' := fun x3 => [some (.int a1), some (.int x2), some (.int x3)]) dX9_size_18 rfl rfl (fun _ => rfl) (fun x3 => ?_)
        refine z_goto (pc := 21) F 4 dX9_size_21 (by decide) ?_
        exact ih4_1 x2 x3 w4_1
  exact L4_1 zN (0 : Int32) (0 : Int32) σ
def fX9_isIn (a1 : Int32) (a2 : Int32) (σ : zS) : Option (Int32 × zS) := if ((a1 >>> (a2 &&& 31)) &&& (1 : Int32)) = (1 : Int32) then some ((1 : Int32), σ) else some ((0 : Int32), σ)
abbrev rmX9_isIn : Room := { frames := 0, cells := 0, slots := 0, locals := 0 }
set_option maxRecDepth 100000 in
set_option maxHeartbeats 4000000 in
theorem tX9_isIn (l : Launch) (σ : zS) (a1 : Int32) (a2 : Int32) : zMi l yX9_isIn cX9_isIn 2 (some .boolean) rmX9_isIn (fun _ => [.int a1, .int a2]) σ (fX9_isIn a1 a2 σ) := by
  refine zMi.of RX9 (by decide +kernel) rfl (fun _ => Nat.le_of_ble_eq_true rfl) (fun _ => zcat rfl) (fun K t F hR hL E => ?_)
  show ZO K t 0 [some (.int a1), some (.int a2)] [] σ (if ((a1 >>> (a2 &&& 31)) &&& (1 : Int32)) = (1 : Int32) then some ((1 : Int32), σ) else some ((0 : Int32), σ))
  refine z_iload_n (pc := 0) F dX9_isIn_0 rfl ?_
  refine z_iload_n (pc := 1) F dX9_isIn_1 rfl ?_
  refine z_ishr (pc := 2) F dX9_isIn_2 ?_
  refine z_iconst (pc := 3) F (v := 1) dX9_isIn_3 (by decide) ?_
  refine z_iand (pc := 4) F dX9_isIn_4 ?_
  refine z_iconst (pc := 5) F (v := 1) dX9_isIn_5 (by decide) ?_
  refine z_icmp_ne (pc := 6) F 13 dX9_isIn_6 (by decide) (fun h1 => ?_) (fun h1 => ?_)
  · refine z_iconst (pc := 13) F (v := 0) dX9_isIn_13 (by decide) ?_
    exact z_zret (pc := 14) F E (by decide) dX9_isIn_14
  · refine z_iconst (pc := 9) F (v := 1) dX9_isIn_9 (by decide) ?_
    refine z_goto (pc := 10) F 14 dX9_isIn_10 (by decide) ?_
    exact z_zret (pc := 14) F E (by decide) dX9_isIn_14
def fX9_readBy_25 (x2 : Int32) (k25_5 : Int32 → zS → Option (Int32 × zS)) : Nat → Int32 → zS → Option (Int32 × zS)
  | 0, _, _ => none
  | (n25_5 + 1), v4_25_5, w25_5 => zCi (fX9_isIn x2 v4_25_5 w25_5) (fun x7 s6 => if x7 = 0 then zB (v4_25_5 + 1) (fun x8 => fX9_readBy_25 x2 k25_5 n25_5 x8 s6) else k25_5 v4_25_5 s6)
def fX9_readBy (a1 : Int32) (a2 : Int32) (σ : zS) : Option (Int32 × zS) := zIx a1 8 (zB (a2 &&& ((σ 23 0 a1.toNatClampNeg) ^^^ (-1 : Int32))) (fun x2 => zCi (fX9_size x2 σ) (fun x4 s3 => if x4 = (1 : Int32) then fX9_readBy_25 x2 (fun (u4_25_5 : Int32) (y25_5 : zS) => (some (u4_25_5, y25_5) : Option (Int32 × zS))) zN (0 : Int32) s3 else some ((-9 : Int32), s3))))
abbrev rmX9_readBy : Room := { frames := 1, cells := 0, slots := 0, locals := 22 }
set_option maxRecDepth 100000 in
set_option maxHeartbeats 4000000 in
theorem tX9_readBy (l : Launch) (σ : zS) (a1 : Int32) (a2 : Int32) : zMi l yX9_readBy cX9_readBy 5 (some .int) rmX9_readBy (fun ad => [.ref (ad 21 0), .int a1, .int a2]) σ (fX9_readBy a1 a2 σ) := by
  refine zMi.of RX9 (by decide +kernel) rfl (fun _ => Nat.le_of_ble_eq_true rfl) (fun _ => zcat rfl) (fun K t F hR hL E => ?_)
  show ZO K t 0 [some (.ref (zad K 21 0)), some (.int a1), some (.int a2), none, none] [] σ (zIx a1 8 (zB (a2 &&& ((σ 23 0 a1.toNatClampNeg) ^^^ (-1 : Int32))) (fun x2 => zCi (fX9_size x2 σ) (fun x4 s3 => if x4 = (1 : Int32) then fX9_readBy_25 x2 (fun (u4_25_5 : Int32) (y25_5 : zS) => (some (u4_25_5, y25_5) : Option (Int32 × zS))) zN (0 : Int32) s3 else some ((-9 : Int32), s3)))))
  refine z_iload_n (pc := 0) F dX9_readBy_0 rfl ?_
  refine z_aload_n (pc := 1) F dX9_readBy_1 rfl ?_
  refine z_get (pc := 2) F 21 0 2 (v := .ref (zad K 23 0)) (by decide) (fun _ => rfl) rfl (by decide) inlX9 lk_RX9_13 rfl dX9_readBy_2 ?_
  refine z_iload_n (pc := 5) F dX9_readBy_5 rfl ?_
  refine z_ix (fun h1 => ?_)
  refine z_iald (pc := 6) F 23 0 (by decide) (fun _ => rfl) h1 dX9_readBy_6 ?_
  refine z_iconst (pc := 7) F (v := -1) dX9_readBy_7 (by decide) ?_
  refine z_ixor (pc := 8) F dX9_readBy_8 ?_
  refine z_iand (pc := 9) F dX9_readBy_9 ?_
  refine z_Bi (fun x2 => ?_)
  refine z_istore_n (pc := 10) F (lv' := [some (.ref (zad K 21 0)), some (.int a1), some (.int a2), some (.int x2), none]) dX9_readBy_10 (zlt rfl) rfl ?_
  refine z_iload_n (pc := 11) F dX9_readBy_11 rfl ?_
  refine z_callSi (pc := 12) (st := []) F [.int x2] cl_RX9_102 (tX9_size (zln K) σ x2) rfl (by rw [hR]; exact ⟨rfl, rfl, Nat.le_of_ble_eq_true rfl, Nat.le_of_ble_eq_true rfl⟩) rfl rfl (Nat.le_of_ble_eq_true rfl) dX9_readBy_12 (fun x4 s3 => ?_)
  refine z_iconst (pc := 15) F (v := 1) dX9_readBy_15 (by decide) ?_
  refine z_icmp_eq (pc := 16) F 22 dX9_readBy_16 (by decide) (fun h10 => ?_) (fun h10 => ?_)
  · refine z_iconst (pc := 22) F (v := 0) dX9_readBy_22 (by decide) ?_
    refine z_istore (pc := 23) F (lv' := [some (.ref (zad K 21 0)), some (.int a1), some (.int a2), some (.int x2), some (.int (0 : Int32))]) dX9_readBy_23 (zlt rfl) rfl ?_
    refine z_wk [false, false, false, true, true] (lv' := [none, none, none, some (.int x2), some (.int (0 : Int32))]) rfl ?_
    have hk25_5 : ∀ (u4_25_5 : Int32) (y25_5 : zS), ZO K t 40 [none, none, none, none, some (.int u4_25_5)] [] y25_5 ((fun (u4_25_5 : Int32) (y25_5 : zS) => (some (u4_25_5, y25_5) : Option (Int32 × zS))) u4_25_5 y25_5) := by
      intro u4_25_5 y25_5
      show ZO K t 40 [none, none, none, none, some (.int u4_25_5)] [] y25_5 (some (u4_25_5, y25_5))
      refine z_iload (pc := 40) F dX9_readBy_40 rfl ?_
      exact z_iret (pc := 42) F E dX9_readBy_42
    have L25_5 : ∀ (n25_5 : Nat) (v4_25_5 : Int32) (w25_5 : zS), ZO K t 25 [none, none, none, some (.int x2), some (.int v4_25_5)] [] w25_5 (fX9_readBy_25 x2 (fun (u4_25_5 : Int32) (y25_5 : zS) => (some (u4_25_5, y25_5) : Option (Int32 × zS))) n25_5 v4_25_5 w25_5) := by
      revert hk25_5; generalize (fun (u4_25_5 : Int32) (y25_5 : zS) => (some (u4_25_5, y25_5) : Option (Int32 × zS))) = k25_5; intro hk25_5
      intro n25_5
      induction n25_5 with
      | zero => intro v4_25_5 w25_5; exact z_none
      | succ n25_5 ih25_5 =>
        intro v4_25_5 w25_5
        show ZO K t 25 [none, none, none, some (.int x2), some (.int v4_25_5)] [] w25_5 (zCi (fX9_isIn x2 v4_25_5 w25_5) (fun x7 s6 => if x7 = 0 then zB (v4_25_5 + 1) (fun x8 => fX9_readBy_25 x2 k25_5 n25_5 x8 s6) else k25_5 v4_25_5 s6))
        refine z_iload_n (pc := 25) F dX9_readBy_25 rfl ?_
        refine z_iload (pc := 26) F dX9_readBy_26 rfl ?_
        refine z_callSi (pc := 28) (st := []) F [.int x2, .int v4_25_5] cl_RX9_75 (tX9_isIn (zln K) w25_5 x2 v4_25_5) rfl (by rw [hR]; exact ⟨rfl, rfl, Nat.le_of_ble_eq_true rfl, Nat.le_of_ble_eq_true rfl⟩) rfl rfl (Nat.le_of_ble_eq_true rfl) dX9_readBy_28 (fun x7 s6 => ?_)
        refine z_if_ne (pc := 31) F 40 dX9_readBy_31 (by decide) (fun h9 => ?_) (fun h9 => ?_)
        · refine z_wk [true, true, true, false, true] (lv' := [none, none, none, none, some (.int v4_25_5)]) rfl ?_
          exact hk25_5 v4_25_5 s6
        · refine z_iincB (pc := 34) F (lv' := fun x8 => [none, none, none, some (.int x2), some (.int x8)]) dX9_readBy_34 rfl rfl (fun _ => rfl) (fun x8 => ?_)
          refine z_goto (pc := 37) F 25 dX9_readBy_37 (by decide) ?_
          exact ih25_5 x8 s6
    exact L25_5 zN (0 : Int32) s3
  · refine z_bipush (pc := 19) F (v := -9) dX9_readBy_19 (by decide) ?_
    exact z_iret (pc := 21) F E dX9_readBy_21
def fX9_serves (a1 : Int32) (a2 : Int32) (σ : zS) : Option (Int32 × zS) := zIx a2 16 (zB (σ 25 0 a2.toNatClampNeg) (fun x2 => zCi (fX9_isIn (σ 21 0 6) x2 σ) (fun x4 s3 => if x4 = 0 then some ((0 : Int32), s3) else zCi (fX9_readBy x2 a1 s3) (fun x6 s5 => zIx a2 16 (if x6 = (s5 24 0 a2.toNatClampNeg) then some ((1 : Int32), s5) else some ((0 : Int32), s5))))))
abbrev rmX9_serves : Room := { frames := 2, cells := 0, slots := 0, locals := 46 }
set_option maxRecDepth 100000 in
set_option maxHeartbeats 4000000 in
theorem tX9_serves (l : Launch) (σ : zS) (a1 : Int32) (a2 : Int32) : zMi l yX9_serves cX9_serves 4 (some .boolean) rmX9_serves (fun ad => [.ref (ad 21 0), .int a1, .int a2]) σ (fX9_serves a1 a2 σ) := by
  refine zMi.of RX9 (by decide +kernel) rfl (fun _ => Nat.le_of_ble_eq_true rfl) (fun _ => zcat rfl) (fun K t F hR hL E => ?_)
  show ZO K t 0 [some (.ref (zad K 21 0)), some (.int a1), some (.int a2), none] [] σ (zIx a2 16 (zB (σ 25 0 a2.toNatClampNeg) (fun x2 => zCi (fX9_isIn (σ 21 0 6) x2 σ) (fun x4 s3 => if x4 = 0 then some ((0 : Int32), s3) else zCi (fX9_readBy x2 a1 s3) (fun x6 s5 => zIx a2 16 (if x6 = (s5 24 0 a2.toNatClampNeg) then some ((1 : Int32), s5) else some ((0 : Int32), s5)))))))
  refine z_aload_n (pc := 0) F dX9_serves_0 rfl ?_
  refine z_get (pc := 1) F 21 0 5 (v := .ref (zad K 25 0)) (by decide) (fun _ => rfl) rfl (by decide) inlX9 lk_RX9_19 rfl dX9_serves_1 ?_
  refine z_iload_n (pc := 4) F dX9_serves_4 rfl ?_
  refine z_ix (fun h1 => ?_)
  refine z_iald (pc := 5) F 25 0 (by decide) (fun _ => rfl) h1 dX9_serves_5 ?_
  refine z_Bi (fun x2 => ?_)
  refine z_istore_n (pc := 6) F (lv' := [some (.ref (zad K 21 0)), some (.int a1), some (.int a2), some (.int x2)]) dX9_serves_6 (zlt rfl) rfl ?_
  refine z_aload_n (pc := 7) F dX9_serves_7 rfl ?_
  refine z_get (pc := 8) F 21 0 6 (v := .int (σ 21 0 6)) (by decide) (fun _ => rfl) rfl (by decide) inlX9 lk_RX9_22 rfl dX9_serves_8 ?_
  refine z_iload_n (pc := 11) F dX9_serves_11 rfl ?_
  refine z_callSi (pc := 12) (st := []) F [.int (σ 21 0 6), .int x2] cl_RX9_75 (tX9_isIn (zln K) σ (σ 21 0 6) x2) rfl (by rw [hR]; exact ⟨rfl, rfl, Nat.le_of_ble_eq_true rfl, Nat.le_of_ble_eq_true rfl⟩) rfl rfl (Nat.le_of_ble_eq_true rfl) dX9_serves_12 (fun x4 s3 => ?_)
  refine z_if_eq (pc := 15) F 37 dX9_serves_15 (by decide) (fun h9 => ?_) (fun h9 => ?_)
  · refine z_iconst (pc := 37) F (v := 0) dX9_serves_37 (by decide) ?_
    exact z_zret (pc := 38) F E (by decide) dX9_serves_38
  · refine z_aload_n (pc := 18) F dX9_serves_18 rfl ?_
    refine z_iload_n (pc := 19) F dX9_serves_19 rfl ?_
    refine z_iload_n (pc := 20) F dX9_serves_20 rfl ?_
    refine z_callVi (pc := 21) (st := []) F 21 0 [.int x2, .int a1] cl_RX9_109 (tX9_readBy (zln K) s3 x2 a1) rfl (by decide) (fun _ => ⟨_, rfl⟩) rfl (by rw [hR]; exact ⟨rfl, rfl, Nat.le_of_ble_eq_true rfl, Nat.le_of_ble_eq_true rfl⟩) rfl rfl (Nat.le_of_ble_eq_true rfl) dX9_serves_21 (fun x6 s5 => ?_)
    refine z_aload_n (pc := 24) F dX9_serves_24 rfl ?_
    refine z_get (pc := 25) F 21 0 4 (v := .ref (zad K 24 0)) (by decide) (fun _ => rfl) rfl (by decide) inlX9 lk_RX9_16 rfl dX9_serves_25 ?_
    refine z_iload_n (pc := 28) F dX9_serves_28 rfl ?_
    refine z_ix (fun h7 => ?_)
    refine z_iald (pc := 29) F 24 0 (by decide) (fun _ => rfl) h7 dX9_serves_29 ?_
    refine z_icmp_ne (pc := 30) F 37 dX9_serves_30 (by decide) (fun h8 => ?_) (fun h8 => ?_)
    · refine z_iconst (pc := 37) F (v := 0) dX9_serves_37 (by decide) ?_
      exact z_zret (pc := 38) F E (by decide) dX9_serves_38
    · refine z_iconst (pc := 33) F (v := 1) dX9_serves_33 (by decide) ?_
      refine z_goto (pc := 34) F 38 dX9_serves_34 (by decide) ?_
      exact z_zret (pc := 38) F E (by decide) dX9_serves_38
def fX9_manyServed_4 (a1 : Int32) (k4_1 : Int32 → zS → Option (Int32 × zS)) : Nat → Int32 → Int32 → zS → Option (Int32 × zS)
  | 0, _, _, _ => none
  | (n4_1 + 1), v2_4_1, v3_4_1, w4_1 => if (w4_1 21 0 3) ≤ v3_4_1 then k4_1 v2_4_1 w4_1 else zCi (fX9_serves a1 v3_4_1 w4_1) (fun x3 s2 => if x3 = 0 then zB (v2_4_1 + (0 : Int32)) (fun x4 => zB (v3_4_1 + 1) (fun x5 => fX9_manyServed_4 a1 k4_1 n4_1 x4 x5 s2)) else zB (v2_4_1 + (1 : Int32)) (fun x6 => zB (v3_4_1 + 1) (fun x7 => fX9_manyServed_4 a1 k4_1 n4_1 x6 x7 s2)))
def fX9_manyServed (a1 : Int32) (σ : zS) : Option (Int32 × zS) := fX9_manyServed_4 a1 (fun (u2_4_1 : Int32) (y4_1 : zS) => (some (u2_4_1, y4_1) : Option (Int32 × zS))) zN (0 : Int32) (0 : Int32) σ
abbrev rmX9_manyServed : Room := { frames := 3, cells := 0, slots := 0, locals := 69 }
set_option maxRecDepth 100000 in
set_option maxHeartbeats 4000000 in
theorem tX9_manyServed (l : Launch) (σ : zS) (a1 : Int32) : zMi l yX9_manyServed cX9_manyServed 4 (some .int) rmX9_manyServed (fun ad => [.ref (ad 21 0), .int a1]) σ (fX9_manyServed a1 σ) := by
  refine zMi.of RX9 (by decide +kernel) rfl (fun _ => Nat.le_of_ble_eq_true rfl) (fun _ => zcat rfl) (fun K t F hR hL E => ?_)
  show ZO K t 0 [some (.ref (zad K 21 0)), some (.int a1), none, none] [] σ (fX9_manyServed_4 a1 (fun (u2_4_1 : Int32) (y4_1 : zS) => (some (u2_4_1, y4_1) : Option (Int32 × zS))) zN (0 : Int32) (0 : Int32) σ)
  refine z_iconst (pc := 0) F (v := 0) dX9_manyServed_0 (by decide) ?_
  refine z_istore_n (pc := 1) F (lv' := [some (.ref (zad K 21 0)), some (.int a1), some (.int (0 : Int32)), none]) dX9_manyServed_1 (zlt rfl) rfl ?_
  refine z_iconst (pc := 2) F (v := 0) dX9_manyServed_2 (by decide) ?_
  refine z_istore_n (pc := 3) F (lv' := [some (.ref (zad K 21 0)), some (.int a1), some (.int (0 : Int32)), some (.int (0 : Int32))]) dX9_manyServed_3 (zlt rfl) rfl ?_
  have hk4_1 : ∀ (u2_4_1 : Int32) (y4_1 : zS), ZO K t 35 [none, none, some (.int u2_4_1), none] [] y4_1 ((fun (u2_4_1 : Int32) (y4_1 : zS) => (some (u2_4_1, y4_1) : Option (Int32 × zS))) u2_4_1 y4_1) := by
    intro u2_4_1 y4_1
    show ZO K t 35 [none, none, some (.int u2_4_1), none] [] y4_1 (some (u2_4_1, y4_1))
    refine z_iload_n (pc := 35) F dX9_manyServed_35 rfl ?_
    exact z_iret (pc := 36) F E dX9_manyServed_36
  have L4_1 : ∀ (n4_1 : Nat) (v2_4_1 : Int32) (v3_4_1 : Int32) (w4_1 : zS), ZO K t 4 [some (.ref (zad K 21 0)), some (.int a1), some (.int v2_4_1), some (.int v3_4_1)] [] w4_1 (fX9_manyServed_4 a1 (fun (u2_4_1 : Int32) (y4_1 : zS) => (some (u2_4_1, y4_1) : Option (Int32 × zS))) n4_1 v2_4_1 v3_4_1 w4_1) := by
    revert hk4_1; generalize (fun (u2_4_1 : Int32) (y4_1 : zS) => (some (u2_4_1, y4_1) : Option (Int32 × zS))) = k4_1; intro hk4_1
    intro n4_1
    induction n4_1 with
    | zero => intro v2_4_1 v3_4_1 w4_1; exact z_none
    | succ n4_1 ih4_1 =>
      intro v2_4_1 v3_4_1 w4_1
      show ZO K t 4 [some (.ref (zad K 21 0)), some (.int a1), some (.int v2_4_1), some (.int v3_4_1)] [] w4_1 (if (w4_1 21 0 3) ≤ v3_4_1 then k4_1 v2_4_1 w4_1 else zCi (fX9_serves a1 v3_4_1 w4_1) (fun x3 s2 => if x3 = 0 then zB (v2_4_1 + (0 : Int32)) (fun x4 => zB (v3_4_1 + 1) (fun x5 => fX9_manyServed_4 a1 k4_1 n4_1 x4 x5 s2)) else zB (v2_4_1 + (1 : Int32)) (fun x6 => zB (v3_4_1 + 1) (fun x7 => fX9_manyServed_4 a1 k4_1 n4_1 x6 x7 s2))))
      refine z_iload_n (pc := 4) F dX9_manyServed_4 rfl ?_
      refine z_aload_n (pc := 5) F dX9_manyServed_5 rfl ?_
      refine z_get (pc := 6) F 21 0 3 (v := .int (w4_1 21 0 3)) (by decide) (fun _ => rfl) rfl (by decide) inlX9 lk_RX9_79 rfl dX9_manyServed_6 ?_
      refine z_icmp_ge (pc := 9) F 35 dX9_manyServed_9 (by decide) (fun h9 => ?_) (fun h9 => ?_)
      · refine z_wk [false, false, true, false] (lv' := [none, none, some (.int v2_4_1), none]) rfl ?_
        exact hk4_1 v2_4_1 w4_1
      · refine z_iload_n (pc := 12) F dX9_manyServed_12 rfl ?_
        refine z_aload_n (pc := 13) F dX9_manyServed_13 rfl ?_
        refine z_iload_n (pc := 14) F dX9_manyServed_14 rfl ?_
        refine z_iload_n (pc := 15) F dX9_manyServed_15 rfl ?_
        refine z_callVi (pc := 16) (st := [.int v2_4_1]) F 21 0 [.int a1, .int v3_4_1] cl_RX9_112 (tX9_serves (zln K) w4_1 a1 v3_4_1) rfl (by decide) (fun _ => ⟨_, rfl⟩) rfl (by rw [hR]; exact ⟨rfl, rfl, Nat.le_of_ble_eq_true rfl, Nat.le_of_ble_eq_true rfl⟩) rfl rfl (Nat.le_of_ble_eq_true rfl) dX9_manyServed_16 (fun x3 s2 => ?_)
        refine z_if_eq (pc := 19) F 26 dX9_manyServed_19 (by decide) (fun h8 => ?_) (fun h8 => ?_)
        · refine z_iconst (pc := 26) F (v := 0) dX9_manyServed_26 (by decide) ?_
          refine z_iadd (pc := 27) F dX9_manyServed_27 ?_
          refine z_Bi (fun x4 => ?_)
          refine z_istore_n (pc := 28) F (lv' := [some (.ref (zad K 21 0)), some (.int a1), some (.int x4), some (.int v3_4_1)]) dX9_manyServed_28 (zlt rfl) rfl ?_
          refine z_iincB (pc := 29) F (lv' := fun x5 => [some (.ref (zad K 21 0)), some (.int a1), some (.int x4), some (.int x5)]) dX9_manyServed_29 rfl rfl (fun _ => rfl) (fun x5 => ?_)
          refine z_goto (pc := 32) F 4 dX9_manyServed_32 (by decide) ?_
          exact ih4_1 x4 x5 s2
        · refine z_iconst (pc := 22) F (v := 1) dX9_manyServed_22 (by decide) ?_
          refine z_goto (pc := 23) F 27 dX9_manyServed_23 (by decide) ?_
          refine z_iadd (pc := 27) F dX9_manyServed_27 ?_
          refine z_Bi (fun x6 => ?_)
          refine z_istore_n (pc := 28) F (lv' := [some (.ref (zad K 21 0)), some (.int a1), some (.int x6), some (.int v3_4_1)]) dX9_manyServed_28 (zlt rfl) rfl ?_
          refine z_iincB (pc := 29) F (lv' := fun x7 => [some (.ref (zad K 21 0)), some (.int a1), some (.int x6), some (.int x7)]) dX9_manyServed_29 rfl rfl (fun _ => rfl) (fun x7 => ?_)
          refine z_goto (pc := 32) F 4 dX9_manyServed_32 (by decide) ?_
          exact ih4_1 x6 x7 s2
  exact L4_1 zN (0 : Int32) (0 : Int32) σ
def fX9_isBetter (a1 : Int32) (a2 : Int32) (σ : zS) : Option (Int32 × zS) := zCi (fX9_manyServed a1 σ) (fun x2 s1 => zCi (fX9_manyServed a2 s1) (fun x4 s3 => zB (x2 - x4) (fun x5 => if a2 = 0 then some ((1 : Int32), s3) else if 0 < x5 then some ((1 : Int32), s3) else if x5 = 0 then zCi (fX9_size a1 s3) (fun x7 s6 => zCi (fX9_size a2 s6) (fun x9 s8 => if x9 ≤ x7 then some ((0 : Int32), s8) else some ((1 : Int32), s8))) else some ((0 : Int32), s3))))
abbrev rmX9_isBetter : Room := { frames := 4, cells := 0, slots := 0, locals := 92 }
set_option maxRecDepth 100000 in
set_option maxHeartbeats 4000000 in
theorem tX9_isBetter (l : Launch) (σ : zS) (a1 : Int32) (a2 : Int32) : zMi l yX9_isBetter cX9_isBetter 4 (some .boolean) rmX9_isBetter (fun ad => [.ref (ad 21 0), .int a1, .int a2]) σ (fX9_isBetter a1 a2 σ) := by
  refine zMi.of RX9 (by decide +kernel) rfl (fun _ => Nat.le_of_ble_eq_true rfl) (fun _ => zcat rfl) (fun K t F hR hL E => ?_)
  show ZO K t 0 [some (.ref (zad K 21 0)), some (.int a1), some (.int a2), none] [] σ (zCi (fX9_manyServed a1 σ) (fun x2 s1 => zCi (fX9_manyServed a2 s1) (fun x4 s3 => zB (x2 - x4) (fun x5 => if a2 = 0 then some ((1 : Int32), s3) else if 0 < x5 then some ((1 : Int32), s3) else if x5 = 0 then zCi (fX9_size a1 s3) (fun x7 s6 => zCi (fX9_size a2 s6) (fun x9 s8 => if x9 ≤ x7 then some ((0 : Int32), s8) else some ((1 : Int32), s8))) else some ((0 : Int32), s3)))))
  refine z_aload_n (pc := 0) F dX9_isBetter_0 rfl ?_
  refine z_iload_n (pc := 1) F dX9_isBetter_1 rfl ?_
  refine z_callVi (pc := 2) (st := []) F 21 0 [.int a1] cl_RX9_118 (tX9_manyServed (zln K) σ a1) rfl (by decide) (fun _ => ⟨_, rfl⟩) rfl (by rw [hR]; exact ⟨rfl, rfl, Nat.le_of_ble_eq_true rfl, Nat.le_of_ble_eq_true rfl⟩) rfl rfl (Nat.le_of_ble_eq_true rfl) dX9_isBetter_2 (fun x2 s1 => ?_)
  refine z_aload_n (pc := 5) F dX9_isBetter_5 rfl ?_
  refine z_iload_n (pc := 6) F dX9_isBetter_6 rfl ?_
  refine z_callVi (pc := 7) (st := [.int x2]) F 21 0 [.int a2] cl_RX9_118 (tX9_manyServed (zln K) s1 a2) rfl (by decide) (fun _ => ⟨_, rfl⟩) rfl (by rw [hR]; exact ⟨rfl, rfl, Nat.le_of_ble_eq_true rfl, Nat.le_of_ble_eq_true rfl⟩) rfl rfl (Nat.le_of_ble_eq_true rfl) dX9_isBetter_7 (fun x4 s3 => ?_)
  refine z_isub (pc := 10) F dX9_isBetter_10 ?_
  refine z_Bi (fun x5 => ?_)
  refine z_istore_n (pc := 11) F (lv' := [some (.ref (zad K 21 0)), some (.int a1), some (.int a2), some (.int x5)]) dX9_isBetter_11 (zlt rfl) rfl ?_
  refine z_iload_n (pc := 12) F dX9_isBetter_12 rfl ?_
  refine z_if_eq (pc := 13) F 35 dX9_isBetter_13 (by decide) (fun h13 => ?_) (fun h13 => ?_)
  · refine z_iconst (pc := 35) F (v := 1) dX9_isBetter_35 (by decide) ?_
    refine z_goto (pc := 36) F 40 dX9_isBetter_36 (by decide) ?_
    exact z_zret (pc := 40) F E (by decide) dX9_isBetter_40
  · refine z_iload_n (pc := 16) F dX9_isBetter_16 rfl ?_
    refine z_if_gt (pc := 17) F 35 dX9_isBetter_17 (by decide) (fun h12 => ?_) (fun h12 => ?_)
    · refine z_iconst (pc := 35) F (v := 1) dX9_isBetter_35 (by decide) ?_
      refine z_goto (pc := 36) F 40 dX9_isBetter_36 (by decide) ?_
      exact z_zret (pc := 40) F E (by decide) dX9_isBetter_40
    · refine z_iload_n (pc := 20) F dX9_isBetter_20 rfl ?_
      refine z_if_ne (pc := 21) F 39 dX9_isBetter_21 (by decide) (fun h11 => ?_) (fun h11 => ?_)
      · refine z_iconst (pc := 39) F (v := 0) dX9_isBetter_39 (by decide) ?_
        exact z_zret (pc := 40) F E (by decide) dX9_isBetter_40
      · refine z_iload_n (pc := 24) F dX9_isBetter_24 rfl ?_
        refine z_callSi (pc := 25) (st := []) F [.int a1] cl_RX9_102 (tX9_size (zln K) s3 a1) rfl (by rw [hR]; exact ⟨rfl, rfl, Nat.le_of_ble_eq_true rfl, Nat.le_of_ble_eq_true rfl⟩) rfl rfl (Nat.le_of_ble_eq_true rfl) dX9_isBetter_25 (fun x7 s6 => ?_)
        refine z_iload_n (pc := 28) F dX9_isBetter_28 rfl ?_
        refine z_callSi (pc := 29) (st := [.int x7]) F [.int a2] cl_RX9_102 (tX9_size (zln K) s6 a2) rfl (by rw [hR]; exact ⟨rfl, rfl, Nat.le_of_ble_eq_true rfl, Nat.le_of_ble_eq_true rfl⟩) rfl rfl (Nat.le_of_ble_eq_true rfl) dX9_isBetter_29 (fun x9 s8 => ?_)
        refine z_icmp_ge (pc := 32) F 39 dX9_isBetter_32 (by decide) (fun h10 => ?_) (fun h10 => ?_)
        · refine z_iconst (pc := 39) F (v := 0) dX9_isBetter_39 (by decide) ?_
          exact z_zret (pc := 40) F E (by decide) dX9_isBetter_40
        · refine z_iconst (pc := 35) F (v := 1) dX9_isBetter_35 (by decide) ?_
          refine z_goto (pc := 36) F 40 dX9_isBetter_36 (by decide) ?_
          exact z_zret (pc := 40) F E (by decide) dX9_isBetter_40
def fX9_bestSum_36 (u1_2_1 : Int32) (k36_2 : Int32 → zS → Option (Int32 × zS)) : Nat → Int32 → Int32 → zS → Option (Int32 × zS)
  | 0, _, _, _ => none
  | (n36_2 + 1), v2_36_2, v3_36_2, w36_2 => if (1024 : Int32) ≤ v3_36_2 then k36_2 v2_36_2 w36_2 else if (w36_2 21 0 3) ≤ u1_2_1 then k36_2 v2_36_2 w36_2 else zCi (fX9_isSum v3_36_2 w36_2) (fun x4 s3 => if x4 = 0 then zB (v3_36_2 + 1) (fun x5 => fX9_bestSum_36 u1_2_1 k36_2 n36_2 v2_36_2 x5 s3) else zCi (fX9_size v3_36_2 s3) (fun x7 s6 => if (s6 21 0 7) < x7 then zB (v3_36_2 + 1) (fun x8 => fX9_bestSum_36 u1_2_1 k36_2 n36_2 v2_36_2 x8 s6) else zCi (fX9_serves v3_36_2 u1_2_1 s6) (fun x10 s9 => if x10 = 0 then zB (v3_36_2 + 1) (fun x11 => fX9_bestSum_36 u1_2_1 k36_2 n36_2 v2_36_2 x11 s9) else zCi (fX9_isBetter v3_36_2 v2_36_2 s9) (fun x13 s12 => if x13 = 0 then zB (v3_36_2 + 1) (fun x14 => fX9_bestSum_36 u1_2_1 k36_2 n36_2 v2_36_2 x14 s12) else zB (v3_36_2 + 1) (fun x15 => fX9_bestSum_36 u1_2_1 k36_2 n36_2 v3_36_2 x15 s12)))))
def fX9_bestSum_2 (k2_1 : Int32 → zS → Option (Int32 × zS)) : Nat → Int32 → zS → Option (Int32 × zS)
  | 0, _, _ => none
  | (n2_1 + 1), v1_2_1, w2_1 => if (w2_1 21 0 3) ≤ v1_2_1 then k2_1 v1_2_1 w2_1 else zIx v1_2_1 16 (zCi (fX9_isIn (w2_1 21 0 6) (w2_1 25 0 v1_2_1.toNatClampNeg) w2_1) (fun x24 s23 => if x24 = 0 then zB (v1_2_1 + 1) (fun x25 => fX9_bestSum_2 k2_1 n2_1 x25 s23) else k2_1 v1_2_1 s23))
def fX9_bestSum (σ : zS) : Option (Int32 × zS) := fX9_bestSum_2 (fun (u1_2_1 : Int32) (y2_1 : zS) => (fX9_bestSum_36 u1_2_1 (fun (u2_36_2 : Int32) (y36_2 : zS) => (some (u2_36_2, y36_2) : Option (Int32 × zS))) zN (0 : Int32) (1 : Int32) y2_1 : Option (Int32 × zS))) zN (0 : Int32) σ
abbrev rmX9_bestSum : Room := { frames := 5, cells := 0, slots := 0, locals := 115 }
set_option maxRecDepth 100000 in
set_option maxHeartbeats 4000000 in
theorem tX9_bestSum (l : Launch) (σ : zS) : zMi l yX9_bestSum cX9_bestSum 4 (some .int) rmX9_bestSum (fun ad => [.ref (ad 21 0)]) σ (fX9_bestSum σ) := by
  refine zMi.of RX9 (by decide +kernel) rfl (fun _ => Nat.le_of_ble_eq_true rfl) (fun _ => zcat rfl) (fun K t F hR hL E => ?_)
  show ZO K t 0 [some (.ref (zad K 21 0)), none, none, none] [] σ (fX9_bestSum_2 (fun (u1_2_1 : Int32) (y2_1 : zS) => (fX9_bestSum_36 u1_2_1 (fun (u2_36_2 : Int32) (y36_2 : zS) => (some (u2_36_2, y36_2) : Option (Int32 × zS))) zN (0 : Int32) (1 : Int32) y2_1 : Option (Int32 × zS))) zN (0 : Int32) σ)
  refine z_iconst (pc := 0) F (v := 0) dX9_bestSum_0 (by decide) ?_
  refine z_istore_n (pc := 1) F (lv' := [some (.ref (zad K 21 0)), some (.int (0 : Int32)), none, none]) dX9_bestSum_1 (zlt rfl) rfl ?_
  have hk2_1 : ∀ (u1_2_1 : Int32) (y2_1 : zS), ZO K t 32 [some (.ref (zad K 21 0)), some (.int u1_2_1), none, none] [] y2_1 ((fun (u1_2_1 : Int32) (y2_1 : zS) => (fX9_bestSum_36 u1_2_1 (fun (u2_36_2 : Int32) (y36_2 : zS) => (some (u2_36_2, y36_2) : Option (Int32 × zS))) zN (0 : Int32) (1 : Int32) y2_1 : Option (Int32 × zS))) u1_2_1 y2_1) := by
    intro u1_2_1 y2_1
    show ZO K t 32 [some (.ref (zad K 21 0)), some (.int u1_2_1), none, none] [] y2_1 (fX9_bestSum_36 u1_2_1 (fun (u2_36_2 : Int32) (y36_2 : zS) => (some (u2_36_2, y36_2) : Option (Int32 × zS))) zN (0 : Int32) (1 : Int32) y2_1)
    refine z_iconst (pc := 32) F (v := 0) dX9_bestSum_32 (by decide) ?_
    refine z_istore_n (pc := 33) F (lv' := [some (.ref (zad K 21 0)), some (.int u1_2_1), some (.int (0 : Int32)), none]) dX9_bestSum_33 (zlt rfl) rfl ?_
    refine z_iconst (pc := 34) F (v := 1) dX9_bestSum_34 (by decide) ?_
    refine z_istore_n (pc := 35) F (lv' := [some (.ref (zad K 21 0)), some (.int u1_2_1), some (.int (0 : Int32)), some (.int (1 : Int32))]) dX9_bestSum_35 (zlt rfl) rfl ?_
    have hk36_2 : ∀ (u2_36_2 : Int32) (y36_2 : zS), ZO K t 96 [none, none, some (.int u2_36_2), none] [] y36_2 ((fun (u2_36_2 : Int32) (y36_2 : zS) => (some (u2_36_2, y36_2) : Option (Int32 × zS))) u2_36_2 y36_2) := by
      intro u2_36_2 y36_2
      show ZO K t 96 [none, none, some (.int u2_36_2), none] [] y36_2 (some (u2_36_2, y36_2))
      refine z_iload_n (pc := 96) F dX9_bestSum_96 rfl ?_
      exact z_iret (pc := 97) F E dX9_bestSum_97
    have L36_2 : ∀ (n36_2 : Nat) (v2_36_2 : Int32) (v3_36_2 : Int32) (w36_2 : zS), ZO K t 36 [some (.ref (zad K 21 0)), some (.int u1_2_1), some (.int v2_36_2), some (.int v3_36_2)] [] w36_2 (fX9_bestSum_36 u1_2_1 (fun (u2_36_2 : Int32) (y36_2 : zS) => (some (u2_36_2, y36_2) : Option (Int32 × zS))) n36_2 v2_36_2 v3_36_2 w36_2) := by
      revert hk36_2; generalize (fun (u2_36_2 : Int32) (y36_2 : zS) => (some (u2_36_2, y36_2) : Option (Int32 × zS))) = k36_2; intro hk36_2
      intro n36_2
      induction n36_2 with
      | zero => intro v2_36_2 v3_36_2 w36_2; exact z_none
      | succ n36_2 ih36_2 =>
        intro v2_36_2 v3_36_2 w36_2
        show ZO K t 36 [some (.ref (zad K 21 0)), some (.int u1_2_1), some (.int v2_36_2), some (.int v3_36_2)] [] w36_2 (if (1024 : Int32) ≤ v3_36_2 then k36_2 v2_36_2 w36_2 else if (w36_2 21 0 3) ≤ u1_2_1 then k36_2 v2_36_2 w36_2 else zCi (fX9_isSum v3_36_2 w36_2) (fun x4 s3 => if x4 = 0 then zB (v3_36_2 + 1) (fun x5 => fX9_bestSum_36 u1_2_1 k36_2 n36_2 v2_36_2 x5 s3) else zCi (fX9_size v3_36_2 s3) (fun x7 s6 => if (s6 21 0 7) < x7 then zB (v3_36_2 + 1) (fun x8 => fX9_bestSum_36 u1_2_1 k36_2 n36_2 v2_36_2 x8 s6) else zCi (fX9_serves v3_36_2 u1_2_1 s6) (fun x10 s9 => if x10 = 0 then zB (v3_36_2 + 1) (fun x11 => fX9_bestSum_36 u1_2_1 k36_2 n36_2 v2_36_2 x11 s9) else zCi (fX9_isBetter v3_36_2 v2_36_2 s9) (fun x13 s12 => if x13 = 0 then zB (v3_36_2 + 1) (fun x14 => fX9_bestSum_36 u1_2_1 k36_2 n36_2 v2_36_2 x14 s12) else zB (v3_36_2 + 1) (fun x15 => fX9_bestSum_36 u1_2_1 k36_2 n36_2 v3_36_2 x15 s12))))))
        refine z_iload_n (pc := 36) F dX9_bestSum_36 rfl ?_
        refine z_sipush (pc := 37) F (v := 1024) dX9_bestSum_37 (by decide) ?_
        refine z_icmp_ge (pc := 40) F 96 dX9_bestSum_40 (by decide) (fun h21 => ?_) (fun h21 => ?_)
        · refine z_wk [false, false, true, false] (lv' := [none, none, some (.int v2_36_2), none]) rfl ?_
          exact hk36_2 v2_36_2 w36_2
        · refine z_iload_n (pc := 43) F dX9_bestSum_43 rfl ?_
          refine z_aload_n (pc := 44) F dX9_bestSum_44 rfl ?_
          refine z_get (pc := 45) F 21 0 3 (v := .int (w36_2 21 0 3)) (by decide) (fun _ => rfl) rfl (by decide) inlX9 lk_RX9_79 rfl dX9_bestSum_45 ?_
          refine z_icmp_ge (pc := 48) F 96 dX9_bestSum_48 (by decide) (fun h20 => ?_) (fun h20 => ?_)
          · refine z_wk [false, false, true, false] (lv' := [none, none, some (.int v2_36_2), none]) rfl ?_
            exact hk36_2 v2_36_2 w36_2
          · refine z_aload_n (pc := 51) F dX9_bestSum_51 rfl ?_
            refine z_iload_n (pc := 52) F dX9_bestSum_52 rfl ?_
            refine z_callVi (pc := 53) (st := []) F 21 0 [.int v3_36_2] cl_RX9_106 (tX9_isSum (zln K) w36_2 v3_36_2) rfl (by decide) (fun _ => ⟨_, rfl⟩) rfl (by rw [hR]; exact ⟨rfl, rfl, Nat.le_of_ble_eq_true rfl, Nat.le_of_ble_eq_true rfl⟩) rfl rfl (Nat.le_of_ble_eq_true rfl) dX9_bestSum_53 (fun x4 s3 => ?_)
            refine z_if_eq (pc := 56) F 90 dX9_bestSum_56 (by decide) (fun h19 => ?_) (fun h19 => ?_)
            · refine z_iincB (pc := 90) F (lv' := fun x5 => [some (.ref (zad K 21 0)), some (.int u1_2_1), some (.int v2_36_2), some (.int x5)]) dX9_bestSum_90 rfl rfl (fun _ => rfl) (fun x5 => ?_)
              refine z_goto (pc := 93) F 36 dX9_bestSum_93 (by decide) ?_
              exact ih36_2 v2_36_2 x5 s3
            · refine z_iload_n (pc := 59) F dX9_bestSum_59 rfl ?_
              refine z_callSi (pc := 60) (st := []) F [.int v3_36_2] cl_RX9_102 (tX9_size (zln K) s3 v3_36_2) rfl (by rw [hR]; exact ⟨rfl, rfl, Nat.le_of_ble_eq_true rfl, Nat.le_of_ble_eq_true rfl⟩) rfl rfl (Nat.le_of_ble_eq_true rfl) dX9_bestSum_60 (fun x7 s6 => ?_)
              refine z_aload_n (pc := 63) F dX9_bestSum_63 rfl ?_
              refine z_get (pc := 64) F 21 0 7 (v := .int (s6 21 0 7)) (by decide) (fun _ => rfl) rfl (by decide) inlX9 lk_RX9_26 rfl dX9_bestSum_64 ?_
              refine z_icmp_gt (pc := 67) F 90 dX9_bestSum_67 (by decide) (fun h18 => ?_) (fun h18 => ?_)
              · refine z_iincB (pc := 90) F (lv' := fun x8 => [some (.ref (zad K 21 0)), some (.int u1_2_1), some (.int v2_36_2), some (.int x8)]) dX9_bestSum_90 rfl rfl (fun _ => rfl) (fun x8 => ?_)
                refine z_goto (pc := 93) F 36 dX9_bestSum_93 (by decide) ?_
                exact ih36_2 v2_36_2 x8 s6
              · refine z_aload_n (pc := 70) F dX9_bestSum_70 rfl ?_
                refine z_iload_n (pc := 71) F dX9_bestSum_71 rfl ?_
                refine z_iload_n (pc := 72) F dX9_bestSum_72 rfl ?_
                refine z_callVi (pc := 73) (st := []) F 21 0 [.int v3_36_2, .int u1_2_1] cl_RX9_112 (tX9_serves (zln K) s6 v3_36_2 u1_2_1) rfl (by decide) (fun _ => ⟨_, rfl⟩) rfl (by rw [hR]; exact ⟨rfl, rfl, Nat.le_of_ble_eq_true rfl, Nat.le_of_ble_eq_true rfl⟩) rfl rfl (Nat.le_of_ble_eq_true rfl) dX9_bestSum_73 (fun x10 s9 => ?_)
                refine z_if_eq (pc := 76) F 90 dX9_bestSum_76 (by decide) (fun h17 => ?_) (fun h17 => ?_)
                · refine z_iincB (pc := 90) F (lv' := fun x11 => [some (.ref (zad K 21 0)), some (.int u1_2_1), some (.int v2_36_2), some (.int x11)]) dX9_bestSum_90 rfl rfl (fun _ => rfl) (fun x11 => ?_)
                  refine z_goto (pc := 93) F 36 dX9_bestSum_93 (by decide) ?_
                  exact ih36_2 v2_36_2 x11 s9
                · refine z_aload_n (pc := 79) F dX9_bestSum_79 rfl ?_
                  refine z_iload_n (pc := 80) F dX9_bestSum_80 rfl ?_
                  refine z_iload_n (pc := 81) F dX9_bestSum_81 rfl ?_
                  refine z_callVi (pc := 82) (st := []) F 21 0 [.int v3_36_2, .int v2_36_2] cl_RX9_124 (tX9_isBetter (zln K) s9 v3_36_2 v2_36_2) rfl (by decide) (fun _ => ⟨_, rfl⟩) rfl (by rw [hR]; exact ⟨rfl, rfl, Nat.le_of_ble_eq_true rfl, Nat.le_of_ble_eq_true rfl⟩) rfl rfl (Nat.le_of_ble_eq_true rfl) dX9_bestSum_82 (fun x13 s12 => ?_)
                  refine z_if_eq (pc := 85) F 90 dX9_bestSum_85 (by decide) (fun h16 => ?_) (fun h16 => ?_)
                  · refine z_iincB (pc := 90) F (lv' := fun x14 => [some (.ref (zad K 21 0)), some (.int u1_2_1), some (.int v2_36_2), some (.int x14)]) dX9_bestSum_90 rfl rfl (fun _ => rfl) (fun x14 => ?_)
                    refine z_goto (pc := 93) F 36 dX9_bestSum_93 (by decide) ?_
                    exact ih36_2 v2_36_2 x14 s12
                  · refine z_iload_n (pc := 88) F dX9_bestSum_88 rfl ?_
                    refine z_istore_n (pc := 89) F (lv' := [some (.ref (zad K 21 0)), some (.int u1_2_1), some (.int v3_36_2), some (.int v3_36_2)]) dX9_bestSum_89 (zlt rfl) rfl ?_
                    refine z_iincB (pc := 90) F (lv' := fun x15 => [some (.ref (zad K 21 0)), some (.int u1_2_1), some (.int v3_36_2), some (.int x15)]) dX9_bestSum_90 rfl rfl (fun _ => rfl) (fun x15 => ?_)
                    refine z_goto (pc := 93) F 36 dX9_bestSum_93 (by decide) ?_
                    exact ih36_2 v3_36_2 x15 s12
    exact L36_2 zN (0 : Int32) (1 : Int32) y2_1
  have L2_1 : ∀ (n2_1 : Nat) (v1_2_1 : Int32) (w2_1 : zS), ZO K t 2 [some (.ref (zad K 21 0)), some (.int v1_2_1), none, none] [] w2_1 (fX9_bestSum_2 (fun (u1_2_1 : Int32) (y2_1 : zS) => (fX9_bestSum_36 u1_2_1 (fun (u2_36_2 : Int32) (y36_2 : zS) => (some (u2_36_2, y36_2) : Option (Int32 × zS))) zN (0 : Int32) (1 : Int32) y2_1 : Option (Int32 × zS))) n2_1 v1_2_1 w2_1) := by
    revert hk2_1; generalize (fun (u1_2_1 : Int32) (y2_1 : zS) => (fX9_bestSum_36 u1_2_1 (fun (u2_36_2 : Int32) (y36_2 : zS) => (some (u2_36_2, y36_2) : Option (Int32 × zS))) zN (0 : Int32) (1 : Int32) y2_1 : Option (Int32 × zS))) = k2_1; intro hk2_1
    intro n2_1
    induction n2_1 with
    | zero => intro v1_2_1 w2_1; exact z_none
    | succ n2_1 ih2_1 =>
      intro v1_2_1 w2_1
      show ZO K t 2 [some (.ref (zad K 21 0)), some (.int v1_2_1), none, none] [] w2_1 (if (w2_1 21 0 3) ≤ v1_2_1 then k2_1 v1_2_1 w2_1 else zIx v1_2_1 16 (zCi (fX9_isIn (w2_1 21 0 6) (w2_1 25 0 v1_2_1.toNatClampNeg) w2_1) (fun x24 s23 => if x24 = 0 then zB (v1_2_1 + 1) (fun x25 => fX9_bestSum_2 k2_1 n2_1 x25 s23) else k2_1 v1_2_1 s23)))
      refine z_iload_n (pc := 2) F dX9_bestSum_2 rfl ?_
      refine z_aload_n (pc := 3) F dX9_bestSum_3 rfl ?_
      refine z_get (pc := 4) F 21 0 3 (v := .int (w2_1 21 0 3)) (by decide) (fun _ => rfl) rfl (by decide) inlX9 lk_RX9_79 rfl dX9_bestSum_4 ?_
      refine z_icmp_ge (pc := 7) F 32 dX9_bestSum_7 (by decide) (fun h27 => ?_) (fun h27 => ?_)
      · exact hk2_1 v1_2_1 w2_1
      · refine z_aload_n (pc := 10) F dX9_bestSum_10 rfl ?_
        refine z_get (pc := 11) F 21 0 6 (v := .int (w2_1 21 0 6)) (by decide) (fun _ => rfl) rfl (by decide) inlX9 lk_RX9_22 rfl dX9_bestSum_11 ?_
        refine z_aload_n (pc := 14) F dX9_bestSum_14 rfl ?_
        refine z_get (pc := 15) F 21 0 5 (v := .ref (zad K 25 0)) (by decide) (fun _ => rfl) rfl (by decide) inlX9 lk_RX9_19 rfl dX9_bestSum_15 ?_
        refine z_iload_n (pc := 18) F dX9_bestSum_18 rfl ?_
        refine z_ix (fun h22 => ?_)
        refine z_iald (pc := 19) F 25 0 (by decide) (fun _ => rfl) h22 dX9_bestSum_19 ?_
        refine z_callSi (pc := 20) (st := []) F [.int (w2_1 21 0 6), .int (w2_1 25 0 v1_2_1.toNatClampNeg)] cl_RX9_75 (tX9_isIn (zln K) w2_1 (w2_1 21 0 6) (w2_1 25 0 v1_2_1.toNatClampNeg)) rfl (by rw [hR]; exact ⟨rfl, rfl, Nat.le_of_ble_eq_true rfl, Nat.le_of_ble_eq_true rfl⟩) rfl rfl (Nat.le_of_ble_eq_true rfl) dX9_bestSum_20 (fun x24 s23 => ?_)
        refine z_if_ne (pc := 23) F 32 dX9_bestSum_23 (by decide) (fun h26 => ?_) (fun h26 => ?_)
        · exact hk2_1 v1_2_1 s23
        · refine z_iincB (pc := 26) F (lv' := fun x25 => [some (.ref (zad K 21 0)), some (.int x25), none, none]) dX9_bestSum_26 rfl rfl (fun _ => rfl) (fun x25 => ?_)
          refine z_goto (pc := 29) F 2 dX9_bestSum_29 (by decide) ?_
          exact ih2_1 x25 s23
  exact L2_1 zN (0 : Int32) σ
