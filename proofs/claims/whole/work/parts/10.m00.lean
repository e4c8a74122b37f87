def fX0_cut (a1 : Int32) (σ : zS) : Option (Int32 × zS) := if (2 : Int32) ≤ (σ 9 0 0) then zGd (¬ (σ 9 0 0) = 0) (some (a1 / (σ 9 0 0), σ)) else some ((0 : Int32), σ)
abbrev rmX0_cut : Room := { frames := 0, cells := 0, slots := 0, locals := 0 }
set_option maxRecDepth 100000 in
set_option maxHeartbeats 4000000 in
theorem tX0_cut (l : Launch) (σ : zS) (a1 : Int32) : zMi l yX0_cut cX0_cut 2 (some .int) rmX0_cut (fun ad => [.ref (ad 9 0), .int a1]) σ (fX0_cut a1 σ) := by
  refine zMi.of RX0 (by decide +kernel) rfl (fun _ => Nat.le_of_ble_eq_true rfl) (fun _ => zcat rfl) (fun K t F hR hL E => ?_)
  show ZO K t 0 [some (.ref (zad K 9 0)), some (.int a1)] [] σ (if (2 : Int32) ≤ (σ 9 0 0) then zGd (¬ (σ 9 0 0) = 0) (some (a1 / (σ 9 0 0), σ)) else some ((0 : Int32), σ))
  refine z_aload_n (pc := 0) F dX0_cut_0 rfl ?_
  refine z_get (pc := 1) F 9 0 0 (v := .int (σ 9 0 0)) (by decide) (fun _ => rfl) rfl (by decide) inlX0 lk_RX0_9 rfl dX0_cut_1 ?_
  refine z_iconst (pc := 4) F (v := 2) dX0_cut_4 (by decide) ?_
  refine z_icmp_ge (pc := 5) F 12 dX0_cut_5 (by decide) (fun h2 => ?_) (fun h2 => ?_)
  · refine z_iload_n (pc := 12) F dX0_cut_12 rfl ?_
    refine z_aload_n (pc := 13) F dX0_cut_13 rfl ?_
    refine z_get (pc := 14) F 9 0 0 (v := .int (σ 9 0 0)) (by decide) (fun _ => rfl) rfl (by decide) inlX0 lk_RX0_9 rfl dX0_cut_14 ?_
    refine z_gd (fun h1 => ?_)
    refine z_idiv (pc := 17) F h1 dX0_cut_17 ?_
    exact z_iret (pc := 18) F E dX0_cut_18
  · refine z_iconst (pc := 8) F (v := 0) dX0_cut_8 (by decide) ?_
    refine z_goto (pc := 9) F 18 dX0_cut_9 (by decide) ?_
    exact z_iret (pc := 18) F E dX0_cut_18
def fJ9_floorMod_7cf53 (a1 : Int32) (a2 : Int32) (σ : zS) : Option (Int32 × zS) := zGd (¬ a2 = 0) (zB (a1 - a1 / a2 * a2) (fun x2 => if 0 ≤ (a1 ^^^ a2) then some (x2, σ) else if x2 = 0 then some (x2, σ) else some (x2 + a2, σ)))
abbrev rmJ9_floorMod_7cf53 : Room := { frames := 0, cells := 0, slots := 0, locals := 0 }
set_option maxRecDepth 100000 in
set_option maxHeartbeats 4000000 in
theorem tJ9_floorMod_7cf53 (l : Launch) (σ : zS) (a1 : Int32) (a2 : Int32) : zMi l yJ9_floorMod_7cf53 cJ9_floorMod_7cf53 3 (some .int) rmJ9_floorMod_7cf53 (fun _ => [.int a1, .int a2]) σ (fJ9_floorMod_7cf53 a1 a2 σ) := by
  refine zMi.of RJ9 (by decide +kernel) rfl (fun _ => Nat.le_of_ble_eq_true rfl) (fun _ => zcat rfl) (fun K t F hR hL E => ?_)
  show ZO K t 0 [some (.int a1), some (.int a2), none] [] σ (zGd (¬ a2 = 0) (zB (a1 - a1 / a2 * a2) (fun x2 => if 0 ≤ (a1 ^^^ a2) then some (x2, σ) else if x2 = 0 then some (x2, σ) else some (x2 + a2, σ))))
  refine z_iload_n (pc := 0) F dJ9_floorMod_7cf53_0 rfl ?_
  refine z_iload_n (pc := 1) F dJ9_floorMod_7cf53_1 rfl ?_
  refine z_gd (fun h1 => ?_)
  refine z_irem (pc := 2) F h1 dJ9_floorMod_7cf53_2 ?_
  refine z_Bi (fun x2 => ?_)
  refine z_istore_n (pc := 3) F (lv' := [some (.int a1), some (.int a2), some (.int x2)]) dJ9_floorMod_7cf53_3 (zlt rfl) rfl ?_
  refine z_iload_n (pc := 4) F dJ9_floorMod_7cf53_4 rfl ?_
  refine z_iload_n (pc := 5) F dJ9_floorMod_7cf53_5 rfl ?_
  refine z_ixor (pc := 6) F dJ9_floorMod_7cf53_6 ?_
  refine z_if_ge (pc := 7) F 18 dJ9_floorMod_7cf53_7 (by decide) (fun h4 => ?_) (fun h4 => ?_)
  · refine z_iload_n (pc := 18) F dJ9_floorMod_7cf53_18 rfl ?_
    exact z_iret (pc := 19) F E dJ9_floorMod_7cf53_19
  · refine z_iload_n (pc := 10) F dJ9_floorMod_7cf53_10 rfl ?_
    refine z_if_eq (pc := 11) F 18 dJ9_floorMod_7cf53_11 (by decide) (fun h3 => ?_) (fun h3 => ?_)
    · refine z_iload_n (pc := 18) F dJ9_floorMod_7cf53_18 rfl ?_
      exact z_iret (pc := 19) F E dJ9_floorMod_7cf53_19
    · refine z_iload_n (pc := 14) F dJ9_floorMod_7cf53_14 rfl ?_
      refine z_iload_n (pc := 15) F dJ9_floorMod_7cf53_15 rfl ?_
      refine z_iadd (pc := 16) F dJ9_floorMod_7cf53_16 ?_
      exact z_iret (pc := 17) F E dJ9_floorMod_7cf53_17
def fX0_left (a1 : Int32) (σ : zS) : Option (Int32 × zS) := if (2 : Int32) ≤ (σ 9 0 0) then zCi (fJ9_floorMod_7cf53 a1 (σ 9 0 0) σ) (fun x2 s1 => some (x2, s1)) else some ((0 : Int32), σ)
abbrev rmX0_left : Room := { frames := 1, cells := 0, slots := 0, locals := 22 }
set_option maxRecDepth 100000 in
set_option maxHeartbeats 4000000 in
theorem tX0_left (l : Launch) (σ : zS) (a1 : Int32) : zMi l yX0_left cX0_left 2 (some .int) rmX0_left (fun ad => [.ref (ad 9 0), .int a1]) σ (fX0_left a1 σ) := by
  refine zMi.of RX0 (by decide +kernel) rfl (fun _ => Nat.le_of_ble_eq_true rfl) (fun _ => zcat rfl) (fun K t F hR hL E => ?_)
  show ZO K t 0 [some (.ref (zad K 9 0)), some (.int a1)] [] σ (if (2 : Int32) ≤ (σ 9 0 0) then zCi (fJ9_floorMod_7cf53 a1 (σ 9 0 0) σ) (fun x2 s1 => some (x2, s1)) else some ((0 : Int32), σ))
  refine z_aload_n (pc := 0) F dX0_left_0 rfl ?_
  refine z_get (pc := 1) F 9 0 0 (v := .int (σ 9 0 0)) (by decide) (fun _ => rfl) rfl (by decide) inlX0 lk_RX0_9 rfl dX0_left_1 ?_
  refine z_iconst (pc := 4) F (v := 2) dX0_left_4 (by decide) ?_
  refine z_icmp_ge (pc := 5) F 12 dX0_left_5 (by decide) (fun h3 => ?_) (fun h3 => ?_)
  · refine z_iload_n (pc := 12) F dX0_left_12 rfl ?_
    refine z_aload_n (pc := 13) F dX0_left_13 rfl ?_
    refine z_get (pc := 14) F 9 0 0 (v := .int (σ 9 0 0)) (by decide) (fun _ => rfl) rfl (by decide) inlX0 lk_RX0_9 rfl dX0_left_14 ?_
    refine z_callSi (pc := 17) (st := []) F [.int a1, .int (σ 9 0 0)] cl_RX0_18 (tJ9_floorMod_7cf53 (zln K) σ a1 (σ 9 0 0)) rfl (by rw [hR]; exact ⟨rfl, rfl, Nat.le_of_ble_eq_true rfl, Nat.le_of_ble_eq_true rfl⟩) rfl rfl (Nat.le_of_ble_eq_true rfl) dX0_left_17 (fun x2 s1 => ?_)
    exact z_iret (pc := 20) F E dX0_left_20
  · refine z_iconst (pc := 8) F (v := 0) dX0_left_8 (by decide) ?_
    refine z_goto (pc := 9) F 20 dX0_left_9 (by decide) ?_
    exact z_iret (pc := 20) F E dX0_left_20
def fX0_inverse_2 (a1 : Int32) (k2_1 : zS → Option (Int32 × zS)) : Nat → Int32 → zS → Option (Int32 × zS)
  | 0, _, _ => none
  | (n2_1 + 1), v2_2_1, w2_1 => if (w2_1 9 0 0) ≤ v2_2_1 then k2_1 w2_1 else zCi (fX0_left (v2_2_1 * a1) w2_1) (fun x3 s2 => if x3 = (1 : Int32) then some (v2_2_1, s2) else zB (v2_2_1 + 1) (fun x4 => fX0_inverse_2 a1 k2_1 n2_1 x4 s2))
def fX0_inverse (a1 : Int32) (σ : zS) : Option (Int32 × zS) := fX0_inverse_2 a1 (fun (y2_1 : zS) => (some ((0 : Int32), y2_1) : Option (Int32 × zS))) zN (1 : Int32) σ
abbrev rmX0_inverse : Room := { frames := 2, cells := 0, slots := 0, locals := 43 }
set_option maxRecDepth 100000 in
set_option maxHeartbeats 4000000 in
theorem tX0_inverse (l : Launch) (σ : zS) (a1 : Int32) : zMi l yX0_inverse cX0_inverse 3 (some .int) rmX0_inverse (fun ad => [.ref (ad 9 0), .int a1]) σ (fX0_inverse a1 σ) := by
  refine zMi.of RX0 (by decide +kernel) rfl (fun _ => Nat.le_of_ble_eq_true rfl) (fun _ => zcat rfl) (fun K t F hR hL E => ?_)
  show ZO K t 0 [some (.ref (zad K 9 0)), some (.int a1), none] [] σ (fX0_inverse_2 a1 (fun (y2_1 : zS) => (some ((0 : Int32), y2_1) : Option (Int32 × zS))) zN (1 : Int32) σ)
  refine z_iconst (pc := 0) F (v := 1) dX0_inverse_0 (by decide) ?_
  refine z_istore_n (pc := 1) F (lv' := [some (.ref (zad K 9 0)), some (.int a1), some (.int (1 : Int32))]) dX0_inverse_1 (zlt rfl) rfl ?_
  have hk2_1 : ∀ (y2_1 : zS), ZO K t 29 [none, none, none] [] y2_1 ((fun (y2_1 : zS) => (some ((0 : Int32), y2_1) : Option (Int32 × zS))) y2_1) := by
    intro y2_1
    show ZO K t 29 [none, none, none] [] y2_1 (some ((0 : Int32), y2_1))
    refine z_iconst (pc := 29) F (v := 0) dX0_inverse_29 (by decide) ?_
    exact z_iret (pc := 30) F E dX0_inverse_30
  have L2_1 : ∀ (n2_1 : Nat) (v2_2_1 : Int32) (w2_1 : zS), ZO K t 2 [some (.ref (zad K 9 0)), some (.int a1), some (.int v2_2_1)] [] w2_1 (fX0_inverse_2 a1 (fun (y2_1 : zS) => (some ((0 : Int32), y2_1) : Option (Int32 × zS))) n2_1 v2_2_1 w2_1) := by
    revert hk2_1; generalize (fun (y2_1 : zS) => (some ((0 : Int32), y2_1) : Option (Int32 × zS))) = k2_1; intro hk2_1
    intro n2_1
    induction n2_1 with
    | zero => intro v2_2_1 w2_1; exact z_none
    | succ n2_1 ih2_1 =>
      intro v2_2_1 w2_1
      show ZO K t 2 [some (.ref (zad K 9 0)), some (.int a1), some (.int v2_2_1)] [] w2_1 (if (w2_1 9 0 0) ≤ v2_2_1 then k2_1 w2_1 else zCi (fX0_left (v2_2_1 * a1) w2_1) (fun x3 s2 => if x3 = (1 : Int32) then some (v2_2_1, s2) else zB (v2_2_1 + 1) (fun x4 => fX0_inverse_2 a1 k2_1 n2_1 x4 s2)))
      refine z_iload_n (pc := 2) F dX0_inverse_2 rfl ?_
      refine z_aload_n (pc := 3) F dX0_inverse_3 rfl ?_
      refine z_get (pc := 4) F 9 0 0 (v := .int (w2_1 9 0 0)) (by decide) (fun _ => rfl) rfl (by decide) inlX0 lk_RX0_9 rfl dX0_inverse_4 ?_
      refine z_icmp_ge (pc := 7) F 29 dX0_inverse_7 (by decide) (fun h6 => ?_) (fun h6 => ?_)
      · refine z_wk [false, false, false] (lv' := [none, none, none]) rfl ?_
        exact hk2_1  w2_1
      · refine z_aload_n (pc := 10) F dX0_inverse_10 rfl ?_
        refine z_iload_n (pc := 11) F dX0_inverse_11 rfl ?_
        refine z_iload_n (pc := 12) F dX0_inverse_12 rfl ?_
        refine z_imul (pc := 13) F dX0_inverse_13 ?_
        refine z_callVi (pc := 14) (st := []) F 9 0 [.int (v2_2_1 * a1)] cl_RX0_24 (tX0_left (zln K) w2_1 (v2_2_1 * a1)) rfl (by decide) (fun _ => ⟨_, rfl⟩) rfl (by rw [hR]; exact ⟨rfl, rfl, Nat.le_of_ble_eq_true rfl, Nat.le_of_ble_eq_true rfl⟩) rfl rfl (Nat.le_of_ble_eq_true rfl) dX0_inverse_14 (fun x3 s2 => ?_)
        refine z_iconst (pc := 17) F (v := 1) dX0_inverse_17 (by decide) ?_
        refine z_icmp_ne (pc := 18) F 23 dX0_inverse_18 (by decide) (fun h5 => ?_) (fun h5 => ?_)
        · refine z_iincB (pc := 23) F (lv' := fun x4 => [some (.ref (zad K 9 0)), some (.int a1), some (.int x4)]) dX0_inverse_23 rfl rfl (fun _ => rfl) (fun x4 => ?_)
          refine z_goto (pc := 26) F 2 dX0_inverse_26 (by decide) ?_
          exact ih2_1 x4 s2
        · refine z_iload_n (pc := 21) F dX0_inverse_21 rfl ?_
          exact z_iret (pc := 22) F E dX0_inverse_22
  exact L2_1 zN (1 : Int32) σ
def fX0_nextDrawn (σ : zS) : Option (Int32 × zS) := zB (zU σ 9 0 1 (((69069 : Int32) * (σ 9 0 1)) + (12345 : Int32))) (fun s1 => zGd (¬ (16807 : Int32) = 0) (some ((((s1 9 0 1).toUInt32 >>> ((16 : Int32).toUInt32 &&& Int32.toUInt32 31)).toInt32) - (((s1 9 0 1).toUInt32 >>> ((16 : Int32).toUInt32 &&& Int32.toUInt32 31)).toInt32) / (16807 : Int32) * (16807 : Int32), s1)))
abbrev rmX0_nextDrawn : Room := { frames := 0, cells := 0, slots := 0, locals := 0 }
set_option maxRecDepth 100000 in
set_option maxHeartbeats 4000000 in
theorem tX0_nextDrawn (l : Launch) (σ : zS) : zMi l yX0_nextDrawn cX0_nextDrawn 1 (some .int) rmX0_nextDrawn (fun ad => [.ref (ad 9 0)]) σ (fX0_nextDrawn σ) := by
  refine zMi.of RX0 (by decide +kernel) rfl (fun _ => Nat.le_of_ble_eq_true rfl) (fun _ => zcat rfl) (fun K t F hR hL E => ?_)
  show ZO K t 0 [some (.ref (zad K 9 0))] [] σ (zB (zU σ 9 0 1 (((69069 : Int32) * (σ 9 0 1)) + (12345 : Int32))) (fun s1 => zGd (¬ (16807 : Int32) = 0) (some ((((s1 9 0 1).toUInt32 >>> ((16 : Int32).toUInt32 &&& Int32.toUInt32 31)).toInt32) - (((s1 9 0 1).toUInt32 >>> ((16 : Int32).toUInt32 &&& Int32.toUInt32 31)).toInt32) / (16807 : Int32) * (16807 : Int32), s1))))
  refine z_aload_n (pc := 0) F dX0_nextDrawn_0 rfl ?_
  refine z_ldci (pc := 1) F (v := 69069) kc_RX0_28 dX0_nextDrawn_1 ?_
  refine z_aload_n (pc := 3) F dX0_nextDrawn_3 rfl ?_
  refine z_get (pc := 4) F 9 0 1 (v := .int (σ 9 0 1)) (by decide) (fun _ => rfl) rfl (by decide) inlX0 lk_RX0_15 rfl dX0_nextDrawn_4 ?_
  refine z_imul (pc := 7) F dX0_nextDrawn_7 ?_
  refine z_sipush (pc := 8) F (v := 12345) dX0_nextDrawn_8 (by decide) ?_
  refine z_iadd (pc := 11) F dX0_nextDrawn_11 ?_
  refine z_put (pc := 12) F 9 0 1 tyX0 tyX0_ok nmX0 (by decide) (fun _ => rfl) rfl (by decide) inlX0 lk_RX0_15 rfl (by decide +kernel) (fun _ => Nat.le_of_ble_eq_true rfl) (fun _ => rfl) dX0_nextDrawn_12 (fun s1 => ?_)
  refine z_aload_n (pc := 15) F dX0_nextDrawn_15 rfl ?_
  refine z_get (pc := 16) F 9 0 1 (v := .int (s1 9 0 1)) (by decide) (fun _ => rfl) rfl (by decide) inlX0 lk_RX0_15 rfl dX0_nextDrawn_16 ?_
  refine z_bipush (pc := 19) F (v := 16) dX0_nextDrawn_19 (by decide) ?_
  refine z_iushr (pc := 21) F dX0_nextDrawn_21 ?_
  refine z_sipush (pc := 22) F (v := 16807) dX0_nextDrawn_22 (by decide) ?_
  refine z_gd (fun h2 => ?_)
  refine z_irem (pc := 25) F h2 dX0_nextDrawn_25 ?_
  exact z_iret (pc := 26) F E dX0_nextDrawn_26
def fX3_height_4 (nd : Nat) (k4_1 : Int32 → zS → Option (Int32 × zS)) : Nat → Int32 → Int32 → zS → Option (Int32 × zS)
  | 0, _, _, _ => none
  | (n4_1 + 1), v1_4_1, v2_4_1, w4_1 => if (5 : Int32) ≤ v2_4_1 then k4_1 v1_4_1 w4_1 else zIx v2_4_1 5 (if (w4_1 17 nd v2_4_1.toNatClampNeg) = 0 then zB (v2_4_1 + 1) (fun x3 => fX3_height_4 nd k4_1 n4_1 v1_4_1 x3 w4_1) else zB (v1_4_1 + 1) (fun x4 => zB (v2_4_1 + 1) (fun x5 => fX3_height_4 nd k4_1 n4_1 x4 x5 w4_1)))
def fX3_height (nd : Nat) (σ : zS) : Option (Int32 × zS) := fX3_height_4 nd (fun (u1_4_1 : Int32) (y4_1 : zS) => (some (u1_4_1, y4_1) : Option (Int32 × zS))) zN (0 : Int32) (0 : Int32) σ
abbrev rmX3_height : Room := { frames := 0, cells := 0, slots := 0, locals := 0 }
set_option maxRecDepth 100000 in
set_option maxHeartbeats 4000000 in
theorem tX3_height (l : Launch) (σ : zS) (nd : Nat) (h_nd : nd < 12) : zMi l yX3_height cX3_height 3 (some .int) rmX3_height (fun ad => [.ref (ad 15 nd)]) σ (fX3_height nd σ) := by
  refine zMi.of RX3 (by decide +kernel) rfl (fun _ => Nat.le_of_ble_eq_true rfl) (fun _ => zcat rfl) (fun K t F hR hL E => ?_)
  show ZO K t 0 [some (.ref (zad K 15 nd)), none, none] [] σ (fX3_height_4 nd (fun (u1_4_1 : Int32) (y4_1 : zS) => (some (u1_4_1, y4_1) : Option (Int32 × zS))) zN (0 : Int32) (0 : Int32) σ)
  refine z_iconst (pc := 0) F (v := 0) dX3_height_0 (by decide) ?_
  refine z_istore_n (pc := 1) F (lv' := [some (.ref (zad K 15 nd)), some (.int (0 : Int32)), none]) dX3_height_1 (zlt rfl) rfl ?_
  refine z_iconst (pc := 2) F (v := 0) dX3_height_2 (by decide) ?_
  refine z_istore_n (pc := 3) F (lv' := [some (.ref (zad K 15 nd)), some (.int (0 : Int32)), some (.int (0 : Int32))]) dX3_height_3 (zlt rfl) rfl ?_
  have hk4_1 : ∀ (u1_4_1 : Int32) (y4_1 : zS), ZO K t 27 [none, some (.int u1_4_1), none] [] y4_1 ((fun (u1_4_1 : Int32) (y4_1 : zS) => (some (u1_4_1, y4_1) : Option (Int32 × zS))) u1_4_1 y4_1) := by
    intro u1_4_1 y4_1
    show ZO K t 27 [none, some (.int u1_4_1), none] [] y4_1 (some (u1_4_1, y4_1))
    refine z_iload_n (pc := 27) F dX3_height_27 rfl ?_
    exact z_iret (pc := 28) F E dX3_height_28
  have L4_1 : ∀ (n4_1 : Nat) (v1_4_1 : Int32) (v2_4_1 : Int32) (w4_1 : zS), ZO K t 4 [some (.ref (zad K 15 nd)), some (.int v1_4_1), some (.int v2_4_1)] [] w4_1 (fX3_height_4 nd (fun (u1_4_1 : Int32) (y4_1 : zS) => (some (u1_4_1, y4_1) : Option (Int32 × zS))) n4_1 v1_4_1 v2_4_1 w4_1) := by
    revert hk4_1; generalize (fun (u1_4_1 : Int32) (y4_1 : zS) => (some (u1_4_1, y4_1) : Option (Int32 × zS))) = k4_1; intro hk4_1
    intro n4_1
    induction n4_1 with
    | zero => intro v1_4_1 v2_4_1 w4_1; exact z_none
    | succ n4_1 ih4_1 =>
      intro v1_4_1 v2_4_1 w4_1
      show ZO K t 4 [some (.ref (zad K 15 nd)), some (.int v1_4_1), some (.int v2_4_1)] [] w4_1 (if (5 : Int32) ≤ v2_4_1 then k4_1 v1_4_1 w4_1 else zIx v2_4_1 5 (if (w4_1 17 nd v2_4_1.toNatClampNeg) = 0 then zB (v2_4_1 + 1) (fun x3 => fX3_height_4 nd k4_1 n4_1 v1_4_1 x3 w4_1) else zB (v1_4_1 + 1) (fun x4 => zB (v2_4_1 + 1) (fun x5 => fX3_height_4 nd k4_1 n4_1 x4 x5 w4_1))))
      refine z_iload_n (pc := 4) F dX3_height_4 rfl ?_
      refine z_iconst (pc := 5) F (v := 5) dX3_height_5 (by decide) ?_
      refine z_icmp_ge (pc := 6) F 27 dX3_height_6 (by decide) (fun h7 => ?_) (fun h7 => ?_)
      · refine z_wk [false, true, false] (lv' := [none, some (.int v1_4_1), none]) rfl ?_
        exact hk4_1 v1_4_1 w4_1
      · refine z_aload_n (pc := 9) F dX3_height_9 rfl ?_
        refine z_get (pc := 10) F 15 nd 1 (v := .ref (zad K 17 nd)) h_nd (fun _ => rfl) rfl (by decide) inlX3 lk_RX3_16 rfl dX3_height_10 ?_
        refine z_iload_n (pc := 13) F dX3_height_13 rfl ?_
        refine z_ix (fun h2 => ?_)
        refine z_zald (pc := 14) F 17 nd h_nd (fun _ => rfl) h2 dX3_height_14 ?_
        refine z_if_eq (pc := 15) F 21 dX3_height_15 (by decide) (fun h6 => ?_) (fun h6 => ?_)
        · refine z_iincB (pc := 21) F (lv' := fun x3 => [some (.ref (zad K 15 nd)), some (.int v1_4_1), some (.int x3)]) dX3_height_21 rfl rfl (fun _ => rfl) (fun x3 => ?_)
          refine z_goto (pc := 24) F 4 dX3_height_24 (by decide) ?_
          exact ih4_1 v1_4_1 x3 w4_1
        · refine z_iincB (pc := 18) F (lv' := fun x4 => [some (.ref (zad K 15 nd)), some (.int x4), some (.int v2_4_1)]) dX3_height_18 rfl rfl (fun _ => rfl) (fun x4 => ?_)
          refine z_iincB (pc := 21) F (lv' := fun x5 => [some (.ref (zad K 15 nd)), some (.int x4), some (.int x5)]) dX3_height_21 rfl rfl (fun _ => rfl) (fun x5 => ?_)
          refine z_goto (pc := 24) F 4 dX3_height_24 (by decide) ?_
          exact ih4_1 x4 x5 w4_1
  exact L4_1 zN (0 : Int32) (0 : Int32) σ
def fX1_isDone_2 (gi : Nat) (k2_1 : zS → Option (Int32 × zS)) : Nat → Int32 → zS → Option (Int32 × zS)
  | 0, _, _ => none
  | (n2_1 + 1), v1_2_1, w2_1 => if (4 : Int32) ≤ v1_2_1 then k2_1 w2_1 else zIx v1_2_1 4 (zB (4 * gi + v1_2_1.toNatClampNeg) (fun i3 => zGd (i3 < 12) (zCi (fX3_height i3 w2_1) (fun x6 s5 => if (s5 13 gi 2) ≤ x6 then zB (v1_2_1 + 1) (fun x7 => fX1_isDone_2 gi k2_1 n2_1 x7 s5) else some ((0 : Int32), s5)))))
def fX1_isDone (gi : Nat) (σ : zS) : Option (Int32 × zS) := fX1_isDone_2 gi (fun (y2_1 : zS) => (some ((1 : Int32), y2_1) : Option (Int32 × zS))) zN (0 : Int32) σ
abbrev rmX1_isDone : Room := { frames := 1, cells := 0, slots := 0, locals := 22 }
set_option maxRecDepth 100000 in
set_option maxHeartbeats 4000000 in
theorem tX1_isDone (l : Launch) (σ : zS) (gi : Nat) (h_gi : gi < 3) : zMi l yX1_isDone cX1_isDone 2 (some .boolean) rmX1_isDone (fun ad => [.ref (ad 13 gi)]) σ (fX1_isDone gi σ) := by
  refine zMi.of RX1 (by decide +kernel) rfl (fun _ => Nat.le_of_ble_eq_true rfl) (fun _ => zcat rfl) (fun K t F hR hL E => ?_)
  show ZO K t 0 [some (.ref (zad K 13 gi)), none] [] σ (fX1_isDone_2 gi (fun (y2_1 : zS) => (some ((1 : Int32), y2_1) : Option (Int32 × zS))) zN (0 : Int32) σ)
  refine z_iconst (pc := 0) F (v := 0) dX1_isDone_0 (by decide) ?_
  refine z_istore_n (pc := 1) F (lv' := [some (.ref (zad K 13 gi)), some (.int (0 : Int32))]) dX1_isDone_1 (zlt rfl) rfl ?_
  have hk2_1 : ∀ (y2_1 : zS), ZO K t 31 [none, none] [] y2_1 ((fun (y2_1 : zS) => (some ((1 : Int32), y2_1) : Option (Int32 × zS))) y2_1) := by
    intro y2_1
    show ZO K t 31 [none, none] [] y2_1 (some ((1 : Int32), y2_1))
    refine z_iconst (pc := 31) F (v := 1) dX1_isDone_31 (by decide) ?_
    exact z_zret (pc := 32) F E (by decide) dX1_isDone_32
  have L2_1 : ∀ (n2_1 : Nat) (v1_2_1 : Int32) (w2_1 : zS), ZO K t 2 [some (.ref (zad K 13 gi)), some (.int v1_2_1)] [] w2_1 (fX1_isDone_2 gi (fun (y2_1 : zS) => (some ((1 : Int32), y2_1) : Option (Int32 × zS))) n2_1 v1_2_1 w2_1) := by
    revert hk2_1; generalize (fun (y2_1 : zS) => (some ((1 : Int32), y2_1) : Option (Int32 × zS))) = k2_1; intro hk2_1
    intro n2_1
    induction n2_1 with
    | zero => intro v1_2_1 w2_1; exact z_none
    | succ n2_1 ih2_1 =>
      intro v1_2_1 w2_1
      show ZO K t 2 [some (.ref (zad K 13 gi)), some (.int v1_2_1)] [] w2_1 (if (4 : Int32) ≤ v1_2_1 then k2_1 w2_1 else zIx v1_2_1 4 (zB (4 * gi + v1_2_1.toNatClampNeg) (fun i3 => zGd (i3 < 12) (zCi (fX3_height i3 w2_1) (fun x6 s5 => if (s5 13 gi 2) ≤ x6 then zB (v1_2_1 + 1) (fun x7 => fX1_isDone_2 gi k2_1 n2_1 x7 s5) else some ((0 : Int32), s5))))))
      refine z_iload_n (pc := 2) F dX1_isDone_2 rfl ?_
      refine z_iconst (pc := 3) F (v := 4) dX1_isDone_3 (by decide) ?_
      refine z_icmp_ge (pc := 4) F 31 dX1_isDone_4 (by decide) (fun h9 => ?_) (fun h9 => ?_)
      · refine z_wk [false, false] (lv' := [none, none]) rfl ?_
        exact hk2_1  w2_1
      · refine z_aload_n (pc := 7) F dX1_isDone_7 rfl ?_
        refine z_get (pc := 8) F 13 gi 0 (v := .ref (zad K 14 gi)) h_gi (fun _ => rfl) rfl (by decide) inlX1 lk_RX1_11 rfl dX1_isDone_8 ?_
        refine z_iload_n (pc := 11) F dX1_isDone_11 rfl ?_
        refine z_ix (fun h2 => ?_)
        refine z_aald (pc := 12) F 14 gi 15 (4 * gi + v1_2_1.toNatClampNeg) 3 h_gi (fun _ => rfl) (fun _ => rfl) rfl h2 (fun _ => rfl) dX1_isDone_12 ?_
        refine z_Br (fun i3 => ?_)
        refine z_gd (fun h4 => ?_)
        refine z_callNi (pc := 13) (st := []) F 15 i3 [] cl_RX1_28 (tX3_height (zln K) w2_1 i3 h4) rfl h4 (fun _ => ⟨_, rfl⟩) rfl (by rw [hR]; exact ⟨rfl, rfl, Nat.le_of_ble_eq_true rfl, Nat.le_of_ble_eq_true rfl⟩) rfl rfl (Nat.le_of_ble_eq_true rfl) dX1_isDone_13 (fun x6 s5 => ?_)
        refine z_aload_n (pc := 16) F dX1_isDone_16 rfl ?_
        refine z_get (pc := 17) F 13 gi 2 (v := .int (s5 13 gi 2)) h_gi (fun _ => rfl) rfl (by decide) inlX1 lk_RX1_22 rfl dX1_isDone_17 ?_
        refine z_icmp_ge (pc := 20) F 25 dX1_isDone_20 (by decide) (fun h8 => ?_) (fun h8 => ?_)
        · refine z_iincB (pc := 25) F (lv' := fun x7 => [some (.ref (zad K 13 gi)), some (.int x7)]) dX1_isDone_25 rfl rfl (fun _ => rfl) (fun x7 => ?_)
          refine z_goto (pc := 28) F 2 dX1_isDone_28 (by decide) ?_
          exact ih2_1 x7 s5
        · refine z_iconst (pc := 23) F (v := 0) dX1_isDone_23 (by decide) ?_
          exact z_zret (pc := 24) F E (by decide) dX1_isDone_24
  exact L2_1 zN (0 : Int32) σ
def fX3_clear_2 (nd : Nat) (k2_1 : zS → Option (Int32 × zS)) : Nat → Int32 → zS → Option (Int32 × zS)
  | 0, _, _ => none
  | (n2_1 + 1), v1_2_1, w2_1 => if (5 : Int32) ≤ v1_2_1 then k2_1 w2_1 else zIx v1_2_1 5 (zB (zU w2_1 17 nd v1_2_1.toNatClampNeg (vp_nar .boolean (0 : Int32))) (fun s3 => zB (v1_2_1 + 1) (fun x4 => fX3_clear_2 nd k2_1 n2_1 x4 s3)))
def fX3_clear (nd : Nat) (σ : zS) : Option (Int32 × zS) := fX3_clear_2 nd (fun (y2_1 : zS) => (some ((0 : Int32), y2_1) : Option (Int32 × zS))) zN (0 : Int32) σ
abbrev rmX3_clear : Room := { frames := 0, cells := 0, slots := 0, locals := 0 }
set_option maxRecDepth 100000 in
set_option maxHeartbeats 4000000 in
theorem tX3_clear (l : Launch) (σ : zS) (nd : Nat) (h_nd : nd < 12) : zMv l yX3_clear cX3_clear 2 none rmX3_clear (fun ad => [.ref (ad 15 nd)]) σ (fX3_clear nd σ) := by
  refine zMv.of RX3 (by decide +kernel) rfl (fun _ => Nat.le_of_ble_eq_true rfl) (fun _ => zcat rfl) (fun K t F hR hL E => ?_)
  show ZO K t 0 [some (.ref (zad K 15 nd)), none] [] σ (fX3_clear_2 nd (fun (y2_1 : zS) => (some ((0 : Int32), y2_1) : Option (Int32 × zS))) zN (0 : Int32) σ)
  refine z_iconst (pc := 0) F (v := 0) dX3_clear_0 (by decide) ?_
  refine z_istore_n (pc := 1) F (lv' := [some (.ref (zad K 15 nd)), some (.int (0 : Int32))]) dX3_clear_1 (zlt rfl) rfl ?_
  have hk2_1 : ∀ (y2_1 : zS), ZO K t 20 [none, none] [] y2_1 ((fun (y2_1 : zS) => (some ((0 : Int32), y2_1) : Option (Int32 × zS))) y2_1) := by
    intro y2_1
    show ZO K t 20 [none, none] [] y2_1 (some ((0 : Int32), y2_1))
    exact z_vret (pc := 20) (x := 0) F E dX3_clear_20
  have L2_1 : ∀ (n2_1 : Nat) (v1_2_1 : Int32) (w2_1 : zS), ZO K t 2 [some (.ref (zad K 15 nd)), some (.int v1_2_1)] [] w2_1 (fX3_clear_2 nd (fun (y2_1 : zS) => (some ((0 : Int32), y2_1) : Option (Int32 × zS))) n2_1 v1_2_1 w2_1) := by
    revert hk2_1; generalize (fun (y2_1 : zS) => (some ((0 : Int32), y2_1) : Option (Int32 × zS))) = k2_1; intro hk2_1
    intro n2_1
    induction n2_1 with
    | zero => intro v1_2_1 w2_1; exact z_none
    | succ n2_1 ih2_1 =>
      intro v1_2_1 w2_1
      show ZO K t 2 [some (.ref (zad K 15 nd)), some (.int v1_2_1)] [] w2_1 (if (5 : Int32) ≤ v1_2_1 then k2_1 w2_1 else zIx v1_2_1 5 (zB (zU w2_1 17 nd v1_2_1.toNatClampNeg (vp_nar .boolean (0 : Int32))) (fun s3 => zB (v1_2_1 + 1) (fun x4 => fX3_clear_2 nd k2_1 n2_1 x4 s3))))
      refine z_iload_n (pc := 2) F dX3_clear_2 rfl ?_
      refine z_iconst (pc := 3) F (v := 5) dX3_clear_3 (by decide) ?_
      refine z_icmp_ge (pc := 4) F 20 dX3_clear_4 (by decide) (fun h5 => ?_) (fun h5 => ?_)
      · refine z_wk [false, false] (lv' := [none, none]) rfl ?_
        exact hk2_1  w2_1
      · refine z_aload_n (pc := 7) F dX3_clear_7 rfl ?_
        refine z_get (pc := 8) F 15 nd 1 (v := .ref (zad K 17 nd)) h_nd (fun _ => rfl) rfl (by decide) inlX3 lk_RX3_16 rfl dX3_clear_8 ?_
        refine z_iload_n (pc := 11) F dX3_clear_11 rfl ?_
        refine z_iconst (pc := 12) F (v := 0) dX3_clear_12 (by decide) ?_
        refine z_ix (fun h2 => ?_)
        refine z_zast (pc := 13) F 17 nd h_nd (fun _ _ => rfl) h2 dX3_clear_13 (fun s3 => ?_)
        refine z_iincB (pc := 14) F (lv' := fun x4 => [some (.ref (zad K 15 nd)), some (.int x4)]) dX3_clear_14 rfl rfl (fun _ => rfl) (fun x4 => ?_)
        refine z_goto (pc := 17) F 2 dX3_clear_17 (by decide) ?_
        exact ih2_1 x4 s3
  exact L2_1 zN (0 : Int32) σ
def fX1_renew_12 (gi : Nat) (k12_3 : zS → Option (Int32 × zS)) : Nat → Int32 → zS → Option (Int32 × zS)
  | 0, _, _ => none
  | (n12_3 + 1), v3_12_3, w12_3 => if (4 : Int32) ≤ v3_12_3 then k12_3 w12_3 else zIx v3_12_3 4 (zB (4 * gi + v3_12_3.toNatClampNeg) (fun i5 => zGd (i5 < 12) (zCv (fX3_clear i5 w12_3) (fun s7 => zB (v3_12_3 + 1) (fun x8 => fX1_renew_12 gi k12_3 n12_3 x8 s7)))))
def fX1_renew (gi : Nat) (a1 : Int32) (a2 : Int32) (σ : zS) : Option (Int32 × zS) := zB (zU σ 13 gi 1 a1) (fun s1 => zB (zU s1 13 gi 2 a2) (fun s2 => fX1_renew_12 gi (fun (y12_3 : zS) => (some ((0 : Int32), y12_3) : Option (Int32 × zS))) zN (0 : Int32) s2))
abbrev rmX1_renew : Room := { frames := 1, cells := 0, slots := 0, locals := 21 }
set_option maxRecDepth 100000 in
set_option maxHeartbeats 4000000 in
theorem tX1_renew (l : Launch) (σ : zS) (gi : Nat) (a1 : Int32) (a2 : Int32) (h_gi : gi < 3) : zMv l yX1_renew cX1_renew 4 none rmX1_renew (fun ad => [.ref (ad 13 gi), .int a1, .int a2]) σ (fX1_renew gi a1 a2 σ) := by
  refine zMv.of RX1 (by decide +kernel) rfl (fun _ => Nat.le_of_ble_eq_true rfl) (fun _ => zcat rfl) (fun K t F hR hL E => ?_)
  show ZO K t 0 [some (.ref (zad K 13 gi)), some (.int a1), some (.int a2), none] [] σ (zB (zU σ 13 gi 1 a1) (fun s1 => zB (zU s1 13 gi 2 a2) (fun s2 => fX1_renew_12 gi (fun (y12_3 : zS) => (some ((0 : Int32), y12_3) : Option (Int32 × zS))) zN (0 : Int32) s2)))
  refine z_aload_n (pc := 0) F dX1_renew_0 rfl ?_
  refine z_iload_n (pc := 1) F dX1_renew_1 rfl ?_
  refine z_put (pc := 2) F 13 gi 1 tyX1 tyX1_ok nmX1 h_gi (fun _ => rfl) rfl (by decide) inlX1 lk_RX1_18 rfl (by decide +kernel) (fun _ => Nat.le_of_ble_eq_true rfl) (fun _ => rfl) dX1_renew_2 (fun s1 => ?_)
  refine z_aload_n (pc := 5) F dX1_renew_5 rfl ?_
  refine z_iload_n (pc := 6) F dX1_renew_6 rfl ?_
  refine z_put (pc := 7) F 13 gi 2 tyX1 tyX1_ok nmX1 h_gi (fun _ => rfl) rfl (by decide) inlX1 lk_RX1_22 rfl (by decide +kernel) (fun _ => Nat.le_of_ble_eq_true rfl) (fun _ => rfl) dX1_renew_7 (fun s2 => ?_)
  refine z_iconst (pc := 10) F (v := 0) dX1_renew_10 (by decide) ?_
  refine z_istore_n (pc := 11) F (lv' := [some (.ref (zad K 13 gi)), some (.int a1), some (.int a2), some (.int (0 : Int32))]) dX1_renew_11 (zlt rfl) rfl ?_
  refine z_wk [true, false, false, true] (lv' := [some (.ref (zad K 13 gi)), none, none, some (.int (0 : Int32))]) rfl ?_
  have hk12_3 : ∀ (y12_3 : zS), ZO K t 32 [none, none, none, none] [] y12_3 ((fun (y12_3 : zS) => (some ((0 : Int32), y12_3) : Option (Int32 × zS))) y12_3) := by
    intro y12_3
    show ZO K t 32 [none, none, none, none] [] y12_3 (some ((0 : Int32), y12_3))
    exact z_vret (pc := 32) (x := 0) F E dX1_renew_32
  have L12_3 : ∀ (n12_3 : Nat) (v3_12_3 : Int32) (w12_3 : zS), ZO K t 12 [some (.ref (zad K 13 gi)), none, none, some (.int v3_12_3)] [] w12_3 (fX1_renew_12 gi (fun (y12_3 : zS) => (some ((0 : Int32), y12_3) : Option (Int32 × zS))) n12_3 v3_12_3 w12_3) := by
    revert hk12_3; generalize (fun (y12_3 : zS) => (some ((0 : Int32), y12_3) : Option (Int32 × zS))) = k12_3; intro hk12_3
    intro n12_3
    induction n12_3 with
    | zero => intro v3_12_3 w12_3; exact z_none
    | succ n12_3 ih12_3 =>
      intro v3_12_3 w12_3
      show ZO K t 12 [some (.ref (zad K 13 gi)), none, none, some (.int v3_12_3)] [] w12_3 (if (4 : Int32) ≤ v3_12_3 then k12_3 w12_3 else zIx v3_12_3 4 (zB (4 * gi + v3_12_3.toNatClampNeg) (fun i5 => zGd (i5 < 12) (zCv (fX3_clear i5 w12_3) (fun s7 => zB (v3_12_3 + 1) (fun x8 => fX1_renew_12 gi k12_3 n12_3 x8 s7))))))
      refine z_iload_n (pc := 12) F dX1_renew_12 rfl ?_
      refine z_iconst (pc := 13) F (v := 4) dX1_renew_13 (by decide) ?_
      refine z_icmp_ge (pc := 14) F 32 dX1_renew_14 (by decide) (fun h9 => ?_) (fun h9 => ?_)
      · refine z_wk [false, true, true, false] (lv' := [none, none, none, none]) rfl ?_
        exact hk12_3  w12_3
      · refine z_aload_n (pc := 17) F dX1_renew_17 rfl ?_
        refine z_get (pc := 18) F 13 gi 0 (v := .ref (zad K 14 gi)) h_gi (fun _ => rfl) rfl (by decide) inlX1 lk_RX1_11 rfl dX1_renew_18 ?_
        refine z_iload_n (pc := 21) F dX1_renew_21 rfl ?_
        refine z_ix (fun h4 => ?_)
        refine z_aald (pc := 22) F 14 gi 15 (4 * gi + v3_12_3.toNatClampNeg) 3 h_gi (fun _ => rfl) (fun _ => rfl) rfl h4 (fun _ => rfl) dX1_renew_22 ?_
        refine z_Br (fun i5 => ?_)
        refine z_gd (fun h6 => ?_)
        refine z_callNv (pc := 23) (st := []) F 15 i5 [] cl_RX1_25 (tX3_clear (zln K) w12_3 i5 h6) rfl h6 (fun _ => ⟨_, rfl⟩) rfl (by rw [hR]; exact ⟨rfl, rfl, Nat.le_of_ble_eq_true rfl, Nat.le_of_ble_eq_true rfl⟩) rfl rfl (Nat.le_of_ble_eq_true rfl) dX1_renew_23 (fun s7 => ?_)
        refine z_iincB (pc := 26) F (lv' := fun x8 => [some (.ref (zad K 13 gi)), none, none, some (.int x8)]) dX1_renew_26 rfl rfl (fun _ => rfl) (fun x8 => ?_)
        refine z_goto (pc := 29) F 12 dX1_renew_29 (by decide) ?_
        exact ih12_3 x8 s7
  exact L12_3 zN (0 : Int32) s2
def fX2_writeLetter_31 (a1 : Int32) (a2 : Int32) (k31_2 : zS → Option (Int32 × zS)) : Nat → Int32 → zS → Option (Int32 × zS)
  | 0, _, _ => none
  | (n31_2 + 1), v3_31_2, w31_2 => if (3 : Int32) ≤ v3_31_2 then k31_2 w31_2 else zCi (fX0_left (((a2.toUInt32 >>> (((2 : Int32) * (((3 : Int32) * a1) + v3_31_2)).toUInt32 &&& Int32.toUInt32 31)).toInt32) &&& (3 : Int32)) w31_2) (fun x4 s3 => zIx ((5 : Int32) + v3_31_2) 8 (zB (zU s3 18 60 ((5 : Int32) + v3_31_2).toNatClampNeg x4) (fun s6 => zB (v3_31_2 + 1) (fun x7 => fX2_writeLetter_31 a1 a2 k31_2 n31_2 x7 s6))))
def fX2_writeLetter_2 (a1 : Int32) (k2_1 : zS → Option (Int32 × zS)) : Nat → Int32 → zS → Option (Int32 × zS)
  | 0, _, _ => none
  | (n2_1 + 1), v3_2_1, w2_1 => if (5 : Int32) ≤ v3_2_1 then k2_1 w2_1 else if v3_2_1 = a1 then zIx v3_2_1 8 (zB (zU w2_1 18 60 v3_2_1.toNatClampNeg (1 : Int32)) (fun s13 => zB (v3_2_1 + 1) (fun x14 => fX2_writeLetter_2 a1 k2_1 n2_1 x14 s13))) else zIx v3_2_1 8 (zB (zU w2_1 18 60 v3_2_1.toNatClampNeg (0 : Int32)) (fun s10 => zB (v3_2_1 + 1) (fun x11 => fX2_writeLetter_2 a1 k2_1 n2_1 x11 s10)))
def fX2_writeLetter (a1 : Int32) (a2 : Int32) (σ : zS) : Option (Int32 × zS) := fX2_writeLetter_2 a1 (fun (y2_1 : zS) => (fX2_writeLetter_31 a1 a2 (fun (y31_2 : zS) => (some ((0 : Int32), y31_2) : Option (Int32 × zS))) zN (0 : Int32) y2_1 : Option (Int32 × zS))) zN (0 : Int32) σ
abbrev rmX2_writeLetter : Room := { frames := 2, cells := 0, slots := 0, locals := 43 }
set_option maxRecDepth 100000 in
set_option maxHeartbeats 4000000 in
theorem tX2_writeLetter (l : Launch) (σ : zS) (a1 : Int32) (a2 : Int32) : zMv l yX2_writeLetter cX2_writeLetter 4 none rmX2_writeLetter (fun ad => [.ref (ad 10 0), .int a1, .int a2]) σ (fX2_writeLetter a1 a2 σ) := by
  refine zMv.of RX2 (by decide +kernel) rfl (fun _ => Nat.le_of_ble_eq_true rfl) (fun _ => zcat rfl) (fun K t F hR hL E => ?_)
  show ZO K t 0 [some (.ref (zad K 10 0)), some (.int a1), some (.int a2), none] [] σ (fX2_writeLetter_2 a1 (fun (y2_1 : zS) => (fX2_writeLetter_31 a1 a2 (fun (y31_2 : zS) => (some ((0 : Int32), y31_2) : Option (Int32 × zS))) zN (0 : Int32) y2_1 : Option (Int32 × zS))) zN (0 : Int32) σ)
  refine z_iconst (pc := 0) F (v := 0) dX2_writeLetter_0 (by decide) ?_
  refine z_istore_n (pc := 1) F (lv' := [some (.ref (zad K 10 0)), some (.int a1), some (.int a2), some (.int (0 : Int32))]) dX2_writeLetter_1 (zlt rfl) rfl ?_
  have hk2_1 : ∀ (y2_1 : zS), ZO K t 29 [some (.ref (zad K 10 0)), some (.int a1), some (.int a2), none] [] y2_1 ((fun (y2_1 : zS) => (fX2_writeLetter_31 a1 a2 (fun (y31_2 : zS) => (some ((0 : Int32), y31_2) : Option (Int32 × zS))) zN (0 : Int32) y2_1 : Option (Int32 × zS))) y2_1) := by
    intro y2_1
    show ZO K t 29 [some (.ref (zad K 10 0)), some (.int a1), some (.int a2), none] [] y2_1 (fX2_writeLetter_31 a1 a2 (fun (y31_2 : zS) => (some ((0 : Int32), y31_2) : Option (Int32 × zS))) zN (0 : Int32) y2_1)
    refine z_iconst (pc := 29) F (v := 0) dX2_writeLetter_29 (by decide) ?_
    refine z_istore_n (pc := 30) F (lv' := [some (.ref (zad K 10 0)), some (.int a1), some (.int a2), some (.int (0 : Int32))]) dX2_writeLetter_30 (zlt rfl) rfl ?_
    have hk31_2 : ∀ (y31_2 : zS), ZO K t 68 [none, none, none, none] [] y31_2 ((fun (y31_2 : zS) => (some ((0 : Int32), y31_2) : Option (Int32 × zS))) y31_2) := by
      intro y31_2
      show ZO K t 68 [none, none, none, none] [] y31_2 (some ((0 : Int32), y31_2))
      exact z_vret (pc := 68) (x := 0) F E dX2_writeLetter_68
    have L31_2 : ∀ (n31_2 : Nat) (v3_31_2 : Int32) (w31_2 : zS), ZO K t 31 [some (.ref (zad K 10 0)), some (.int a1), some (.int a2), some (.int v3_31_2)] [] w31_2 (fX2_writeLetter_31 a1 a2 (fun (y31_2 : zS) => (some ((0 : Int32), y31_2) : Option (Int32 × zS))) n31_2 v3_31_2 w31_2) := by
      revert hk31_2; generalize (fun (y31_2 : zS) => (some ((0 : Int32), y31_2) : Option (Int32 × zS))) = k31_2; intro hk31_2
      intro n31_2
      induction n31_2 with
      | zero => intro v3_31_2 w31_2; exact z_none
      | succ n31_2 ih31_2 =>
        intro v3_31_2 w31_2
        show ZO K t 31 [some (.ref (zad K 10 0)), some (.int a1), some (.int a2), some (.int v3_31_2)] [] w31_2 (if (3 : Int32) ≤ v3_31_2 then k31_2 w31_2 else zCi (fX0_left (((a2.toUInt32 >>> (((2 : Int32) * (((3 : Int32) * a1) + v3_31_2)).toUInt32 &&& Int32.toUInt32 31)).toInt32) &&& (3 : Int32)) w31_2) (fun x4 s3 => zIx ((5 : Int32) + v3_31_2) 8 (zB (zU s3 18 60 ((5 : Int32) + v3_31_2).toNatClampNeg x4) (fun s6 => zB (v3_31_2 + 1) (fun x7 => fX2_writeLetter_31 a1 a2 k31_2 n31_2 x7 s6)))))
        refine z_iload_n (pc := 31) F dX2_writeLetter_31 rfl ?_
        refine z_iconst (pc := 32) F (v := 3) dX2_writeLetter_32 (by decide) ?_
        refine z_icmp_ge (pc := 33) F 68 dX2_writeLetter_33 (by decide) (fun h8 => ?_) (fun h8 => ?_)
        · refine z_wk [false, false, false, false] (lv' := [none, none, none, none]) rfl ?_
          exact hk31_2  w31_2
        · refine z_aload_n (pc := 36) F dX2_writeLetter_36 rfl ?_
          refine z_get (pc := 37) F 10 0 2 (v := .ref (zad K 18 60)) (by decide) (fun _ => rfl) rfl (by decide) inlX2 lk_RX2_17 rfl dX2_writeLetter_37 ?_
          refine z_iconst (pc := 40) F (v := 5) dX2_writeLetter_40 (by decide) ?_
          refine z_iload_n (pc := 41) F dX2_writeLetter_41 rfl ?_
          refine z_iadd (pc := 42) F dX2_writeLetter_42 ?_
          refine z_aload_n (pc := 43) F dX2_writeLetter_43 rfl ?_
          refine z_get (pc := 44) F 10 0 1 (v := .ref (zad K 9 0)) (by decide) (fun _ => rfl) rfl (by decide) inlX2 lk_RX2_25 rfl dX2_writeLetter_44 ?_
          refine z_iload_n (pc := 47) F dX2_writeLetter_47 rfl ?_
          refine z_iconst (pc := 48) F (v := 2) dX2_writeLetter_48 (by decide) ?_
          refine z_iconst (pc := 49) F (v := 3) dX2_writeLetter_49 (by decide) ?_
          refine z_iload_n (pc := 50) F dX2_writeLetter_50 rfl ?_
          refine z_imul (pc := 51) F dX2_writeLetter_51 ?_
          refine z_iload_n (pc := 52) F dX2_writeLetter_52 rfl ?_
          refine z_iadd (pc := 53) F dX2_writeLetter_53 ?_
          refine z_imul (pc := 54) F dX2_writeLetter_54 ?_
          refine z_iushr (pc := 55) F dX2_writeLetter_55 ?_
          refine z_iconst (pc := 56) F (v := 3) dX2_writeLetter_56 (by decide) ?_
          refine z_iand (pc := 57) F dX2_writeLetter_57 ?_
          refine z_callNi (pc := 58) (st := [.int ((5 : Int32) + v3_31_2), .ref (zad K 18 60)]) F 9 0 [.int (((a2.toUInt32 >>> (((2 : Int32) * (((3 : Int32) * a1) + v3_31_2)).toUInt32 &&& Int32.toUInt32 31)).toInt32) &&& (3 : Int32))] cl_RX2_61 (tX0_left (zln K) w31_2 (((a2.toUInt32 >>> (((2 : Int32) * (((3 : Int32) * a1) + v3_31_2)).toUInt32 &&& Int32.toUInt32 31)).toInt32) &&& (3 : Int32))) rfl (by decide) (fun _ => ⟨_, rfl⟩) rfl (by rw [hR]; exact ⟨rfl, rfl, Nat.le_of_ble_eq_true rfl, Nat.le_of_ble_eq_true rfl⟩) rfl rfl (Nat.le_of_ble_eq_true rfl) dX2_writeLetter_58 (fun x4 s3 => ?_)
          refine z_ix (fun h5 => ?_)
          refine z_iast (pc := 61) F 18 60 (by decide) (fun _ _ => rfl) h5 dX2_writeLetter_61 (fun s6 => ?_)
          refine z_iincB (pc := 62) F (lv' := fun x7 => [some (.ref (zad K 10 0)), some (.int a1), some (.int a2), some (.int x7)]) dX2_writeLetter_62 rfl rfl (fun _ => rfl) (fun x7 => ?_)
          refine z_goto (pc := 65) F 31 dX2_writeLetter_65 (by decide) ?_
          exact ih31_2 x7 s6
    exact L31_2 zN (0 : Int32) y2_1
  have L2_1 : ∀ (n2_1 : Nat) (v3_2_1 : Int32) (w2_1 : zS), ZO K t 2 [some (.ref (zad K 10 0)), some (.int a1), some (.int a2), some (.int v3_2_1)] [] w2_1 (fX2_writeLetter_2 a1 (fun (y2_1 : zS) => (fX2_writeLetter_31 a1 a2 (fun (y31_2 : zS) => (some ((0 : Int32), y31_2) : Option (Int32 × zS))) zN (0 : Int32) y2_1 : Option (Int32 × zS))) n2_1 v3_2_1 w2_1) := by
    revert hk2_1; generalize (fun (y2_1 : zS) => (fX2_writeLetter_31 a1 a2 (fun (y31_2 : zS) => (some ((0 : Int32), y31_2) : Option (Int32 × zS))) zN (0 : Int32) y2_1 : Option (Int32 × zS))) = k2_1; intro hk2_1
    intro n2_1
    induction n2_1 with
    | zero => intro v3_2_1 w2_1; exact z_none
    | succ n2_1 ih2_1 =>
      intro v3_2_1 w2_1
      show ZO K t 2 [some (.ref (zad K 10 0)), some (.int a1), some (.int a2), some (.int v3_2_1)] [] w2_1 (if (5 : Int32) ≤ v3_2_1 then k2_1 w2_1 else if v3_2_1 = a1 then zIx v3_2_1 8 (zB (zU w2_1 18 60 v3_2_1.toNatClampNeg (1 : Int32)) (fun s13 => zB (v3_2_1 + 1) (fun x14 => fX2_writeLetter_2 a1 k2_1 n2_1 x14 s13))) else zIx v3_2_1 8 (zB (zU w2_1 18 60 v3_2_1.toNatClampNeg (0 : Int32)) (fun s10 => zB (v3_2_1 + 1) (fun x11 => fX2_writeLetter_2 a1 k2_1 n2_1 x11 s10))))
      refine z_iload_n (pc := 2) F dX2_writeLetter_2 rfl ?_
      refine z_iconst (pc := 3) F (v := 5) dX2_writeLetter_3 (by decide) ?_
      refine z_icmp_ge (pc := 4) F 29 dX2_writeLetter_4 (by decide) (fun h16 => ?_) (fun h16 => ?_)
      · refine z_wk [true, true, true, false] (lv' := [some (.ref (zad K 10 0)), some (.int a1), some (.int a2), none]) rfl ?_
        exact hk2_1  w2_1
      · refine z_aload_n (pc := 7) F dX2_writeLetter_7 rfl ?_
        refine z_get (pc := 8) F 10 0 2 (v := .ref (zad K 18 60)) (by decide) (fun _ => rfl) rfl (by decide) inlX2 lk_RX2_17 rfl dX2_writeLetter_8 ?_
        refine z_iload_n (pc := 11) F dX2_writeLetter_11 rfl ?_
        refine z_iload_n (pc := 12) F dX2_writeLetter_12 rfl ?_
        refine z_iload_n (pc := 13) F dX2_writeLetter_13 rfl ?_
        refine z_icmp_ne (pc := 14) F 21 dX2_writeLetter_14 (by decide) (fun h15 => ?_) (fun h15 => ?_)
        · refine z_iconst (pc := 21) F (v := 0) dX2_writeLetter_21 (by decide) ?_
          refine z_ix (fun h9 => ?_)
          refine z_iast (pc := 22) F 18 60 (by decide) (fun _ _ => rfl) h9 dX2_writeLetter_22 (fun s10 => ?_)
          refine z_iincB (pc := 23) F (lv' := fun x11 => [some (.ref (zad K 10 0)), some (.int a1), some (.int a2), some (.int x11)]) dX2_writeLetter_23 rfl rfl (fun _ => rfl) (fun x11 => ?_)
          refine z_goto (pc := 26) F 2 dX2_writeLetter_26 (by decide) ?_
          exact ih2_1 x11 s10
        · refine z_iconst (pc := 17) F (v := 1) dX2_writeLetter_17 (by decide) ?_
          refine z_goto (pc := 18) F 22 dX2_writeLetter_18 (by decide) ?_
          refine z_ix (fun h12 => ?_)
          refine z_iast (pc := 22) F 18 60 (by decide) (fun _ _ => rfl) h12 dX2_writeLetter_22 (fun s13 => ?_)
          refine z_iincB (pc := 23) F (lv' := fun x14 => [some (.ref (zad K 10 0)), some (.int a1), some (.int a2), some (.int x14)]) dX2_writeLetter_23 rfl rfl (fun _ => rfl) (fun x14 => ?_)
          refine z_goto (pc := 26) F 2 dX2_writeLetter_26 (by decide) ?_
          exact ih2_1 x14 s13
  exact L2_1 zN (0 : Int32) σ
def fX3_leftover_8 (nd : Nat) (r1 : Nat) (a3 : Int32) (k8_3 : Int32 → zS → Option (Int32 × zS)) : Nat → Int32 → Int32 → zS → Option (Int32 × zS)
  | 0, _, _, _ => none
  | (n8_3 + 1), v4_8_3, v5_8_3, w8_3 => if (5 : Int32) ≤ v5_8_3 then k8_3 v4_8_3 w8_3 else zIx v5_8_3 5 (if (w8_3 17 nd v5_8_3.toNatClampNeg) = 0 then zB (v5_8_3 + 1) (fun x7 => fX3_leftover_8 nd r1 a3 k8_3 n8_3 v4_8_3 x7 w8_3) else zIx v5_8_3 8 (zIx v5_8_3 5 (zB (5 * nd + v5_8_3.toNatClampNeg) (fun i10 => zGd (i10 < 61) (zIx a3 8 (zB (v4_8_3 - ((w8_3 18 r1 v5_8_3.toNatClampNeg) * (w8_3 18 i10 a3.toNatClampNeg))) (fun x13 => zB (v5_8_3 + 1) (fun x14 => fX3_leftover_8 nd r1 a3 k8_3 n8_3 x13 x14 w8_3))))))))
def fX3_leftover (nd : Nat) (r1 : Nat) (a3 : Int32) (σ : zS) : Option (Int32 × zS) := zIx a3 8 (zB (σ 18 r1 a3.toNatClampNeg) (fun x2 => fX3_leftover_8 nd r1 a3 (fun (u4_8_3 : Int32) (y8_3 : zS) => (zCi (fX0_left u4_8_3 y8_3) (fun x5 s4 => some (x5, s4)) : Option (Int32 × zS))) zN x2 (0 : Int32) σ))
abbrev rmX3_leftover : Room := { frames := 2, cells := 0, slots := 0, locals := 43 }
set_option maxRecDepth 100000 in
set_option maxHeartbeats 4000000 in
theorem tX3_leftover (l : Launch) (σ : zS) (nd : Nat) (r1 : Nat) (a3 : Int32) (h_nd : nd < 12) (h_r1 : r1 < 61) : zMi l yX3_leftover cX3_leftover 6 (some .int) rmX3_leftover (fun ad => [.ref (ad 15 nd), .ref (ad 18 r1), .ref (ad 9 0), .int a3]) σ (fX3_leftover nd r1 a3 σ) := by
  refine zMi.of RX3 (by decide +kernel) rfl (fun _ => Nat.le_of_ble_eq_true rfl) (fun _ => zcat rfl) (fun K t F hR hL E => ?_)
  show ZO K t 0 [some (.ref (zad K 15 nd)), some (.ref (zad K 18 r1)), some (.ref (zad K 9 0)), some (.int a3), none, none] [] σ (zIx a3 8 (zB (σ 18 r1 a3.toNatClampNeg) (fun x2 => fX3_leftover_8 nd r1 a3 (fun (u4_8_3 : Int32) (y8_3 : zS) => (zCi (fX0_left u4_8_3 y8_3) (fun x5 s4 => some (x5, s4)) : Option (Int32 × zS))) zN x2 (0 : Int32) σ)))
  refine z_aload_n (pc := 0) F dX3_leftover_0 rfl ?_
  refine z_iload_n (pc := 1) F dX3_leftover_1 rfl ?_
  refine z_ix (fun h1 => ?_)
  refine z_iald (pc := 2) F 18 r1 h_r1 (fun _ => rfl) h1 dX3_leftover_2 ?_
  refine z_Bi (fun x2 => ?_)
  refine z_istore (pc := 3) F (lv' := [some (.ref (zad K 15 nd)), some (.ref (zad K 18 r1)), some (.ref (zad K 9 0)), some (.int a3), some (.int x2), none]) dX3_leftover_3 (zlt rfl) rfl ?_
  refine z_iconst (pc := 5) F (v := 0) dX3_leftover_5 (by decide) ?_
  refine z_istore (pc := 6) F (lv' := [some (.ref (zad K 15 nd)), some (.ref (zad K 18 r1)), some (.ref (zad K 9 0)), some (.int a3), some (.int x2), some (.int (0 : Int32))]) dX3_leftover_6 (zlt rfl) rfl ?_
  have hk8_3 : ∀ (u4_8_3 : Int32) (y8_3 : zS), ZO K t 49 [none, none, some (.ref (zad K 9 0)), none, some (.int u4_8_3), none] [] y8_3 ((fun (u4_8_3 : Int32) (y8_3 : zS) => (zCi (fX0_left u4_8_3 y8_3) (fun x5 s4 => some (x5, s4)) : Option (Int32 × zS))) u4_8_3 y8_3) := by
    intro u4_8_3 y8_3
    show ZO K t 49 [none, none, some (.ref (zad K 9 0)), none, some (.int u4_8_3), none] [] y8_3 (zCi (fX0_left u4_8_3 y8_3) (fun x5 s4 => some (x5, s4)))
    refine z_aload_n (pc := 49) F dX3_leftover_49 rfl ?_
    refine z_iload (pc := 50) F dX3_leftover_50 rfl ?_
    refine z_callNi (pc := 52) (st := []) F 9 0 [.int u4_8_3] cl_RX3_20 (tX0_left (zln K) y8_3 u4_8_3) rfl (by decide) (fun _ => ⟨_, rfl⟩) rfl (by rw [hR]; exact ⟨rfl, rfl, Nat.le_of_ble_eq_true rfl, Nat.le_of_ble_eq_true rfl⟩) rfl rfl (Nat.le_of_ble_eq_true rfl) dX3_leftover_52 (fun x5 s4 => ?_)
    exact z_iret (pc := 55) F E dX3_leftover_55
  have L8_3 : ∀ (n8_3 : Nat) (v4_8_3 : Int32) (v5_8_3 : Int32) (w8_3 : zS), ZO K t 8 [some (.ref (zad K 15 nd)), some (.ref (zad K 18 r1)), some (.ref (zad K 9 0)), some (.int a3), some (.int v4_8_3), some (.int v5_8_3)] [] w8_3 (fX3_leftover_8 nd r1 a3 (fun (u4_8_3 : Int32) (y8_3 : zS) => (zCi (fX0_left u4_8_3 y8_3) (fun x5 s4 => some (x5, s4)) : Option (Int32 × zS))) n8_3 v4_8_3 v5_8_3 w8_3) := by
    revert hk8_3; generalize (fun (u4_8_3 : Int32) (y8_3 : zS) => (zCi (fX0_left u4_8_3 y8_3) (fun x5 s4 => some (x5, s4)) : Option (Int32 × zS))) = k8_3; intro hk8_3
    intro n8_3
    induction n8_3 with
    | zero => intro v4_8_3 v5_8_3 w8_3; exact z_none
    | succ n8_3 ih8_3 =>
      intro v4_8_3 v5_8_3 w8_3
      show ZO K t 8 [some (.ref (zad K 15 nd)), some (.ref (zad K 18 r1)), some (.ref (zad K 9 0)), some (.int a3), some (.int v4_8_3), some (.int v5_8_3)] [] w8_3 (if (5 : Int32) ≤ v5_8_3 then k8_3 v4_8_3 w8_3 else zIx v5_8_3 5 (if (w8_3 17 nd v5_8_3.toNatClampNeg) = 0 then zB (v5_8_3 + 1) (fun x7 => fX3_leftover_8 nd r1 a3 k8_3 n8_3 v4_8_3 x7 w8_3) else zIx v5_8_3 8 (zIx v5_8_3 5 (zB (5 * nd + v5_8_3.toNatClampNeg) (fun i10 => zGd (i10 < 61) (zIx a3 8 (zB (v4_8_3 - ((w8_3 18 r1 v5_8_3.toNatClampNeg) * (w8_3 18 i10 a3.toNatClampNeg))) (fun x13 => zB (v5_8_3 + 1) (fun x14 => fX3_leftover_8 nd r1 a3 k8_3 n8_3 x13 x14 w8_3)))))))))
      refine z_iload (pc := 8) F dX3_leftover_8 rfl ?_
      refine z_iconst (pc := 10) F (v := 5) dX3_leftover_10 (by decide) ?_
      refine z_icmp_ge (pc := 11) F 49 dX3_leftover_11 (by decide) (fun h16 => ?_) (fun h16 => ?_)
      · refine z_wk [false, false, true, false, true, false] (lv' := [none, none, some (.ref (zad K 9 0)), none, some (.int v4_8_3), none]) rfl ?_
        exact hk8_3 v4_8_3 w8_3
      · refine z_aload_n (pc := 14) F dX3_leftover_14 rfl ?_
        refine z_get (pc := 15) F 15 nd 1 (v := .ref (zad K 17 nd)) h_nd (fun _ => rfl) rfl (by decide) inlX3 lk_RX3_16 rfl dX3_leftover_15 ?_
        refine z_iload (pc := 18) F dX3_leftover_18 rfl ?_
        refine z_ix (fun h6 => ?_)
        refine z_zald (pc := 20) F 17 nd h_nd (fun _ => rfl) h6 dX3_leftover_20 ?_
        refine z_if_eq (pc := 21) F 43 dX3_leftover_21 (by decide) (fun h15 => ?_) (fun h15 => ?_)
        · refine z_iincB (pc := 43) F (lv' := fun x7 => [some (.ref (zad K 15 nd)), some (.ref (zad K 18 r1)), some (.ref (zad K 9 0)), some (.int a3), some (.int v4_8_3), some (.int x7)]) dX3_leftover_43 rfl rfl (fun _ => rfl) (fun x7 => ?_)
          refine z_goto (pc := 46) F 8 dX3_leftover_46 (by decide) ?_
          exact ih8_3 v4_8_3 x7 w8_3
        · refine z_iload (pc := 24) F dX3_leftover_24 rfl ?_
          refine z_aload_n (pc := 26) F dX3_leftover_26 rfl ?_
          refine z_iload (pc := 27) F dX3_leftover_27 rfl ?_
          refine z_ix (fun h8 => ?_)
          refine z_iald (pc := 29) F 18 r1 h_r1 (fun _ => rfl) h8 dX3_leftover_29 ?_
          refine z_aload_n (pc := 30) F dX3_leftover_30 rfl ?_
          refine z_get (pc := 31) F 15 nd 0 (v := .ref (zad K 16 nd)) h_nd (fun _ => rfl) rfl (by decide) inlX3 lk_RX3_11 rfl dX3_leftover_31 ?_
          refine z_iload (pc := 34) F dX3_leftover_34 rfl ?_
          refine z_ix (fun h9 => ?_)
          refine z_aald (pc := 36) F 16 nd 18 (5 * nd + v5_8_3.toNatClampNeg) 4 h_nd (fun _ => rfl) (fun _ => rfl) rfl h9 (fun _ => rfl) dX3_leftover_36 ?_
          refine z_Br (fun i10 => ?_)
          refine z_gd (fun h11 => ?_)
          refine z_iload_n (pc := 37) F dX3_leftover_37 rfl ?_
          refine z_ix (fun h12 => ?_)
          refine z_iald (pc := 38) F 18 i10 h11 (fun _ => rfl) h12 dX3_leftover_38 ?_
          refine z_imul (pc := 39) F dX3_leftover_39 ?_
          refine z_isub (pc := 40) F dX3_leftover_40 ?_
          refine z_Bi (fun x13 => ?_)
          refine z_istore (pc := 41) F (lv' := [some (.ref (zad K 15 nd)), some (.ref (zad K 18 r1)), some (.ref (zad K 9 0)), some (.int a3), some (.int x13), some (.int v5_8_3)]) dX3_leftover_41 (zlt rfl) rfl ?_
          refine z_iincB (pc := 43) F (lv' := fun x14 => [some (.ref (zad K 15 nd)), some (.ref (zad K 18 r1)), some (.ref (zad K 9 0)), some (.int a3), some (.int x13), some (.int x14)]) dX3_leftover_43 rfl rfl (fun _ => rfl) (fun x14 => ?_)
          refine z_goto (pc := 46) F 8 dX3_leftover_46 (by decide) ?_
          exact ih8_3 x13 x14 w8_3
  exact L8_3 zN x2 (0 : Int32) σ
