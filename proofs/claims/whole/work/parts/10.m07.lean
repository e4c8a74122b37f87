def fX7_add (a1 : Int32) (σ : zS) : Option (Int32 × zS) := if (σ 7 0 1) < (12 : Int32) then zIx (σ 7 0 1) 12 (zB (zU σ 8 0 (σ 7 0 1).toNatClampNeg a1) (fun s2 => zB (zU s2 7 0 1 ((s2 7 0 1) + (1 : Int32))) (fun s3 => some ((1 : Int32), s3)))) else some ((0 : Int32), σ)
abbrev rmX7_add : Room := { frames := 0, cells := 0, slots := 0, locals := 0 }
set_option maxRecDepth 100000 in
set_option maxHeartbeats 4000000 in
theorem tX7_add (l : Launch) (σ : zS) (a1 : Int32) : zMi l yX7_add cX7_add 2 (some .boolean) rmX7_add (fun ad => [.ref (ad 7 0), .int a1]) σ (fX7_add a1 σ) := by
  refine zMi.of RX7 (by decide +kernel) rfl (fun _ => Nat.le_of_ble_eq_true rfl) (fun _ => zcat rfl) (fun K t F hR hL E => ?_)
  show ZO K t 0 [some (.ref (zad K 7 0)), some (.int a1)] [] σ (if (σ 7 0 1) < (12 : Int32) then zIx (σ 7 0 1) 12 (zB (zU σ 8 0 (σ 7 0 1).toNatClampNeg a1) (fun s2 => zB (zU s2 7 0 1 ((s2 7 0 1) + (1 : Int32))) (fun s3 => some ((1 : Int32), s3)))) else some ((0 : Int32), σ))
  refine z_aload_n (pc := 0) F dX7_add_0 rfl ?_
  refine z_get (pc := 1) F 7 0 1 (v := .int (σ 7 0 1)) (by decide) (fun _ => rfl) rfl (by decide) inlX7 lk_RX7_15 rfl dX7_add_1 ?_
  refine z_bipush (pc := 4) F (v := 12) dX7_add_4 (by decide) ?_
  refine z_icmp_lt (pc := 6) F 11 dX7_add_6 (by decide) (fun h4 => ?_) (fun h4 => ?_)
  · refine z_aload_n (pc := 11) F dX7_add_11 rfl ?_
    refine z_get (pc := 12) F 7 0 0 (v := .ref (zad K 8 0)) (by decide) (fun _ => rfl) rfl (by decide) inlX7 lk_RX7_9 rfl dX7_add_12 ?_
    refine z_aload_n (pc := 15) F dX7_add_15 rfl ?_
    refine z_get (pc := 16) F 7 0 1 (v := .int (σ 7 0 1)) (by decide) (fun _ => rfl) rfl (by decide) inlX7 lk_RX7_15 rfl dX7_add_16 ?_
    refine z_iload_n (pc := 19) F dX7_add_19 rfl ?_
    refine z_ix (fun h1 => ?_)
    refine z_iast (pc := 20) F 8 0 (by decide) (fun _ _ => rfl) h1 dX7_add_20 (fun s2 => ?_)
    refine z_aload_n (pc := 21) F dX7_add_21 rfl ?_
    refine z_dup (pc := 22) F dX7_add_22 rfl ?_
    refine z_get (pc := 23) F 7 0 1 (v := .int (s2 7 0 1)) (by decide) (fun _ => rfl) rfl (by decide) inlX7 lk_RX7_15 rfl dX7_add_23 ?_
    refine z_iconst (pc := 26) F (v := 1) dX7_add_26 (by decide) ?_
    refine z_iadd (pc := 27) F dX7_add_27 ?_
    refine z_put (pc := 28) F 7 0 1 tyX7 tyX7_ok nmX7 (by decide) (fun _ => rfl) rfl (by decide) inlX7 lk_RX7_15 rfl (by decide +kernel) (fun _ => Nat.le_of_ble_eq_true rfl) (fun _ => rfl) dX7_add_28 (fun s3 => ?_)
    refine z_iconst (pc := 31) F (v := 1) dX7_add_31 (by decide) ?_
    exact z_zret (pc := 32) F E (by decide) dX7_add_32
  · refine z_iconst (pc := 9) F (v := 0) dX7_add_9 (by decide) ?_
    exact z_zret (pc := 10) F E (by decide) dX7_add_10
def fX8_air (a1 : Int32) (σ : zS) : Option (Int32 × zS) := if a1 < 0 then some ((-2 : Int32), σ) else if a1 ≤ (255 : Int32) then zB (σ 1 0 4) (fun x1 => zB (zU σ 1 0 4 a1) (fun s2 => some (x1, s2))) else some ((-2 : Int32), σ)
abbrev rmX8_air : Room := { frames := 0, cells := 0, slots := 0, locals := 0 }
set_option maxRecDepth 100000 in
set_option maxHeartbeats 4000000 in
theorem tX8_air (l : Launch) (σ : zS) (a1 : Int32) : zMi l yX8_air cX8_air 3 (some .int) rmX8_air (fun ad => [.ref (ad 0 0), .int a1]) σ (fX8_air a1 σ) := by
  refine zMi.of RX8 (by decide +kernel) rfl (fun _ => Nat.le_of_ble_eq_true rfl) (fun _ => zcat rfl) (fun K t F hR hL E => ?_)
  show ZO K t 0 [some (.ref (zad K 0 0)), some (.int a1), none] [] σ (if a1 < 0 then some ((-2 : Int32), σ) else if a1 ≤ (255 : Int32) then zB (σ 1 0 4) (fun x1 => zB (zU σ 1 0 4 a1) (fun s2 => some (x1, s2))) else some ((-2 : Int32), σ))
  refine z_iload_n (pc := 0) F dX8_air_0 rfl ?_
  refine z_if_lt (pc := 1) F 11 dX8_air_1 (by decide) (fun h4 => ?_) (fun h4 => ?_)
  · refine z_bipush (pc := 11) F (v := -2) dX8_air_11 (by decide) ?_
    exact z_iret (pc := 13) F E dX8_air_13
  · refine z_iload_n (pc := 4) F dX8_air_4 rfl ?_
    refine z_sipush (pc := 5) F (v := 255) dX8_air_5 (by decide) ?_
    refine z_icmp_le (pc := 8) F 14 dX8_air_8 (by decide) (fun h3 => ?_) (fun h3 => ?_)
    · refine z_aload_n (pc := 14) F dX8_air_14 rfl ?_
      refine z_get (pc := 15) F 0 0 0 (v := .ref (zad K 1 0)) (by decide) (fun _ => rfl) rfl (by decide) inlX8 lk_RX8_12 rfl dX8_air_15 ?_
      refine z_getN (pc := 18) F 1 0 4 (v := .int (σ 1 0 4)) (by decide) (fun _ => rfl) rfl (by decide) inlX6 lk_RX8_88 rfl dX8_air_18 ?_
      refine z_Bi (fun x1 => ?_)
      refine z_istore_n (pc := 21) F (lv' := [some (.ref (zad K 0 0)), some (.int a1), some (.int x1)]) dX8_air_21 (zlt rfl) rfl ?_
      refine z_aload_n (pc := 22) F dX8_air_22 rfl ?_
      refine z_get (pc := 23) F 0 0 0 (v := .ref (zad K 1 0)) (by decide) (fun _ => rfl) rfl (by decide) inlX8 lk_RX8_12 rfl dX8_air_23 ?_
      refine z_iload_n (pc := 26) F dX8_air_26 rfl ?_
      refine z_putN (pc := 27) F 1 0 4 tyX6 tyX6_ok nmX6 (by decide) (fun _ => rfl) rfl (by decide) inlX6 lk_RX8_88 rfl (by decide +kernel) (fun _ => Nat.le_of_ble_eq_true rfl) (fun _ => rfl) dX8_air_27 (fun s2 => ?_)
      refine z_iload_n (pc := 30) F dX8_air_30 rfl ?_
      exact z_iret (pc := 31) F E dX8_air_31
    · refine z_bipush (pc := 11) F (v := -2) dX8_air_11 (by decide) ?_
      exact z_iret (pc := 13) F E dX8_air_13
def fX8_anew (σ : zS) : Option (Int32 × zS) := zB (σ 4 0 2) (fun x1 => zCv (fX6_clear σ) (fun s2 => some (x1, s2)))
abbrev rmX8_anew : Room := { frames := 1, cells := 0, slots := 0, locals := 21 }
set_option maxRecDepth 100000 in
set_option maxHeartbeats 4000000 in
theorem tX8_anew (l : Launch) (σ : zS) : zMi l yX8_anew cX8_anew 2 (some .int) rmX8_anew (fun ad => [.ref (ad 0 0)]) σ (fX8_anew σ) := by
  refine zMi.of RX8 (by decide +kernel) rfl (fun _ => Nat.le_of_ble_eq_true rfl) (fun _ => zcat rfl) (fun K t F hR hL E => ?_)
  show ZO K t 0 [some (.ref (zad K 0 0)), none] [] σ (zB (σ 4 0 2) (fun x1 => zCv (fX6_clear σ) (fun s2 => some (x1, s2))))
  refine z_aload_n (pc := 0) F dX8_anew_0 rfl ?_
  refine z_get (pc := 1) F 0 0 0 (v := .ref (zad K 1 0)) (by decide) (fun _ => rfl) rfl (by decide) inlX8 lk_RX8_12 rfl dX8_anew_1 ?_
  refine z_getN (pc := 4) F 1 0 2 (v := .ref (zad K 4 0)) (by decide) (fun _ => rfl) rfl (by decide) inlX6 lk_RX8_71 rfl dX8_anew_4 ?_
  refine z_getN (pc := 7) F 4 0 2 (v := .int (σ 4 0 2)) (by decide) (fun _ => rfl) rfl (by decide) inlX5 lk_RX8_84 rfl dX8_anew_7 ?_
  refine z_Bi (fun x1 => ?_)
  refine z_istore_n (pc := 10) F (lv' := [some (.ref (zad K 0 0)), some (.int x1)]) dX8_anew_10 (zlt rfl) rfl ?_
  refine z_aload_n (pc := 11) F dX8_anew_11 rfl ?_
  refine z_get (pc := 12) F 0 0 0 (v := .ref (zad K 1 0)) (by decide) (fun _ => rfl) rfl (by decide) inlX8 lk_RX8_12 rfl dX8_anew_12 ?_
  refine z_callNv (pc := 15) (st := []) F 1 0 [] cl_RX8_94 (tX6_clear (zln K) σ ) rfl (by decide) (fun _ => ⟨_, rfl⟩) rfl (by rw [hR]; exact ⟨rfl, rfl, Nat.le_of_ble_eq_true rfl, Nat.le_of_ble_eq_true rfl⟩) rfl rfl (Nat.le_of_ble_eq_true rfl) dX8_anew_15 (fun s2 => ?_)
  refine z_iload_n (pc := 18) F dX8_anew_18 rfl ?_
  exact z_iret (pc := 19) F E dX8_anew_19
def fX8_best (σ : zS) : Option (Int32 × zS) := zCi (fX6_findBest σ) (fun x2 s1 => some (x2, s1))
abbrev rmX8_best : Room := { frames := 4, cells := 0, slots := 0, locals := 95 }
set_option maxRecDepth 100000 in
set_option maxHeartbeats 4000000 in
theorem tX8_best (l : Launch) (σ : zS) : zMi l yX8_best cX8_best 1 (some .int) rmX8_best (fun ad => [.ref (ad 0 0)]) σ (fX8_best σ) := by
  refine zMi.of RX8 (by decide +kernel) rfl (fun _ => Nat.le_of_ble_eq_true rfl) (fun _ => zcat rfl) (fun K t F hR hL E => ?_)
  show ZO K t 0 [some (.ref (zad K 0 0))] [] σ (zCi (fX6_findBest σ) (fun x2 s1 => some (x2, s1)))
  refine z_aload_n (pc := 0) F dX8_best_0 rfl ?_
  refine z_get (pc := 1) F 0 0 0 (v := .ref (zad K 1 0)) (by decide) (fun _ => rfl) rfl (by decide) inlX8 lk_RX8_12 rfl dX8_best_1 ?_
  refine z_callNi (pc := 4) (st := []) F 1 0 [] cl_RX8_122 (tX6_findBest (zln K) σ ) rfl (by decide) (fun _ => ⟨_, rfl⟩) rfl (by rw [hR]; exact ⟨rfl, rfl, Nat.le_of_ble_eq_true rfl, Nat.le_of_ble_eq_true rfl⟩) rfl rfl (Nat.le_of_ble_eq_true rfl) dX8_best_4 (fun x2 s1 => ?_)
  exact z_iret (pc := 7) F E dX8_best_7
def fX8_draw (a1 : Int32) (a2 : Int32) (a3 : Int32) (σ : zS) : Option (Int32 × zS) := zCq (fX2_nodeOf a1 a2 σ) (fun s1 => zCq (fX2_nodeOf a1 a3 s1) (fun s4 => some ((-1 : Int32), s4)) (fun i5 s4 => zGd (i5 < 12) (some ((-1 : Int32), s4)))) (fun i2 s1 => zGd (i2 < 12) (zCq (fX2_nodeOf a1 a3 s1) (fun s7 => some ((-1 : Int32), s7)) (fun i8 s7 => zGd (i8 < 12) (if a2 = a3 then some ((-3 : Int32), s7) else zCi (fX0_nextDrawn s7) (fun x11 s10 => zCi (fX2_carry i2 i8 x11 s10) (fun x13 s12 => some (x11, s12)))))))
abbrev rmX8_draw : Room := { frames := 6, cells := 0, slots := 0, locals := 139 }
set_option maxRecDepth 100000 in
set_option maxHeartbeats 4000000 in
theorem tX8_draw (l : Launch) (σ : zS) (a1 : Int32) (a2 : Int32) (a3 : Int32) : zMi l yX8_draw cX8_draw 7 (some .int) rmX8_draw (fun ad => [.ref (ad 0 0), .int a1, .int a2, .int a3]) σ (fX8_draw a1 a2 a3 σ) := by
  refine zMi.of RX8 (by decide +kernel) rfl (fun _ => Nat.le_of_ble_eq_true rfl) (fun _ => zcat rfl) (fun K t F hR hL E => ?_)
  show ZO K t 0 [some (.ref (zad K 0 0)), some (.int a1), some (.int a2), some (.int a3), none, none, none] [] σ (zCq (fX2_nodeOf a1 a2 σ) (fun s1 => zCq (fX2_nodeOf a1 a3 s1) (fun s4 => some ((-1 : Int32), s4)) (fun i5 s4 => zGd (i5 < 12) (some ((-1 : Int32), s4)))) (fun i2 s1 => zGd (i2 < 12) (zCq (fX2_nodeOf a1 a3 s1) (fun s7 => some ((-1 : Int32), s7)) (fun i8 s7 => zGd (i8 < 12) (if a2 = a3 then some ((-3 : Int32), s7) else zCi (fX0_nextDrawn s7) (fun x11 s10 => zCi (fX2_carry i2 i8 x11 s10) (fun x13 s12 => some (x11, s12))))))))
  refine z_aload_n (pc := 0) F dX8_draw_0 rfl ?_
  refine z_get (pc := 1) F 0 0 3 (v := .ref (zad K 10 0)) (by decide) (fun _ => rfl) rfl (by decide) inlX8 lk_RX8_35 rfl dX8_draw_1 ?_
  refine z_iload_n (pc := 4) F dX8_draw_4 rfl ?_
  refine z_iload_n (pc := 5) F dX8_draw_5 rfl ?_
  refine z_callNq (pc := 6) (st := []) F 10 0 [.int a1, .int a2] cl_RX8_144 (tX2_nodeOf (zln K) σ a1 a2) rfl (by decide) (fun _ => ⟨_, rfl⟩) rfl (by rw [hR]; exact ⟨rfl, rfl, Nat.le_of_ble_eq_true rfl, Nat.le_of_ble_eq_true rfl⟩) rfl rfl (Nat.le_of_ble_eq_true rfl) dX8_draw_6 (fun s1 => ?_) (fun i2 s1 => ?_)
  · refine z_astoreN (pc := 9) F (lv' := [some (.ref (zad K 0 0)), some (.int a1), some (.int a2), some (.int a3), some (.null), none, none]) dX8_draw_9 (zlt rfl) rfl ?_
    refine z_aload_n (pc := 11) F dX8_draw_11 rfl ?_
    refine z_get (pc := 12) F 0 0 3 (v := .ref (zad K 10 0)) (by decide) (fun _ => rfl) rfl (by decide) inlX8 lk_RX8_35 rfl dX8_draw_12 ?_
    refine z_iload_n (pc := 15) F dX8_draw_15 rfl ?_
    refine z_iload_n (pc := 16) F dX8_draw_16 rfl ?_
    refine z_callNq (pc := 17) (st := []) F 10 0 [.int a1, .int a3] cl_RX8_144 (tX2_nodeOf (zln K) s1 a1 a3) rfl (by decide) (fun _ => ⟨_, rfl⟩) rfl (by rw [hR]; exact ⟨rfl, rfl, Nat.le_of_ble_eq_true rfl, Nat.le_of_ble_eq_true rfl⟩) rfl rfl (Nat.le_of_ble_eq_true rfl) dX8_draw_17 (fun s4 => ?_) (fun i5 s4 => ?_)
    · refine z_astoreN (pc := 20) F (lv' := [some (.ref (zad K 0 0)), some (.int a1), some (.int a2), some (.int a3), some (.null), some (.null), none]) dX8_draw_20 (zlt rfl) rfl ?_
      refine z_aloadN (pc := 22) F dX8_draw_22 rfl ?_
      refine z_ifnullN (pc := 24) F 32 dX8_draw_24 (by decide) ?_
      refine z_iconst (pc := 32) F (v := -1) dX8_draw_32 (by decide) ?_
      exact z_iret (pc := 33) F E dX8_draw_33
    · refine z_gd (fun h6 => ?_)
      refine z_astore (pc := 20) F (lv' := [some (.ref (zad K 0 0)), some (.int a1), some (.int a2), some (.int a3), some (.null), some (.ref (zad K 15 i5)), none]) dX8_draw_20 (zlt rfl) rfl ?_
      refine z_aloadN (pc := 22) F dX8_draw_22 rfl ?_
      refine z_ifnullN (pc := 24) F 32 dX8_draw_24 (by decide) ?_
      refine z_iconst (pc := 32) F (v := -1) dX8_draw_32 (by decide) ?_
      exact z_iret (pc := 33) F E dX8_draw_33
  · refine z_gd (fun h3 => ?_)
    refine z_astore (pc := 9) F (lv' := [some (.ref (zad K 0 0)), some (.int a1), some (.int a2), some (.int a3), some (.ref (zad K 15 i2)), none, none]) dX8_draw_9 (zlt rfl) rfl ?_
    refine z_aload_n (pc := 11) F dX8_draw_11 rfl ?_
    refine z_get (pc := 12) F 0 0 3 (v := .ref (zad K 10 0)) (by decide) (fun _ => rfl) rfl (by decide) inlX8 lk_RX8_35 rfl dX8_draw_12 ?_
    refine z_iload_n (pc := 15) F dX8_draw_15 rfl ?_
    refine z_iload_n (pc := 16) F dX8_draw_16 rfl ?_
    refine z_callNq (pc := 17) (st := []) F 10 0 [.int a1, .int a3] cl_RX8_144 (tX2_nodeOf (zln K) s1 a1 a3) rfl (by decide) (fun _ => ⟨_, rfl⟩) rfl (by rw [hR]; exact ⟨rfl, rfl, Nat.le_of_ble_eq_true rfl, Nat.le_of_ble_eq_true rfl⟩) rfl rfl (Nat.le_of_ble_eq_true rfl) dX8_draw_17 (fun s7 => ?_) (fun i8 s7 => ?_)
    · refine z_astoreN (pc := 20) F (lv' := [some (.ref (zad K 0 0)), some (.int a1), some (.int a2), some (.int a3), some (.ref (zad K 15 i2)), some (.null), none]) dX8_draw_20 (zlt rfl) rfl ?_
      refine z_aload (pc := 22) F dX8_draw_22 rfl ?_
      refine z_ifnull (pc := 24) F dX8_draw_24 ?_
      refine z_aloadN (pc := 27) F dX8_draw_27 rfl ?_
      refine z_ifnonnullN (pc := 29) F dX8_draw_29 ?_
      refine z_iconst (pc := 32) F (v := -1) dX8_draw_32 (by decide) ?_
      exact z_iret (pc := 33) F E dX8_draw_33
    · refine z_gd (fun h9 => ?_)
      refine z_astore (pc := 20) F (lv' := [some (.ref (zad K 0 0)), some (.int a1), some (.int a2), some (.int a3), some (.ref (zad K 15 i2)), some (.ref (zad K 15 i8)), none]) dX8_draw_20 (zlt rfl) rfl ?_
      refine z_aload (pc := 22) F dX8_draw_22 rfl ?_
      refine z_ifnull (pc := 24) F dX8_draw_24 ?_
      refine z_aload (pc := 27) F dX8_draw_27 rfl ?_
      refine z_ifnonnull (pc := 29) F 34 dX8_draw_29 (by decide) ?_
      refine z_iload_n (pc := 34) F dX8_draw_34 rfl ?_
      refine z_iload_n (pc := 35) F dX8_draw_35 rfl ?_
      refine z_icmp_ne (pc := 36) F 42 dX8_draw_36 (by decide) (fun h14 => ?_) (fun h14 => ?_)
      · refine z_aload_n (pc := 42) F dX8_draw_42 rfl ?_
        refine z_get (pc := 43) F 0 0 2 (v := .ref (zad K 9 0)) (by decide) (fun _ => rfl) rfl (by decide) inlX8 lk_RX8_26 rfl dX8_draw_43 ?_
        refine z_callNi (pc := 46) (st := []) F 9 0 [] cl_RX8_175 (tX0_nextDrawn (zln K) s7 ) rfl (by decide) (fun _ => ⟨_, rfl⟩) rfl (by rw [hR]; exact ⟨rfl, rfl, Nat.le_of_ble_eq_true rfl, Nat.le_of_ble_eq_true rfl⟩) rfl rfl (Nat.le_of_ble_eq_true rfl) dX8_draw_46 (fun x11 s10 => ?_)
        refine z_istore (pc := 49) F (lv' := [some (.ref (zad K 0 0)), some (.int a1), some (.int a2), some (.int a3), some (.ref (zad K 15 i2)), some (.ref (zad K 15 i8)), some (.int x11)]) dX8_draw_49 (zlt rfl) rfl ?_
        refine z_aload_n (pc := 51) F dX8_draw_51 rfl ?_
        refine z_get (pc := 52) F 0 0 3 (v := .ref (zad K 10 0)) (by decide) (fun _ => rfl) rfl (by decide) inlX8 lk_RX8_35 rfl dX8_draw_52 ?_
        refine z_aload (pc := 55) F dX8_draw_55 rfl ?_
        refine z_aload (pc := 57) F dX8_draw_57 rfl ?_
        refine z_iload (pc := 59) F dX8_draw_59 rfl ?_
        refine z_callNi (pc := 61) (st := []) F 10 0 [.ref (zad K 15 i2), .ref (zad K 15 i8), .int x11] cl_RX8_171 (tX2_carry (zln K) s10 i2 i8 x11 h3 h9) rfl (by decide) (fun _ => ⟨_, rfl⟩) rfl (by rw [hR]; exact ⟨rfl, rfl, Nat.le_of_ble_eq_true rfl, Nat.le_of_ble_eq_true rfl⟩) rfl rfl (Nat.le_of_ble_eq_true rfl) dX8_draw_61 (fun x13 s12 => ?_)
        refine z_pop (pc := 64) F dX8_draw_64 rfl ?_
        refine z_iload (pc := 65) F dX8_draw_65 rfl ?_
        exact z_iret (pc := 67) F E dX8_draw_67
      · refine z_bipush (pc := 39) F (v := -3) dX8_draw_39 (by decide) ?_
        exact z_iret (pc := 41) F E dX8_draw_41
def fX8_drop (a1 : Int32) (σ : zS) : Option (Int32 × zS) := zCi (fX6_isThere a1 σ) (fun x2 s1 => if x2 = 0 then some ((-1 : Int32), s1) else zCi (fX6_takeLetter a1 s1) (fun x4 s3 => some (x4, s3)))
abbrev rmX8_drop : Room := { frames := 2, cells := 0, slots := 0, locals := 45 }
set_option maxRecDepth 100000 in
set_option maxHeartbeats 4000000 in
theorem tX8_drop (l : Launch) (σ : zS) (a1 : Int32) : zMi l yX8_drop cX8_drop 2 (some .int) rmX8_drop (fun ad => [.ref (ad 0 0), .int a1]) σ (fX8_drop a1 σ) := by
  refine zMi.of RX8 (by decide +kernel) rfl (fun _ => Nat.le_of_ble_eq_true rfl) (fun _ => zcat rfl) (fun K t F hR hL E => ?_)
  show ZO K t 0 [some (.ref (zad K 0 0)), some (.int a1)] [] σ (zCi (fX6_isThere a1 σ) (fun x2 s1 => if x2 = 0 then some ((-1 : Int32), s1) else zCi (fX6_takeLetter a1 s1) (fun x4 s3 => some (x4, s3))))
  refine z_aload_n (pc := 0) F dX8_drop_0 rfl ?_
  refine z_get (pc := 1) F 0 0 0 (v := .ref (zad K 1 0)) (by decide) (fun _ => rfl) rfl (by decide) inlX8 lk_RX8_12 rfl dX8_drop_1 ?_
  refine z_iload_n (pc := 4) F dX8_drop_4 rfl ?_
  refine z_callNi (pc := 5) (st := []) F 1 0 [.int a1] cl_RX8_50 (tX6_isThere (zln K) σ a1) rfl (by decide) (fun _ => ⟨_, rfl⟩) rfl (by rw [hR]; exact ⟨rfl, rfl, Nat.le_of_ble_eq_true rfl, Nat.le_of_ble_eq_true rfl⟩) rfl rfl (Nat.le_of_ble_eq_true rfl) dX8_drop_5 (fun x2 s1 => ?_)
  refine z_if_eq (pc := 8) F 22 dX8_drop_8 (by decide) (fun h5 => ?_) (fun h5 => ?_)
  · refine z_iconst (pc := 22) F (v := -1) dX8_drop_22 (by decide) ?_
    exact z_iret (pc := 23) F E dX8_drop_23
  · refine z_aload_n (pc := 11) F dX8_drop_11 rfl ?_
    refine z_get (pc := 12) F 0 0 0 (v := .ref (zad K 1 0)) (by decide) (fun _ => rfl) rfl (by decide) inlX8 lk_RX8_12 rfl dX8_drop_12 ?_
    refine z_iload_n (pc := 15) F dX8_drop_15 rfl ?_
    refine z_callNi (pc := 16) (st := []) F 1 0 [.int a1] cl_RX8_54 (tX6_takeLetter (zln K) s1 a1) rfl (by decide) (fun _ => ⟨_, rfl⟩) rfl (by rw [hR]; exact ⟨rfl, rfl, Nat.le_of_ble_eq_true rfl, Nat.le_of_ble_eq_true rfl⟩) rfl rfl (Nat.le_of_ble_eq_true rfl) dX8_drop_16 (fun x4 s3 => ?_)
    refine z_goto (pc := 19) F 23 dX8_drop_19 (by decide) ?_
    exact z_iret (pc := 23) F E dX8_drop_23
def fX8_entry (a1 : Int32) (a2 : Int32) (σ : zS) : Option (Int32 × zS) := if a1 < 0 then some ((-1 : Int32), σ) else if a1 < (σ 4 0 2) then if a2 = 0 then if a2 = 0 then zIx a1 16 (some (σ 5 0 a1.toNatClampNeg, σ)) else zIx a1 16 (some (σ 6 0 a1.toNatClampNeg, σ)) else if a2 = (1 : Int32) then if a2 = 0 then zIx a1 16 (some (σ 5 0 a1.toNatClampNeg, σ)) else zIx a1 16 (some (σ 6 0 a1.toNatClampNeg, σ)) else some ((-2 : Int32), σ) else some ((-1 : Int32), σ)
abbrev rmX8_entry : Room := { frames := 0, cells := 0, slots := 0, locals := 0 }
set_option maxRecDepth 100000 in
set_option maxHeartbeats 4000000 in
theorem tX8_entry (l : Launch) (σ : zS) (a1 : Int32) (a2 : Int32) : zMi l yX8_entry cX8_entry 3 (some .int) rmX8_entry (fun ad => [.ref (ad 0 0), .int a1, .int a2]) σ (fX8_entry a1 a2 σ) := by
  refine zMi.of RX8 (by decide +kernel) rfl (fun _ => Nat.le_of_ble_eq_true rfl) (fun _ => zcat rfl) (fun K t F hR hL E => ?_)
  show ZO K t 0 [some (.ref (zad K 0 0)), some (.int a1), some (.int a2)] [] σ (if a1 < 0 then some ((-1 : Int32), σ) else if a1 < (σ 4 0 2) then if a2 = 0 then if a2 = 0 then zIx a1 16 (some (σ 5 0 a1.toNatClampNeg, σ)) else zIx a1 16 (some (σ 6 0 a1.toNatClampNeg, σ)) else if a2 = (1 : Int32) then if a2 = 0 then zIx a1 16 (some (σ 5 0 a1.toNatClampNeg, σ)) else zIx a1 16 (some (σ 6 0 a1.toNatClampNeg, σ)) else some ((-2 : Int32), σ) else some ((-1 : Int32), σ))
  refine z_iload_n (pc := 0) F dX8_entry_0 rfl ?_
  refine z_if_lt (pc := 1) F 18 dX8_entry_1 (by decide) (fun h10 => ?_) (fun h10 => ?_)
  · refine z_iconst (pc := 18) F (v := -1) dX8_entry_18 (by decide) ?_
    exact z_iret (pc := 19) F E dX8_entry_19
  · refine z_iload_n (pc := 4) F dX8_entry_4 rfl ?_
    refine z_aload_n (pc := 5) F dX8_entry_5 rfl ?_
    refine z_get (pc := 6) F 0 0 0 (v := .ref (zad K 1 0)) (by decide) (fun _ => rfl) rfl (by decide) inlX8 lk_RX8_12 rfl dX8_entry_6 ?_
    refine z_getN (pc := 9) F 1 0 2 (v := .ref (zad K 4 0)) (by decide) (fun _ => rfl) rfl (by decide) inlX6 lk_RX8_71 rfl dX8_entry_9 ?_
    refine z_getN (pc := 12) F 4 0 2 (v := .int (σ 4 0 2)) (by decide) (fun _ => rfl) rfl (by decide) inlX5 lk_RX8_84 rfl dX8_entry_12 ?_
    refine z_icmp_lt (pc := 15) F 20 dX8_entry_15 (by decide) (fun h9 => ?_) (fun h9 => ?_)
    · refine z_iload_n (pc := 20) F dX8_entry_20 rfl ?_
      refine z_if_eq (pc := 21) F 32 dX8_entry_21 (by decide) (fun h8 => ?_) (fun h8 => ?_)
      · refine z_iload_n (pc := 32) F dX8_entry_32 rfl ?_
        refine z_if_ne (pc := 33) F 51 dX8_entry_33 (by decide) (fun h3 => ?_) (fun h3 => ?_)
        · refine z_aload_n (pc := 51) F dX8_entry_51 rfl ?_
          refine z_get (pc := 52) F 0 0 0 (v := .ref (zad K 1 0)) (by decide) (fun _ => rfl) rfl (by decide) inlX8 lk_RX8_12 rfl dX8_entry_52 ?_
          refine z_getN (pc := 55) F 1 0 2 (v := .ref (zad K 4 0)) (by decide) (fun _ => rfl) rfl (by decide) inlX6 lk_RX8_71 rfl dX8_entry_55 ?_
          refine z_getN (pc := 58) F 4 0 1 (v := .ref (zad K 6 0)) (by decide) (fun _ => rfl) rfl (by decide) inlX5 lk_RX8_101 rfl dX8_entry_58 ?_
          refine z_iload_n (pc := 61) F dX8_entry_61 rfl ?_
          refine z_ix (fun h1 => ?_)
          refine z_iald (pc := 62) F 6 0 (by decide) (fun _ => rfl) h1 dX8_entry_62 ?_
          exact z_iret (pc := 63) F E dX8_entry_63
        · refine z_aload_n (pc := 36) F dX8_entry_36 rfl ?_
          refine z_get (pc := 37) F 0 0 0 (v := .ref (zad K 1 0)) (by decide) (fun _ => rfl) rfl (by decide) inlX8 lk_RX8_12 rfl dX8_entry_37 ?_
          refine z_getN (pc := 40) F 1 0 2 (v := .ref (zad K 4 0)) (by decide) (fun _ => rfl) rfl (by decide) inlX6 lk_RX8_71 rfl dX8_entry_40 ?_
          refine z_getN (pc := 43) F 4 0 0 (v := .ref (zad K 5 0)) (by decide) (fun _ => rfl) rfl (by decide) inlX5 lk_RX8_97 rfl dX8_entry_43 ?_
          refine z_iload_n (pc := 46) F dX8_entry_46 rfl ?_
          refine z_ix (fun h2 => ?_)
          refine z_iald (pc := 47) F 5 0 (by decide) (fun _ => rfl) h2 dX8_entry_47 ?_
          refine z_goto (pc := 48) F 63 dX8_entry_48 (by decide) ?_
          exact z_iret (pc := 63) F E dX8_entry_63
      · refine z_iload_n (pc := 24) F dX8_entry_24 rfl ?_
        refine z_iconst (pc := 25) F (v := 1) dX8_entry_25 (by decide) ?_
        refine z_icmp_eq (pc := 26) F 32 dX8_entry_26 (by decide) (fun h7 => ?_) (fun h7 => ?_)
        · refine z_iload_n (pc := 32) F dX8_entry_32 rfl ?_
          refine z_if_ne (pc := 33) F 51 dX8_entry_33 (by decide) (fun h6 => ?_) (fun h6 => ?_)
          · refine z_aload_n (pc := 51) F dX8_entry_51 rfl ?_
            refine z_get (pc := 52) F 0 0 0 (v := .ref (zad K 1 0)) (by decide) (fun _ => rfl) rfl (by decide) inlX8 lk_RX8_12 rfl dX8_entry_52 ?_
            refine z_getN (pc := 55) F 1 0 2 (v := .ref (zad K 4 0)) (by decide) (fun _ => rfl) rfl (by decide) inlX6 lk_RX8_71 rfl dX8_entry_55 ?_
            refine z_getN (pc := 58) F 4 0 1 (v := .ref (zad K 6 0)) (by decide) (fun _ => rfl) rfl (by decide) inlX5 lk_RX8_101 rfl dX8_entry_58 ?_
            refine z_iload_n (pc := 61) F dX8_entry_61 rfl ?_
            refine z_ix (fun h4 => ?_)
            refine z_iald (pc := 62) F 6 0 (by decide) (fun _ => rfl) h4 dX8_entry_62 ?_
            exact z_iret (pc := 63) F E dX8_entry_63
          · refine z_aload_n (pc := 36) F dX8_entry_36 rfl ?_
            refine z_get (pc := 37) F 0 0 0 (v := .ref (zad K 1 0)) (by decide) (fun _ => rfl) rfl (by decide) inlX8 lk_RX8_12 rfl dX8_entry_37 ?_
            refine z_getN (pc := 40) F 1 0 2 (v := .ref (zad K 4 0)) (by decide) (fun _ => rfl) rfl (by decide) inlX6 lk_RX8_71 rfl dX8_entry_40 ?_
            refine z_getN (pc := 43) F 4 0 0 (v := .ref (zad K 5 0)) (by decide) (fun _ => rfl) rfl (by decide) inlX5 lk_RX8_97 rfl dX8_entry_43 ?_
            refine z_iload_n (pc := 46) F dX8_entry_46 rfl ?_
            refine z_ix (fun h5 => ?_)
            refine z_iald (pc := 47) F 5 0 (by decide) (fun _ => rfl) h5 dX8_entry_47 ?_
            refine z_goto (pc := 48) F 63 dX8_entry_48 (by decide) ?_
            exact z_iret (pc := 63) F E dX8_entry_63
        · refine z_bipush (pc := 29) F (v := -2) dX8_entry_29 (by decide) ?_
          exact z_iret (pc := 31) F E dX8_entry_31
    · refine z_iconst (pc := 18) F (v := -1) dX8_entry_18 (by decide) ?_
      exact z_iret (pc := 19) F E dX8_entry_19
def fX8_forAll (a1 : Int32) (a2 : Int32) (σ : zS) : Option (Int32 × zS) := zCq (fX2_find a1 σ) (fun s1 => some ((-1 : Int32), s1)) (fun i2 s1 => zGd (i2 < 3) (if a2 < 0 then some ((-1 : Int32), s1) else if a2 < (4 : Int32) then zCi (fX2_leastNewForAll i2 a2 s1) (fun x5 s4 => some (x5, s4)) else some ((-1 : Int32), s1)))
abbrev rmX8_forAll : Room := { frames := 6, cells := 0, slots := 0, locals := 141 }
set_option maxRecDepth 100000 in
set_option maxHeartbeats 4000000 in
theorem tX8_forAll (l : Launch) (σ : zS) (a1 : Int32) (a2 : Int32) : zMi l yX8_forAll cX8_forAll 4 (some .int) rmX8_forAll (fun ad => [.ref (ad 0 0), .int a1, .int a2]) σ (fX8_forAll a1 a2 σ) := by
  refine zMi.of RX8 (by decide +kernel) rfl (fun _ => Nat.le_of_ble_eq_true rfl) (fun _ => zcat rfl) (fun K t F hR hL E => ?_)
  show ZO K t 0 [some (.ref (zad K 0 0)), some (.int a1), some (.int a2), none] [] σ (zCq (fX2_find a1 σ) (fun s1 => some ((-1 : Int32), s1)) (fun i2 s1 => zGd (i2 < 3) (if a2 < 0 then some ((-1 : Int32), s1) else if a2 < (4 : Int32) then zCi (fX2_leastNewForAll i2 a2 s1) (fun x5 s4 => some (x5, s4)) else some ((-1 : Int32), s1))))
  refine z_aload_n (pc := 0) F dX8_forAll_0 rfl ?_
  refine z_get (pc := 1) F 0 0 3 (v := .ref (zad K 10 0)) (by decide) (fun _ => rfl) rfl (by decide) inlX8 lk_RX8_35 rfl dX8_forAll_1 ?_
  refine z_iload_n (pc := 4) F dX8_forAll_4 rfl ?_
  refine z_callNq (pc := 5) (st := []) F 10 0 [.int a1] cl_RX8_153 (tX2_find (zln K) σ a1) rfl (by decide) (fun _ => ⟨_, rfl⟩) rfl (by rw [hR]; exact ⟨rfl, rfl, Nat.le_of_ble_eq_true rfl, Nat.le_of_ble_eq_true rfl⟩) rfl rfl (Nat.le_of_ble_eq_true rfl) dX8_forAll_5 (fun s1 => ?_) (fun i2 s1 => ?_)
  · refine z_astore_nN (pc := 8) F (lv' := [some (.ref (zad K 0 0)), some (.int a1), some (.int a2), some (.null)]) dX8_forAll_8 (zlt rfl) rfl ?_
    refine z_aload_nN (pc := 9) F dX8_forAll_9 rfl ?_
    refine z_ifnullN (pc := 10) F 22 dX8_forAll_10 (by decide) ?_
    refine z_iconst (pc := 22) F (v := -1) dX8_forAll_22 (by decide) ?_
    exact z_iret (pc := 23) F E dX8_forAll_23
  · refine z_gd (fun h3 => ?_)
    refine z_astore_n (pc := 8) F (lv' := [some (.ref (zad K 0 0)), some (.int a1), some (.int a2), some (.ref (zad K 13 i2))]) dX8_forAll_8 (zlt rfl) rfl ?_
    refine z_aload_n (pc := 9) F dX8_forAll_9 rfl ?_
    refine z_ifnull (pc := 10) F dX8_forAll_10 ?_
    refine z_iload_n (pc := 13) F dX8_forAll_13 rfl ?_
    refine z_if_lt (pc := 14) F 22 dX8_forAll_14 (by decide) (fun h7 => ?_) (fun h7 => ?_)
    · refine z_iconst (pc := 22) F (v := -1) dX8_forAll_22 (by decide) ?_
      exact z_iret (pc := 23) F E dX8_forAll_23
    · refine z_iload_n (pc := 17) F dX8_forAll_17 rfl ?_
      refine z_iconst (pc := 18) F (v := 4) dX8_forAll_18 (by decide) ?_
      refine z_icmp_lt (pc := 19) F 24 dX8_forAll_19 (by decide) (fun h6 => ?_) (fun h6 => ?_)
      · refine z_aload_n (pc := 24) F dX8_forAll_24 rfl ?_
        refine z_get (pc := 25) F 0 0 3 (v := .ref (zad K 10 0)) (by decide) (fun _ => rfl) rfl (by decide) inlX8 lk_RX8_35 rfl dX8_forAll_25 ?_
        refine z_aload_n (pc := 28) F dX8_forAll_28 rfl ?_
        refine z_iload_n (pc := 29) F dX8_forAll_29 rfl ?_
        refine z_callNi (pc := 30) (st := []) F 10 0 [.ref (zad K 13 i2), .int a2] cl_RX8_182 (tX2_leastNewForAll (zln K) s1 i2 a2 h3) rfl (by decide) (fun _ => ⟨_, rfl⟩) rfl (by rw [hR]; exact ⟨rfl, rfl, Nat.le_of_ble_eq_true rfl, Nat.le_of_ble_eq_true rfl⟩) rfl rfl (Nat.le_of_ble_eq_true rfl) dX8_forAll_30 (fun x5 s4 => ?_)
        exact z_iret (pc := 33) F E dX8_forAll_33
      · refine z_iconst (pc := 22) F (v := -1) dX8_forAll_22 (by decide) ?_
        exact z_iret (pc := 23) F E dX8_forAll_23
def fX8_fresh (a1 : Int32) (a2 : Int32) (a3 : Int32) (σ : zS) : Option (Int32 × zS) := zCq (fX2_nodeOf a1 a2 σ) (fun s1 => zCq (fX2_nodeOf a1 a3 s1) (fun s4 => some ((-1 : Int32), s4)) (fun i5 s4 => zGd (i5 < 12) (some ((-1 : Int32), s4)))) (fun i2 s1 => zGd (i2 < 12) (zCq (fX2_nodeOf a1 a3 s1) (fun s7 => some ((-1 : Int32), s7)) (fun i8 s7 => zGd (i8 < 12) (if a2 = a3 then some ((-3 : Int32), s7) else zCi (fX2_leastNew i2 i8 s7) (fun x11 s10 => some (x11, s10))))))
abbrev rmX8_fresh : Room := { frames := 5, cells := 0, slots := 0, locals := 115 }
set_option maxRecDepth 100000 in
set_option maxHeartbeats 4000000 in
theorem tX8_fresh (l : Launch) (σ : zS) (a1 : Int32) (a2 : Int32) (a3 : Int32) : zMi l yX8_fresh cX8_fresh 6 (some .int) rmX8_fresh (fun ad => [.ref (ad 0 0), .int a1, .int a2, .int a3]) σ (fX8_fresh a1 a2 a3 σ) := by
  refine zMi.of RX8 (by decide +kernel) rfl (fun _ => Nat.le_of_ble_eq_true rfl) (fun _ => zcat rfl) (fun K t F hR hL E => ?_)
  show ZO K t 0 [some (.ref (zad K 0 0)), some (.int a1), some (.int a2), some (.int a3), none, none] [] σ (zCq (fX2_nodeOf a1 a2 σ) (fun s1 => zCq (fX2_nodeOf a1 a3 s1) (fun s4 => some ((-1 : Int32), s4)) (fun i5 s4 => zGd (i5 < 12) (some ((-1 : Int32), s4)))) (fun i2 s1 => zGd (i2 < 12) (zCq (fX2_nodeOf a1 a3 s1) (fun s7 => some ((-1 : Int32), s7)) (fun i8 s7 => zGd (i8 < 12) (if a2 = a3 then some ((-3 : Int32), s7) else zCi (fX2_leastNew i2 i8 s7) (fun x11 s10 => some (x11, s10)))))))
  refine z_aload_n (pc := 0) F dX8_fresh_0 rfl ?_
  refine z_get (pc := 1) F 0 0 3 (v := .ref (zad K 10 0)) (by decide) (fun _ => rfl) rfl (by decide) inlX8 lk_RX8_35 rfl dX8_fresh_1 ?_
  refine z_iload_n (pc := 4) F dX8_fresh_4 rfl ?_
  refine z_iload_n (pc := 5) F dX8_fresh_5 rfl ?_
  refine z_callNq (pc := 6) (st := []) F 10 0 [.int a1, .int a2] cl_RX8_144 (tX2_nodeOf (zln K) σ a1 a2) rfl (by decide) (fun _ => ⟨_, rfl⟩) rfl (by rw [hR]; exact ⟨rfl, rfl, Nat.le_of_ble_eq_true rfl, Nat.le_of_ble_eq_true rfl⟩) rfl rfl (Nat.le_of_ble_eq_true rfl) dX8_fresh_6 (fun s1 => ?_) (fun i2 s1 => ?_)
  · refine z_astoreN (pc := 9) F (lv' := [some (.ref (zad K 0 0)), some (.int a1), some (.int a2), some (.int a3), some (.null), none]) dX8_fresh_9 (zlt rfl) rfl ?_
    refine z_aload_n (pc := 11) F dX8_fresh_11 rfl ?_
    refine z_get (pc := 12) F 0 0 3 (v := .ref (zad K 10 0)) (by decide) (fun _ => rfl) rfl (by decide) inlX8 lk_RX8_35 rfl dX8_fresh_12 ?_
    refine z_iload_n (pc := 15) F dX8_fresh_15 rfl ?_
    refine z_iload_n (pc := 16) F dX8_fresh_16 rfl ?_
    refine z_callNq (pc := 17) (st := []) F 10 0 [.int a1, .int a3] cl_RX8_144 (tX2_nodeOf (zln K) s1 a1 a3) rfl (by decide) (fun _ => ⟨_, rfl⟩) rfl (by rw [hR]; exact ⟨rfl, rfl, Nat.le_of_ble_eq_true rfl, Nat.le_of_ble_eq_true rfl⟩) rfl rfl (Nat.le_of_ble_eq_true rfl) dX8_fresh_17 (fun s4 => ?_) (fun i5 s4 => ?_)
    · refine z_astoreN (pc := 20) F (lv' := [some (.ref (zad K 0 0)), some (.int a1), some (.int a2), some (.int a3), some (.null), some (.null)]) dX8_fresh_20 (zlt rfl) rfl ?_
      refine z_aloadN (pc := 22) F dX8_fresh_22 rfl ?_
      refine z_ifnullN (pc := 24) F 32 dX8_fresh_24 (by decide) ?_
      refine z_iconst (pc := 32) F (v := -1) dX8_fresh_32 (by decide) ?_
      exact z_iret (pc := 33) F E dX8_fresh_33
    · refine z_gd (fun h6 => ?_)
      refine z_astore (pc := 20) F (lv' := [some (.ref (zad K 0 0)), some (.int a1), some (.int a2), some (.int a3), some (.null), some (.ref (zad K 15 i5))]) dX8_fresh_20 (zlt rfl) rfl ?_
      refine z_aloadN (pc := 22) F dX8_fresh_22 rfl ?_
      refine z_ifnullN (pc := 24) F 32 dX8_fresh_24 (by decide) ?_
      refine z_iconst (pc := 32) F (v := -1) dX8_fresh_32 (by decide) ?_
      exact z_iret (pc := 33) F E dX8_fresh_33
  · refine z_gd (fun h3 => ?_)
    refine z_astore (pc := 9) F (lv' := [some (.ref (zad K 0 0)), some (.int a1), some (.int a2), some (.int a3), some (.ref (zad K 15 i2)), none]) dX8_fresh_9 (zlt rfl) rfl ?_
    refine z_aload_n (pc := 11) F dX8_fresh_11 rfl ?_
    refine z_get (pc := 12) F 0 0 3 (v := .ref (zad K 10 0)) (by decide) (fun _ => rfl) rfl (by decide) inlX8 lk_RX8_35 rfl dX8_fresh_12 ?_
    refine z_iload_n (pc := 15) F dX8_fresh_15 rfl ?_
    refine z_iload_n (pc := 16) F dX8_fresh_16 rfl ?_
    refine z_callNq (pc := 17) (st := []) F 10 0 [.int a1, .int a3] cl_RX8_144 (tX2_nodeOf (zln K) s1 a1 a3) rfl (by decide) (fun _ => ⟨_, rfl⟩) rfl (by rw [hR]; exact ⟨rfl, rfl, Nat.le_of_ble_eq_true rfl, Nat.le_of_ble_eq_true rfl⟩) rfl rfl (Nat.le_of_ble_eq_true rfl) dX8_fresh_17 (fun s7 => ?_) (fun i8 s7 => ?_)
    · refine z_astoreN (pc := 20) F (lv' := [some (.ref (zad K 0 0)), some (.int a1), some (.int a2), some (.int a3), some (.ref (zad K 15 i2)), some (.null)]) dX8_fresh_20 (zlt rfl) rfl ?_
      refine z_aload (pc := 22) F dX8_fresh_22 rfl ?_
      refine z_ifnull (pc := 24) F dX8_fresh_24 ?_
      refine z_aloadN (pc := 27) F dX8_fresh_27 rfl ?_
      refine z_ifnonnullN (pc := 29) F dX8_fresh_29 ?_
      refine z_iconst (pc := 32) F (v := -1) dX8_fresh_32 (by decide) ?_
      exact z_iret (pc := 33) F E dX8_fresh_33
    · refine z_gd (fun h9 => ?_)
      refine z_astore (pc := 20) F (lv' := [some (.ref (zad K 0 0)), some (.int a1), some (.int a2), some (.int a3), some (.ref (zad K 15 i2)), some (.ref (zad K 15 i8))]) dX8_fresh_20 (zlt rfl) rfl ?_
      refine z_aload (pc := 22) F dX8_fresh_22 rfl ?_
      refine z_ifnull (pc := 24) F dX8_fresh_24 ?_
      refine z_aload (pc := 27) F dX8_fresh_27 rfl ?_
      refine z_ifnonnull (pc := 29) F 34 dX8_fresh_29 (by decide) ?_
      refine z_iload_n (pc := 34) F dX8_fresh_34 rfl ?_
      refine z_iload_n (pc := 35) F dX8_fresh_35 rfl ?_
      refine z_icmp_ne (pc := 36) F 44 dX8_fresh_36 (by decide) (fun h12 => ?_) (fun h12 => ?_)
      · refine z_aload_n (pc := 44) F dX8_fresh_44 rfl ?_
        refine z_get (pc := 45) F 0 0 3 (v := .ref (zad K 10 0)) (by decide) (fun _ => rfl) rfl (by decide) inlX8 lk_RX8_35 rfl dX8_fresh_45 ?_
        refine z_aload (pc := 48) F dX8_fresh_48 rfl ?_
        refine z_aload (pc := 50) F dX8_fresh_50 rfl ?_
        refine z_callNi (pc := 52) (st := []) F 10 0 [.ref (zad K 15 i2), .ref (zad K 15 i8)] cl_RX8_178 (tX2_leastNew (zln K) s7 i2 i8 h3 h9) rfl (by decide) (fun _ => ⟨_, rfl⟩) rfl (by rw [hR]; exact ⟨rfl, rfl, Nat.le_of_ble_eq_true rfl, Nat.le_of_ble_eq_true rfl⟩) rfl rfl (Nat.le_of_ble_eq_true rfl) dX8_fresh_52 (fun x11 s10 => ?_)
        exact z_iret (pc := 55) F E dX8_fresh_55
      · refine z_bipush (pc := 39) F (v := -3) dX8_fresh_39 (by decide) ?_
        refine z_goto (pc := 41) F 55 dX8_fresh_41 (by decide) ?_
        exact z_iret (pc := 55) F E dX8_fresh_55
def fX8_isStation (a1 : Int32) (σ : zS) : Option (Int32 × zS) := if a1 < 0 then some ((0 : Int32), σ) else if (8 : Int32) ≤ a1 then some ((0 : Int32), σ) else some ((1 : Int32), σ)
abbrev rmX8_isStation : Room := { frames := 0, cells := 0, slots := 0, locals := 0 }
set_option maxRecDepth 100000 in
set_option maxHeartbeats 4000000 in
theorem tX8_isStation (l : Launch) (σ : zS) (a1 : Int32) : zMi l yX8_isStation cX8_isStation 1 (some .boolean) rmX8_isStation (fun _ => [.int a1]) σ (fX8_isStation a1 σ) := by
  refine zMi.of RX8 (by decide +kernel) rfl (fun _ => Nat.le_of_ble_eq_true rfl) (fun _ => zcat rfl) (fun K t F hR hL E => ?_)
  show ZO K t 0 [some (.int a1)] [] σ (if a1 < 0 then some ((0 : Int32), σ) else if (8 : Int32) ≤ a1 then some ((0 : Int32), σ) else some ((1 : Int32), σ))
  refine z_iload_n (pc := 0) F dX8_isStation_0 rfl ?_
  refine z_if_lt (pc := 1) F 14 dX8_isStation_1 (by decide) (fun h2 => ?_) (fun h2 => ?_)
  · refine z_iconst (pc := 14) F (v := 0) dX8_isStation_14 (by decide) ?_
    exact z_zret (pc := 15) F E (by decide) dX8_isStation_15
  · refine z_iload_n (pc := 4) F dX8_isStation_4 rfl ?_
    refine z_bipush (pc := 5) F (v := 8) dX8_isStation_5 (by decide) ?_
    refine z_icmp_ge (pc := 7) F 14 dX8_isStation_7 (by decide) (fun h1 => ?_) (fun h1 => ?_)
    · refine z_iconst (pc := 14) F (v := 0) dX8_isStation_14 (by decide) ?_
      exact z_zret (pc := 15) F E (by decide) dX8_isStation_15
    · refine z_iconst (pc := 10) F (v := 1) dX8_isStation_10 (by decide) ?_
      refine z_goto (pc := 11) F 15 dX8_isStation_11 (by decide) ?_
      exact z_zret (pc := 15) F E (by decide) dX8_isStation_15
def fX8_has (a1 : Int32) (a2 : Int32) (a3 : Int32) (σ : zS) : Option (Int32 × zS) := zCi (fX8_isStation a1 σ) (fun x2 s1 => if x2 = 0 then some ((-1 : Int32), s1) else zCi (fX6_isThere a2 s1) (fun x4 s3 => if x4 = 0 then some ((-1 : Int32), s3) else if a3 = 0 then zCi (fX6_holds a1 a2 s3) (fun x6 s5 => if a3 = (1 : Int32) then zCi (fX6_give a1 a2 s5) (fun x10 s9 => if x6 = 0 then some ((0 : Int32), s9) else some ((1 : Int32), s9)) else zCv (fX6_takeFrom a1 a2 s5) (fun s7 => if x6 = 0 then some ((0 : Int32), s7) else some ((1 : Int32), s7))) else if a3 = (1 : Int32) then zCi (fX6_holds a1 a2 s3) (fun x14 s13 => if a3 = (1 : Int32) then zCi (fX6_give a1 a2 s13) (fun x18 s17 => if x14 = 0 then some ((0 : Int32), s17) else some ((1 : Int32), s17)) else zCv (fX6_takeFrom a1 a2 s13) (fun s15 => if x14 = 0 then some ((0 : Int32), s15) else some ((1 : Int32), s15))) else some ((-2 : Int32), s3)))
abbrev rmX8_has : Room := { frames := 3, cells := 0, slots := 0, locals := 69 }
set_option maxRecDepth 100000 in
set_option maxHeartbeats 4000000 in
theorem tX8_has (l : Launch) (σ : zS) (a1 : Int32) (a2 : Int32) (a3 : Int32) : zMi l yX8_has cX8_has 5 (some .int) rmX8_has (fun ad => [.ref (ad 0 0), .int a1, .int a2, .int a3]) σ (fX8_has a1 a2 a3 σ) := by
  refine zMi.of RX8 (by decide +kernel) rfl (fun _ => Nat.le_of_ble_eq_true rfl) (fun _ => zcat rfl) (fun K t F hR hL E => ?_)
  show ZO K t 0 [some (.ref (zad K 0 0)), some (.int a1), some (.int a2), some (.int a3), none] [] σ (zCi (fX8_isStation a1 σ) (fun x2 s1 => if x2 = 0 then some ((-1 : Int32), s1) else zCi (fX6_isThere a2 s1) (fun x4 s3 => if x4 = 0 then some ((-1 : Int32), s3) else if a3 = 0 then zCi (fX6_holds a1 a2 s3) (fun x6 s5 => if a3 = (1 : Int32) then zCi (fX6_give a1 a2 s5) (fun x10 s9 => if x6 = 0 then some ((0 : Int32), s9) else some ((1 : Int32), s9)) else zCv (fX6_takeFrom a1 a2 s5) (fun s7 => if x6 = 0 then some ((0 : Int32), s7) else some ((1 : Int32), s7))) else if a3 = (1 : Int32) then zCi (fX6_holds a1 a2 s3) (fun x14 s13 => if a3 = (1 : Int32) then zCi (fX6_give a1 a2 s13) (fun x18 s17 => if x14 = 0 then some ((0 : Int32), s17) else some ((1 : Int32), s17)) else zCv (fX6_takeFrom a1 a2 s13) (fun s15 => if x14 = 0 then some ((0 : Int32), s15) else some ((1 : Int32), s15))) else some ((-2 : Int32), s3))))
  refine z_iload_n (pc := 0) F dX8_has_0 rfl ?_
  refine z_callSi (pc := 1) (st := []) F [.int a1] cl_RX8_58 (tX8_isStation (zln K) σ a1) rfl (by rw [hR]; exact ⟨rfl, rfl, Nat.le_of_ble_eq_true rfl, Nat.le_of_ble_eq_true rfl⟩) rfl rfl (Nat.le_of_ble_eq_true rfl) dX8_has_1 (fun x2 s1 => ?_)
  refine z_if_eq (pc := 4) F 18 dX8_has_4 (by decide) (fun h24 => ?_) (fun h24 => ?_)
  · refine z_iconst (pc := 18) F (v := -1) dX8_has_18 (by decide) ?_
    exact z_iret (pc := 19) F E dX8_has_19
  · refine z_aload_n (pc := 7) F dX8_has_7 rfl ?_
    refine z_get (pc := 8) F 0 0 0 (v := .ref (zad K 1 0)) (by decide) (fun _ => rfl) rfl (by decide) inlX8 lk_RX8_12 rfl dX8_has_8 ?_
    refine z_iload_n (pc := 11) F dX8_has_11 rfl ?_
    refine z_callNi (pc := 12) (st := []) F 1 0 [.int a2] cl_RX8_50 (tX6_isThere (zln K) s1 a2) rfl (by decide) (fun _ => ⟨_, rfl⟩) rfl (by rw [hR]; exact ⟨rfl, rfl, Nat.le_of_ble_eq_true rfl, Nat.le_of_ble_eq_true rfl⟩) rfl rfl (Nat.le_of_ble_eq_true rfl) dX8_has_12 (fun x4 s3 => ?_)
    refine z_if_ne (pc := 15) F 20 dX8_has_15 (by decide) (fun h23 => ?_) (fun h23 => ?_)
    · refine z_iload_n (pc := 20) F dX8_has_20 rfl ?_
      refine z_if_eq (pc := 21) F 32 dX8_has_21 (by decide) (fun h22 => ?_) (fun h22 => ?_)
      · refine z_aload_n (pc := 32) F dX8_has_32 rfl ?_
        refine z_get (pc := 33) F 0 0 0 (v := .ref (zad K 1 0)) (by decide) (fun _ => rfl) rfl (by decide) inlX8 lk_RX8_12 rfl dX8_has_33 ?_
        refine z_iload_n (pc := 36) F dX8_has_36 rfl ?_
        refine z_iload_n (pc := 37) F dX8_has_37 rfl ?_
        refine z_callNi (pc := 38) (st := []) F 1 0 [.int a1, .int a2] cl_RX8_61 (tX6_holds (zln K) s3 a1 a2) rfl (by decide) (fun _ => ⟨_, rfl⟩) rfl (by rw [hR]; exact ⟨rfl, rfl, Nat.le_of_ble_eq_true rfl, Nat.le_of_ble_eq_true rfl⟩) rfl rfl (Nat.le_of_ble_eq_true rfl) dX8_has_38 (fun x6 s5 => ?_)
        refine z_istore (pc := 41) F (lv' := [some (.ref (zad K 0 0)), some (.int a1), some (.int a2), some (.int a3), some (.int x6)]) dX8_has_41 (zlt rfl) rfl ?_
        refine z_iload_n (pc := 43) F dX8_has_43 rfl ?_
        refine z_iconst (pc := 44) F (v := 1) dX8_has_44 (by decide) ?_
        refine z_icmp_ne (pc := 45) F 61 dX8_has_45 (by decide) (fun h12 => ?_) (fun h12 => ?_)
        · refine z_aload_n (pc := 61) F dX8_has_61 rfl ?_
          refine z_get (pc := 62) F 0 0 0 (v := .ref (zad K 1 0)) (by decide) (fun _ => rfl) rfl (by decide) inlX8 lk_RX8_12 rfl dX8_has_62 ?_
          refine z_iload_n (pc := 65) F dX8_has_65 rfl ?_
          refine z_iload_n (pc := 66) F dX8_has_66 rfl ?_
          refine z_callNv (pc := 67) (st := []) F 1 0 [.int a1, .int a2] cl_RX8_67 (tX6_takeFrom (zln K) s5 a1 a2) rfl (by decide) (fun _ => ⟨_, rfl⟩) rfl (by rw [hR]; exact ⟨rfl, rfl, Nat.le_of_ble_eq_true rfl, Nat.le_of_ble_eq_true rfl⟩) rfl rfl (Nat.le_of_ble_eq_true rfl) dX8_has_67 (fun s7 => ?_)
          refine z_iload (pc := 70) F dX8_has_70 rfl ?_
          refine z_if_eq (pc := 72) F 79 dX8_has_72 (by decide) (fun h8 => ?_) (fun h8 => ?_)
          · refine z_iconst (pc := 79) F (v := 0) dX8_has_79 (by decide) ?_
            exact z_iret (pc := 80) F E dX8_has_80
          · refine z_iconst (pc := 75) F (v := 1) dX8_has_75 (by decide) ?_
            refine z_goto (pc := 76) F 80 dX8_has_76 (by decide) ?_
            exact z_iret (pc := 80) F E dX8_has_80
        · refine z_aload_n (pc := 48) F dX8_has_48 rfl ?_
          refine z_get (pc := 49) F 0 0 0 (v := .ref (zad K 1 0)) (by decide) (fun _ => rfl) rfl (by decide) inlX8 lk_RX8_12 rfl dX8_has_49 ?_
          refine z_iload_n (pc := 52) F dX8_has_52 rfl ?_
          refine z_iload_n (pc := 53) F dX8_has_53 rfl ?_
          refine z_callNi (pc := 54) (st := []) F 1 0 [.int a1, .int a2] cl_RX8_64 (tX6_give (zln K) s5 a1 a2) rfl (by decide) (fun _ => ⟨_, rfl⟩) rfl (by rw [hR]; exact ⟨rfl, rfl, Nat.le_of_ble_eq_true rfl, Nat.le_of_ble_eq_true rfl⟩) rfl rfl (Nat.le_of_ble_eq_true rfl) dX8_has_54 (fun x10 s9 => ?_)
          refine z_pop (pc := 57) F dX8_has_57 rfl ?_
          refine z_goto (pc := 58) F 70 dX8_has_58 (by decide) ?_
          refine z_iload (pc := 70) F dX8_has_70 rfl ?_
          refine z_if_eq (pc := 72) F 79 dX8_has_72 (by decide) (fun h11 => ?_) (fun h11 => ?_)
          · refine z_iconst (pc := 79) F (v := 0) dX8_has_79 (by decide) ?_
            exact z_iret (pc := 80) F E dX8_has_80
          · refine z_iconst (pc := 75) F (v := 1) dX8_has_75 (by decide) ?_
            refine z_goto (pc := 76) F 80 dX8_has_76 (by decide) ?_
            exact z_iret (pc := 80) F E dX8_has_80
      · refine z_iload_n (pc := 24) F dX8_has_24 rfl ?_
        refine z_iconst (pc := 25) F (v := 1) dX8_has_25 (by decide) ?_
        refine z_icmp_eq (pc := 26) F 32 dX8_has_26 (by decide) (fun h21 => ?_) (fun h21 => ?_)
        · refine z_aload_n (pc := 32) F dX8_has_32 rfl ?_
          refine z_get (pc := 33) F 0 0 0 (v := .ref (zad K 1 0)) (by decide) (fun _ => rfl) rfl (by decide) inlX8 lk_RX8_12 rfl dX8_has_33 ?_
          refine z_iload_n (pc := 36) F dX8_has_36 rfl ?_
          refine z_iload_n (pc := 37) F dX8_has_37 rfl ?_
          refine z_callNi (pc := 38) (st := []) F 1 0 [.int a1, .int a2] cl_RX8_61 (tX6_holds (zln K) s3 a1 a2) rfl (by decide) (fun _ => ⟨_, rfl⟩) rfl (by rw [hR]; exact ⟨rfl, rfl, Nat.le_of_ble_eq_true rfl, Nat.le_of_ble_eq_true rfl⟩) rfl rfl (Nat.le_of_ble_eq_true rfl) dX8_has_38 (fun x14 s13 => ?_)
          refine z_istore (pc := 41) F (lv' := [some (.ref (zad K 0 0)), some (.int a1), some (.int a2), some (.int a3), some (.int x14)]) dX8_has_41 (zlt rfl) rfl ?_
          refine z_iload_n (pc := 43) F dX8_has_43 rfl ?_
          refine z_iconst (pc := 44) F (v := 1) dX8_has_44 (by decide) ?_
          refine z_icmp_ne (pc := 45) F 61 dX8_has_45 (by decide) (fun h20 => ?_) (fun h20 => ?_)
          · refine z_aload_n (pc := 61) F dX8_has_61 rfl ?_
            refine z_get (pc := 62) F 0 0 0 (v := .ref (zad K 1 0)) (by decide) (fun _ => rfl) rfl (by decide) inlX8 lk_RX8_12 rfl dX8_has_62 ?_
            refine z_iload_n (pc := 65) F dX8_has_65 rfl ?_
            refine z_iload_n (pc := 66) F dX8_has_66 rfl ?_
            refine z_callNv (pc := 67) (st := []) F 1 0 [.int a1, .int a2] cl_RX8_67 (tX6_takeFrom (zln K) s13 a1 a2) rfl (by decide) (fun _ => ⟨_, rfl⟩) rfl (by rw [hR]; exact ⟨rfl, rfl, Nat.le_of_ble_eq_true rfl, Nat.le_of_ble_eq_true rfl⟩) rfl rfl (Nat.le_of_ble_eq_true rfl) dX8_has_67 (fun s15 => ?_)
            refine z_iload (pc := 70) F dX8_has_70 rfl ?_
            refine z_if_eq (pc := 72) F 79 dX8_has_72 (by decide) (fun h16 => ?_) (fun h16 => ?_)
            · refine z_iconst (pc := 79) F (v := 0) dX8_has_79 (by decide) ?_
              exact z_iret (pc := 80) F E dX8_has_80
            · refine z_iconst (pc := 75) F (v := 1) dX8_has_75 (by decide) ?_
              refine z_goto (pc := 76) F 80 dX8_has_76 (by decide) ?_
              exact z_iret (pc := 80) F E dX8_has_80
          · refine z_aload_n (pc := 48) F dX8_has_48 rfl ?_
            refine z_get (pc := 49) F 0 0 0 (v := .ref (zad K 1 0)) (by decide) (fun _ => rfl) rfl (by decide) inlX8 lk_RX8_12 rfl dX8_has_49 ?_
            refine z_iload_n (pc := 52) F dX8_has_52 rfl ?_
            refine z_iload_n (pc := 53) F dX8_has_53 rfl ?_
            refine z_callNi (pc := 54) (st := []) F 1 0 [.int a1, .int a2] cl_RX8_64 (tX6_give (zln K) s13 a1 a2) rfl (by decide) (fun _ => ⟨_, rfl⟩) rfl (by rw [hR]; exact ⟨rfl, rfl, Nat.le_of_ble_eq_true rfl, Nat.le_of_ble_eq_true rfl⟩) rfl rfl (Nat.le_of_ble_eq_true rfl) dX8_has_54 (fun x18 s17 => ?_)
            refine z_pop (pc := 57) F dX8_has_57 rfl ?_
            refine z_goto (pc := 58) F 70 dX8_has_58 (by decide) ?_
            refine z_iload (pc := 70) F dX8_has_70 rfl ?_
            refine z_if_eq (pc := 72) F 79 dX8_has_72 (by decide) (fun h19 => ?_) (fun h19 => ?_)
            · refine z_iconst (pc := 79) F (v := 0) dX8_has_79 (by decide) ?_
              exact z_iret (pc := 80) F E dX8_has_80
            · refine z_iconst (pc := 75) F (v := 1) dX8_has_75 (by decide) ?_
              refine z_goto (pc := 76) F 80 dX8_has_76 (by decide) ?_
              exact z_iret (pc := 80) F E dX8_has_80
        · refine z_bipush (pc := 29) F (v := -2) dX8_has_29 (by decide) ?_
          exact z_iret (pc := 31) F E dX8_has_31
    · refine z_iconst (pc := 18) F (v := -1) dX8_has_18 (by decide) ?_
      exact z_iret (pc := 19) F E dX8_has_19
