def fX3_newLead_2 (nd : Nat) (r1 : Nat) (k2_1 : zS → Option (Int32 × zS)) : Nat → Int32 → zS → Option (Int32 × zS)
  | 0, _, _ => none
  | (n2_1 + 1), v3_2_1, w2_1 => if (5 : Int32) ≤ v3_2_1 then k2_1 w2_1 else zCi (fX3_leftover nd r1 v3_2_1 w2_1) (fun x3 s2 => if x3 = 0 then zB (v3_2_1 + 1) (fun x4 => fX3_newLead_2 nd r1 k2_1 n2_1 x4 s2) else some (v3_2_1, s2))
def fX3_newLead (nd : Nat) (r1 : Nat) (σ : zS) : Option (Int32 × zS) := fX3_newLead_2 nd r1 (fun (y2_1 : zS) => (some ((-1 : Int32), y2_1) : Option (Int32 × zS))) zN (0 : Int32) σ
abbrev rmX3_newLead : Room := { frames := 3, cells := 0, slots := 0, locals := 68 }
set_option maxRecDepth 100000 in
set_option maxHeartbeats 4000000 in
theorem tX3_newLead (l : Launch) (σ : zS) (nd : Nat) (r1 : Nat) (h_nd : nd < 12) (h_r1 : r1 < 61) : zMi l yX3_newLead cX3_newLead 4 (some .int) rmX3_newLead (fun ad => [.ref (ad 15 nd), .ref (ad 18 r1), .ref (ad 9 0)]) σ (fX3_newLead nd r1 σ) := by
  refine zMi.of RX3 (by decide +kernel) rfl (fun _ => Nat.le_of_ble_eq_true rfl) (fun _ => zcat rfl) (fun K t F hR hL E => ?_)
  show ZO K t 0 [some (.ref (zad K 15 nd)), some (.ref (zad K 18 r1)), some (.ref (zad K 9 0)), none] [] σ (fX3_newLead_2 nd r1 (fun (y2_1 : zS) => (some ((-1 : Int32), y2_1) : Option (Int32 × zS))) zN (0 : Int32) σ)
  refine z_iconst (pc := 0) F (v := 0) dX3_newLead_0 (by decide) ?_
  refine z_istore_n (pc := 1) F (lv' := [some (.ref (zad K 15 nd)), some (.ref (zad K 18 r1)), some (.ref (zad K 9 0)), some (.int (0 : Int32))]) dX3_newLead_1 (zlt rfl) rfl ?_
  have hk2_1 : ∀ (y2_1 : zS), ZO K t 25 [none, none, none, none] [] y2_1 ((fun (y2_1 : zS) => (some ((-1 : Int32), y2_1) : Option (Int32 × zS))) y2_1) := by
    intro y2_1
    show ZO K t 25 [none, none, none, none] [] y2_1 (some ((-1 : Int32), y2_1))
    refine z_iconst (pc := 25) F (v := -1) dX3_newLead_25 (by decide) ?_
    exact z_iret (pc := 26) F E dX3_newLead_26
  have L2_1 : ∀ (n2_1 : Nat) (v3_2_1 : Int32) (w2_1 : zS), ZO K t 2 [some (.ref (zad K 15 nd)), some (.ref (zad K 18 r1)), some (.ref (zad K 9 0)), some (.int v3_2_1)] [] w2_1 (fX3_newLead_2 nd r1 (fun (y2_1 : zS) => (some ((-1 : Int32), y2_1) : Option (Int32 × zS))) n2_1 v3_2_1 w2_1) := by
    revert hk2_1; generalize (fun (y2_1 : zS) => (some ((-1 : Int32), y2_1) : Option (Int32 × zS))) = k2_1; intro hk2_1
    intro n2_1
    induction n2_1 with
    | zero => intro v3_2_1 w2_1; exact z_none
    | succ n2_1 ih2_1 =>
      intro v3_2_1 w2_1
      show ZO K t 2 [some (.ref (zad K 15 nd)), some (.ref (zad K 18 r1)), some (.ref (zad K 9 0)), some (.int v3_2_1)] [] w2_1 (if (5 : Int32) ≤ v3_2_1 then k2_1 w2_1 else zCi (fX3_leftover nd r1 v3_2_1 w2_1) (fun x3 s2 => if x3 = 0 then zB (v3_2_1 + 1) (fun x4 => fX3_newLead_2 nd r1 k2_1 n2_1 x4 s2) else some (v3_2_1, s2)))
      refine z_iload_n (pc := 2) F dX3_newLead_2 rfl ?_
      refine z_iconst (pc := 3) F (v := 5) dX3_newLead_3 (by decide) ?_
      refine z_icmp_ge (pc := 4) F 25 dX3_newLead_4 (by decide) (fun h6 => ?_) (fun h6 => ?_)
      · refine z_wk [false, false, false, false] (lv' := [none, none, none, none]) rfl ?_
        exact hk2_1  w2_1
      · refine z_aload_n (pc := 7) F dX3_newLead_7 rfl ?_
        refine z_aload_n (pc := 8) F dX3_newLead_8 rfl ?_
        refine z_aload_n (pc := 9) F dX3_newLead_9 rfl ?_
        refine z_iload_n (pc := 10) F dX3_newLead_10 rfl ?_
        refine z_callVi (pc := 11) (st := []) F 15 nd [.ref (zad K 18 r1), .ref (zad K 9 0), .int v3_2_1] cl_RX3_33 (tX3_leftover (zln K) w2_1 nd r1 v3_2_1 h_nd h_r1) rfl h_nd (fun _ => ⟨_, rfl⟩) rfl (by rw [hR]; exact ⟨rfl, rfl, Nat.le_of_ble_eq_true rfl, Nat.le_of_ble_eq_true rfl⟩) rfl rfl (Nat.le_of_ble_eq_true rfl) dX3_newLead_11 (fun x3 s2 => ?_)
        refine z_if_eq (pc := 14) F 19 dX3_newLead_14 (by decide) (fun h5 => ?_) (fun h5 => ?_)
        · refine z_iincB (pc := 19) F (lv' := fun x4 => [some (.ref (zad K 15 nd)), some (.ref (zad K 18 r1)), some (.ref (zad K 9 0)), some (.int x4)]) dX3_newLead_19 rfl rfl (fun _ => rfl) (fun x4 => ?_)
          refine z_goto (pc := 22) F 2 dX3_newLead_22 (by decide) ?_
          exact ih2_1 x4 s2
        · refine z_iload_n (pc := 17) F dX3_newLead_17 rfl ?_
          exact z_iret (pc := 18) F E dX3_newLead_18
  exact L2_1 zN (0 : Int32) σ
def fX3_addTimes_3 (r1 : Nat) (a3 : Int32) (r4 : Nat) (k3_1 : zS → Option (Int32 × zS)) : Nat → Int32 → zS → Option (Int32 × zS)
  | 0, _, _ => none
  | (n3_1 + 1), v4_3_1, w3_1 => if (8 : Int32) ≤ v4_3_1 then k3_1 w3_1 else zIx v4_3_1 8 (zIx v4_3_1 8 (zCi (fX0_left ((w3_1 18 r1 v4_3_1.toNatClampNeg) + (a3 * (w3_1 18 r4 v4_3_1.toNatClampNeg))) w3_1) (fun x5 s4 => zIx v4_3_1 8 (zB (zU s4 18 r1 v4_3_1.toNatClampNeg x5) (fun s7 => zB (v4_3_1 + 1) (fun x8 => fX3_addTimes_3 r1 a3 r4 k3_1 n3_1 x8 s7))))))
def fX3_addTimes (r1 : Nat) (a3 : Int32) (r4 : Nat) (σ : zS) : Option (Int32 × zS) := fX3_addTimes_3 r1 a3 r4 (fun (y3_1 : zS) => (some ((0 : Int32), y3_1) : Option (Int32 × zS))) zN (0 : Int32) σ
abbrev rmX3_addTimes : Room := { frames := 2, cells := 0, slots := 0, locals := 43 }
set_option maxRecDepth 100000 in
set_option maxHeartbeats 4000000 in
theorem tX3_addTimes (l : Launch) (σ : zS) (r1 : Nat) (a3 : Int32) (r4 : Nat) (h_r1 : r1 < 61) (h_r4 : r4 < 61) : zMv l yX3_addTimes cX3_addTimes 5 none rmX3_addTimes (fun ad => [.ref (ad 18 r1), .ref (ad 9 0), .int a3, .ref (ad 18 r4)]) σ (fX3_addTimes r1 a3 r4 σ) := by
  refine zMv.of RX3 (by decide +kernel) rfl (fun _ => Nat.le_of_ble_eq_true rfl) (fun _ => zcat rfl) (fun K t F hR hL E => ?_)
  show ZO K t 0 [some (.ref (zad K 18 r1)), some (.ref (zad K 9 0)), some (.int a3), some (.ref (zad K 18 r4)), none] [] σ (fX3_addTimes_3 r1 a3 r4 (fun (y3_1 : zS) => (some ((0 : Int32), y3_1) : Option (Int32 × zS))) zN (0 : Int32) σ)
  refine z_iconst (pc := 0) F (v := 0) dX3_addTimes_0 (by decide) ?_
  refine z_istore (pc := 1) F (lv' := [some (.ref (zad K 18 r1)), some (.ref (zad K 9 0)), some (.int a3), some (.ref (zad K 18 r4)), some (.int (0 : Int32))]) dX3_addTimes_1 (zlt rfl) rfl ?_
  have hk3_1 : ∀ (y3_1 : zS), ZO K t 35 [none, none, none, none, none] [] y3_1 ((fun (y3_1 : zS) => (some ((0 : Int32), y3_1) : Option (Int32 × zS))) y3_1) := by
    intro y3_1
    show ZO K t 35 [none, none, none, none, none] [] y3_1 (some ((0 : Int32), y3_1))
    exact z_vret (pc := 35) (x := 0) F E dX3_addTimes_35
  have L3_1 : ∀ (n3_1 : Nat) (v4_3_1 : Int32) (w3_1 : zS), ZO K t 3 [some (.ref (zad K 18 r1)), some (.ref (zad K 9 0)), some (.int a3), some (.ref (zad K 18 r4)), some (.int v4_3_1)] [] w3_1 (fX3_addTimes_3 r1 a3 r4 (fun (y3_1 : zS) => (some ((0 : Int32), y3_1) : Option (Int32 × zS))) n3_1 v4_3_1 w3_1) := by
    revert hk3_1; generalize (fun (y3_1 : zS) => (some ((0 : Int32), y3_1) : Option (Int32 × zS))) = k3_1; intro hk3_1
    intro n3_1
    induction n3_1 with
    | zero => intro v4_3_1 w3_1; exact z_none
    | succ n3_1 ih3_1 =>
      intro v4_3_1 w3_1
      show ZO K t 3 [some (.ref (zad K 18 r1)), some (.ref (zad K 9 0)), some (.int a3), some (.ref (zad K 18 r4)), some (.int v4_3_1)] [] w3_1 (if (8 : Int32) ≤ v4_3_1 then k3_1 w3_1 else zIx v4_3_1 8 (zIx v4_3_1 8 (zCi (fX0_left ((w3_1 18 r1 v4_3_1.toNatClampNeg) + (a3 * (w3_1 18 r4 v4_3_1.toNatClampNeg))) w3_1) (fun x5 s4 => zIx v4_3_1 8 (zB (zU s4 18 r1 v4_3_1.toNatClampNeg x5) (fun s7 => zB (v4_3_1 + 1) (fun x8 => fX3_addTimes_3 r1 a3 r4 k3_1 n3_1 x8 s7)))))))
      refine z_iload (pc := 3) F dX3_addTimes_3 rfl ?_
      refine z_bipush (pc := 5) F (v := 8) dX3_addTimes_5 (by decide) ?_
      refine z_icmp_ge (pc := 7) F 35 dX3_addTimes_7 (by decide) (fun h9 => ?_) (fun h9 => ?_)
      · refine z_wk [false, false, false, false, false] (lv' := [none, none, none, none, none]) rfl ?_
        exact hk3_1  w3_1
      · refine z_aload_n (pc := 10) F dX3_addTimes_10 rfl ?_
        refine z_iload (pc := 11) F dX3_addTimes_11 rfl ?_
        refine z_aload_n (pc := 13) F dX3_addTimes_13 rfl ?_
        refine z_aload_n (pc := 14) F dX3_addTimes_14 rfl ?_
        refine z_iload (pc := 15) F dX3_addTimes_15 rfl ?_
        refine z_ix (fun h2 => ?_)
        refine z_iald (pc := 17) F 18 r1 h_r1 (fun _ => rfl) h2 dX3_addTimes_17 ?_
        refine z_iload_n (pc := 18) F dX3_addTimes_18 rfl ?_
        refine z_aload_n (pc := 19) F dX3_addTimes_19 rfl ?_
        refine z_iload (pc := 20) F dX3_addTimes_20 rfl ?_
        refine z_ix (fun h3 => ?_)
        refine z_iald (pc := 22) F 18 r4 h_r4 (fun _ => rfl) h3 dX3_addTimes_22 ?_
        refine z_imul (pc := 23) F dX3_addTimes_23 ?_
        refine z_iadd (pc := 24) F dX3_addTimes_24 ?_
        refine z_callNi (pc := 25) (st := [.int v4_3_1, .ref (zad K 18 r1)]) F 9 0 [.int ((w3_1 18 r1 v4_3_1.toNatClampNeg) + (a3 * (w3_1 18 r4 v4_3_1.toNatClampNeg)))] cl_RX3_20 (tX0_left (zln K) w3_1 ((w3_1 18 r1 v4_3_1.toNatClampNeg) + (a3 * (w3_1 18 r4 v4_3_1.toNatClampNeg)))) rfl (by decide) (fun _ => ⟨_, rfl⟩) rfl (by rw [hR]; exact ⟨rfl, rfl, Nat.le_of_ble_eq_true rfl, Nat.le_of_ble_eq_true rfl⟩) rfl rfl (Nat.le_of_ble_eq_true rfl) dX3_addTimes_25 (fun x5 s4 => ?_)
        refine z_ix (fun h6 => ?_)
        refine z_iast (pc := 28) F 18 r1 h_r1 (fun _ _ => rfl) h6 dX3_addTimes_28 (fun s7 => ?_)
        refine z_iincB (pc := 29) F (lv' := fun x8 => [some (.ref (zad K 18 r1)), some (.ref (zad K 9 0)), some (.int a3), some (.ref (zad K 18 r4)), some (.int x8)]) dX3_addTimes_29 rfl rfl (fun _ => rfl) (fun x8 => ?_)
        refine z_goto (pc := 32) F 3 dX3_addTimes_32 (by decide) ?_
        exact ih3_1 x8 s7
  exact L3_1 zN (0 : Int32) σ
def fX3_take_69 (nd : Nat) (x2 : Int32) (k69_8 : zS → Option (Int32 × zS)) : Nat → Int32 → zS → Option (Int32 × zS)
  | 0, _, _ => none
  | (n69_8 + 1), v5_69_8, w69_8 => if (5 : Int32) ≤ v5_69_8 then k69_8 w69_8 else zIx v5_69_8 5 (if (w69_8 17 nd v5_69_8.toNatClampNeg) = 0 then zB (v5_69_8 + 1) (fun x12 => fX3_take_69 nd x2 k69_8 n69_8 x12 w69_8) else zIx v5_69_8 5 (zB (5 * nd + v5_69_8.toNatClampNeg) (fun i14 => zGd (i14 < 61) (zIx v5_69_8 5 (zB (5 * nd + v5_69_8.toNatClampNeg) (fun i17 => zGd (i17 < 61) (zIx x2 8 (zIx x2 5 (zB (5 * nd + x2.toNatClampNeg) (fun i21 => zGd (i21 < 61) (zCv (fX3_addTimes i14 (-(w69_8 18 i17 x2.toNatClampNeg)) i21 w69_8) (fun s23 => zB (v5_69_8 + 1) (fun x24 => fX3_take_69 nd x2 k69_8 n69_8 x24 s23)))))))))))))
def fX3_take_29 (nd : Nat) (r1 : Nat) (x2 : Int32) (x6 : Int32) (k29_7 : zS → Option (Int32 × zS)) : Nat → Int32 → zS → Option (Int32 × zS)
  | 0, _, _ => none
  | (n29_7 + 1), v5_29_7, w29_7 => if (8 : Int32) ≤ v5_29_7 then k29_7 w29_7 else zIx x2 5 (zB (5 * nd + x2.toNatClampNeg) (fun i28 => zGd (i28 < 61) (zCi (fX3_leftover nd r1 v5_29_7 w29_7) (fun x31 s30 => zCi (fX0_left (x6 * x31) s30) (fun x33 s32 => zIx v5_29_7 8 (zB (zU s32 18 i28 v5_29_7.toNatClampNeg x33) (fun s35 => zB (v5_29_7 + 1) (fun x36 => fX3_take_29 nd r1 x2 x6 k29_7 n29_7 x36 s35))))))))
def fX3_take (nd : Nat) (r1 : Nat) (σ : zS) : Option (Int32 × zS) := zCi (fX3_newLead nd r1 σ) (fun x2 s1 => if 0 ≤ x2 then zCi (fX3_leftover nd r1 x2 s1) (fun x4 s3 => zCi (fX0_inverse x4 s3) (fun x6 s5 => fX3_take_29 nd r1 x2 x6 (fun (y29_7 : zS) => (fX3_take_69 nd x2 (fun (y69_8 : zS) => (zIx x2 5 (zB (zU y69_8 17 nd x2.toNatClampNeg (vp_nar .boolean (1 : Int32))) (fun s10 => some ((1 : Int32), s10))) : Option (Int32 × zS))) zN (0 : Int32) y29_7 : Option (Int32 × zS))) zN (0 : Int32) s5)) else some ((0 : Int32), s1))
abbrev rmX3_take : Room := { frames := 4, cells := 0, slots := 0, locals := 91 }
set_option maxRecDepth 100000 in
set_option maxHeartbeats 4000000 in
theorem tX3_take (l : Launch) (σ : zS) (nd : Nat) (r1 : Nat) (h_nd : nd < 12) (h_r1 : r1 < 61) : zMi l yX3_take cX3_take 6 (some .boolean) rmX3_take (fun ad => [.ref (ad 15 nd), .ref (ad 18 r1), .ref (ad 9 0)]) σ (fX3_take nd r1 σ) := by
  refine zMi.of RX3 (by decide +kernel) rfl (fun _ => Nat.le_of_ble_eq_true rfl) (fun _ => zcat rfl) (fun K t F hR hL E => ?_)
  show ZO K t 0 [some (.ref (zad K 15 nd)), some (.ref (zad K 18 r1)), some (.ref (zad K 9 0)), none, none, none] [] σ (zCi (fX3_newLead nd r1 σ) (fun x2 s1 => if 0 ≤ x2 then zCi (fX3_leftover nd r1 x2 s1) (fun x4 s3 => zCi (fX0_inverse x4 s3) (fun x6 s5 => fX3_take_29 nd r1 x2 x6 (fun (y29_7 : zS) => (fX3_take_69 nd x2 (fun (y69_8 : zS) => (zIx x2 5 (zB (zU y69_8 17 nd x2.toNatClampNeg (vp_nar .boolean (1 : Int32))) (fun s10 => some ((1 : Int32), s10))) : Option (Int32 × zS))) zN (0 : Int32) y29_7 : Option (Int32 × zS))) zN (0 : Int32) s5)) else some ((0 : Int32), s1)))
  refine z_aload_n (pc := 0) F dX3_take_0 rfl ?_
  refine z_aload_n (pc := 1) F dX3_take_1 rfl ?_
  refine z_aload_n (pc := 2) F dX3_take_2 rfl ?_
  refine z_callVi (pc := 3) (st := []) F 15 nd [.ref (zad K 18 r1), .ref (zad K 9 0)] cl_RX3_37 (tX3_newLead (zln K) σ nd r1 h_nd h_r1) rfl h_nd (fun _ => ⟨_, rfl⟩) rfl (by rw [hR]; exact ⟨rfl, rfl, Nat.le_of_ble_eq_true rfl, Nat.le_of_ble_eq_true rfl⟩) rfl rfl (Nat.le_of_ble_eq_true rfl) dX3_take_3 (fun x2 s1 => ?_)
  refine z_istore_n (pc := 6) F (lv' := [some (.ref (zad K 15 nd)), some (.ref (zad K 18 r1)), some (.ref (zad K 9 0)), some (.int x2), none, none]) dX3_take_6 (zlt rfl) rfl ?_
  refine z_iload_n (pc := 7) F dX3_take_7 rfl ?_
  refine z_if_ge (pc := 8) F 13 dX3_take_8 (by decide) (fun h38 => ?_) (fun h38 => ?_)
  · refine z_aload_n (pc := 13) F dX3_take_13 rfl ?_
    refine z_aload_n (pc := 14) F dX3_take_14 rfl ?_
    refine z_aload_n (pc := 15) F dX3_take_15 rfl ?_
    refine z_aload_n (pc := 16) F dX3_take_16 rfl ?_
    refine z_iload_n (pc := 17) F dX3_take_17 rfl ?_
    refine z_callVi (pc := 18) (st := [.ref (zad K 9 0)]) F 15 nd [.ref (zad K 18 r1), .ref (zad K 9 0), .int x2] cl_RX3_33 (tX3_leftover (zln K) s1 nd r1 x2 h_nd h_r1) rfl h_nd (fun _ => ⟨_, rfl⟩) rfl (by rw [hR]; exact ⟨rfl, rfl, Nat.le_of_ble_eq_true rfl, Nat.le_of_ble_eq_true rfl⟩) rfl rfl (Nat.le_of_ble_eq_true rfl) dX3_take_18 (fun x4 s3 => ?_)
    refine z_callNi (pc := 21) (st := []) F 9 0 [.int x4] cl_RX3_41 (tX0_inverse (zln K) s3 x4) rfl (by decide) (fun _ => ⟨_, rfl⟩) rfl (by rw [hR]; exact ⟨rfl, rfl, Nat.le_of_ble_eq_true rfl, Nat.le_of_ble_eq_true rfl⟩) rfl rfl (Nat.le_of_ble_eq_true rfl) dX3_take_21 (fun x6 s5 => ?_)
    refine z_istore (pc := 24) F (lv' := [some (.ref (zad K 15 nd)), some (.ref (zad K 18 r1)), some (.ref (zad K 9 0)), some (.int x2), some (.int x6), none]) dX3_take_24 (zlt rfl) rfl ?_
    refine z_iconst (pc := 26) F (v := 0) dX3_take_26 (by decide) ?_
    refine z_istore (pc := 27) F (lv' := [some (.ref (zad K 15 nd)), some (.ref (zad K 18 r1)), some (.ref (zad K 9 0)), some (.int x2), some (.int x6), some (.int (0 : Int32))]) dX3_take_27 (zlt rfl) rfl ?_
    have hk29_7 : ∀ (y29_7 : zS), ZO K t 66 [some (.ref (zad K 15 nd)), none, some (.ref (zad K 9 0)), some (.int x2), none, none] [] y29_7 ((fun (y29_7 : zS) => (fX3_take_69 nd x2 (fun (y69_8 : zS) => (zIx x2 5 (zB (zU y69_8 17 nd x2.toNatClampNeg (vp_nar .boolean (1 : Int32))) (fun s10 => some ((1 : Int32), s10))) : Option (Int32 × zS))) zN (0 : Int32) y29_7 : Option (Int32 × zS))) y29_7) := by
      intro y29_7
      show ZO K t 66 [some (.ref (zad K 15 nd)), none, some (.ref (zad K 9 0)), some (.int x2), none, none] [] y29_7 (fX3_take_69 nd x2 (fun (y69_8 : zS) => (zIx x2 5 (zB (zU y69_8 17 nd x2.toNatClampNeg (vp_nar .boolean (1 : Int32))) (fun s10 => some ((1 : Int32), s10))) : Option (Int32 × zS))) zN (0 : Int32) y29_7)
      refine z_iconst (pc := 66) F (v := 0) dX3_take_66 (by decide) ?_
      refine z_istore (pc := 67) F (lv' := [some (.ref (zad K 15 nd)), none, some (.ref (zad K 9 0)), some (.int x2), none, some (.int (0 : Int32))]) dX3_take_67 (zlt rfl) rfl ?_
      have hk69_8 : ∀ (y69_8 : zS), ZO K t 118 [some (.ref (zad K 15 nd)), none, none, some (.int x2), none, none] [] y69_8 ((fun (y69_8 : zS) => (zIx x2 5 (zB (zU y69_8 17 nd x2.toNatClampNeg (vp_nar .boolean (1 : Int32))) (fun s10 => some ((1 : Int32), s10))) : Option (Int32 × zS))) y69_8) := by
        intro y69_8
        show ZO K t 118 [some (.ref (zad K 15 nd)), none, none, some (.int x2), none, none] [] y69_8 (zIx x2 5 (zB (zU y69_8 17 nd x2.toNatClampNeg (vp_nar .boolean (1 : Int32))) (fun s10 => some ((1 : Int32), s10))))
        refine z_aload_n (pc := 118) F dX3_take_118 rfl ?_
        refine z_get (pc := 119) F 15 nd 1 (v := .ref (zad K 17 nd)) h_nd (fun _ => rfl) rfl (by decide) inlX3 lk_RX3_16 rfl dX3_take_119 ?_
        refine z_iload_n (pc := 122) F dX3_take_122 rfl ?_
        refine z_iconst (pc := 123) F (v := 1) dX3_take_123 (by decide) ?_
        refine z_ix (fun h9 => ?_)
        refine z_zast (pc := 124) F 17 nd h_nd (fun _ _ => rfl) h9 dX3_take_124 (fun s10 => ?_)
        refine z_iconst (pc := 125) F (v := 1) dX3_take_125 (by decide) ?_
        exact z_zret (pc := 126) F E (by decide) dX3_take_126
      have L69_8 : ∀ (n69_8 : Nat) (v5_69_8 : Int32) (w69_8 : zS), ZO K t 69 [some (.ref (zad K 15 nd)), none, some (.ref (zad K 9 0)), some (.int x2), none, some (.int v5_69_8)] [] w69_8 (fX3_take_69 nd x2 (fun (y69_8 : zS) => (zIx x2 5 (zB (zU y69_8 17 nd x2.toNatClampNeg (vp_nar .boolean (1 : Int32))) (fun s10 => some ((1 : Int32), s10))) : Option (Int32 × zS))) n69_8 v5_69_8 w69_8) := by
        revert hk69_8; generalize (fun (y69_8 : zS) => (zIx x2 5 (zB (zU y69_8 17 nd x2.toNatClampNeg (vp_nar .boolean (1 : Int32))) (fun s10 => some ((1 : Int32), s10))) : Option (Int32 × zS))) = k69_8; intro hk69_8
        intro n69_8
        induction n69_8 with
        | zero => intro v5_69_8 w69_8; exact z_none
        | succ n69_8 ih69_8 =>
          intro v5_69_8 w69_8
          show ZO K t 69 [some (.ref (zad K 15 nd)), none, some (.ref (zad K 9 0)), some (.int x2), none, some (.int v5_69_8)] [] w69_8 (if (5 : Int32) ≤ v5_69_8 then k69_8 w69_8 else zIx v5_69_8 5 (if (w69_8 17 nd v5_69_8.toNatClampNeg) = 0 then zB (v5_69_8 + 1) (fun x12 => fX3_take_69 nd x2 k69_8 n69_8 x12 w69_8) else zIx v5_69_8 5 (zB (5 * nd + v5_69_8.toNatClampNeg) (fun i14 => zGd (i14 < 61) (zIx v5_69_8 5 (zB (5 * nd + v5_69_8.toNatClampNeg) (fun i17 => zGd (i17 < 61) (zIx x2 8 (zIx x2 5 (zB (5 * nd + x2.toNatClampNeg) (fun i21 => zGd (i21 < 61) (zCv (fX3_addTimes i14 (-(w69_8 18 i17 x2.toNatClampNeg)) i21 w69_8) (fun s23 => zB (v5_69_8 + 1) (fun x24 => fX3_take_69 nd x2 k69_8 n69_8 x24 s23))))))))))))))
          refine z_iload (pc := 69) F dX3_take_69 rfl ?_
          refine z_iconst (pc := 71) F (v := 5) dX3_take_71 (by decide) ?_
          refine z_icmp_ge (pc := 72) F 118 dX3_take_72 (by decide) (fun h26 => ?_) (fun h26 => ?_)
          · refine z_wk [true, true, false, true, true, false] (lv' := [some (.ref (zad K 15 nd)), none, none, some (.int x2), none, none]) rfl ?_
            exact hk69_8  w69_8
          · refine z_aload_n (pc := 75) F dX3_take_75 rfl ?_
            refine z_get (pc := 76) F 15 nd 1 (v := .ref (zad K 17 nd)) h_nd (fun _ => rfl) rfl (by decide) inlX3 lk_RX3_16 rfl dX3_take_76 ?_
            refine z_iload (pc := 79) F dX3_take_79 rfl ?_
            refine z_ix (fun h11 => ?_)
            refine z_zald (pc := 81) F 17 nd h_nd (fun _ => rfl) h11 dX3_take_81 ?_
            refine z_if_eq (pc := 82) F 112 dX3_take_82 (by decide) (fun h25 => ?_) (fun h25 => ?_)
            · refine z_iincB (pc := 112) F (lv' := fun x12 => [some (.ref (zad K 15 nd)), none, some (.ref (zad K 9 0)), some (.int x2), none, some (.int x12)]) dX3_take_112 rfl rfl (fun _ => rfl) (fun x12 => ?_)
              refine z_goto (pc := 115) F 69 dX3_take_115 (by decide) ?_
              exact ih69_8 x12 w69_8
            · refine z_aload_n (pc := 85) F dX3_take_85 rfl ?_
              refine z_get (pc := 86) F 15 nd 0 (v := .ref (zad K 16 nd)) h_nd (fun _ => rfl) rfl (by decide) inlX3 lk_RX3_11 rfl dX3_take_86 ?_
              refine z_iload (pc := 89) F dX3_take_89 rfl ?_
              refine z_ix (fun h13 => ?_)
              refine z_aald (pc := 91) F 16 nd 18 (5 * nd + v5_69_8.toNatClampNeg) 4 h_nd (fun _ => rfl) (fun _ => rfl) rfl h13 (fun _ => rfl) dX3_take_91 ?_
              refine z_Br (fun i14 => ?_)
              refine z_gd (fun h15 => ?_)
              refine z_aload_n (pc := 92) F dX3_take_92 rfl ?_
              refine z_aload_n (pc := 93) F dX3_take_93 rfl ?_
              refine z_get (pc := 94) F 15 nd 0 (v := .ref (zad K 16 nd)) h_nd (fun _ => rfl) rfl (by decide) inlX3 lk_RX3_11 rfl dX3_take_94 ?_
              refine z_iload (pc := 97) F dX3_take_97 rfl ?_
              refine z_ix (fun h16 => ?_)
              refine z_aald (pc := 99) F 16 nd 18 (5 * nd + v5_69_8.toNatClampNeg) 4 h_nd (fun _ => rfl) (fun _ => rfl) rfl h16 (fun _ => rfl) dX3_take_99 ?_
              refine z_Br (fun i17 => ?_)
              refine z_gd (fun h18 => ?_)
              refine z_iload_n (pc := 100) F dX3_take_100 rfl ?_
              refine z_ix (fun h19 => ?_)
              refine z_iald (pc := 101) F 18 i17 h18 (fun _ => rfl) h19 dX3_take_101 ?_
              refine z_ineg (pc := 102) F dX3_take_102 ?_
              refine z_aload_n (pc := 103) F dX3_take_103 rfl ?_
              refine z_get (pc := 104) F 15 nd 0 (v := .ref (zad K 16 nd)) h_nd (fun _ => rfl) rfl (by decide) inlX3 lk_RX3_11 rfl dX3_take_104 ?_
              refine z_iload_n (pc := 107) F dX3_take_107 rfl ?_
              refine z_ix (fun h20 => ?_)
              refine z_aald (pc := 108) F 16 nd 18 (5 * nd + x2.toNatClampNeg) 4 h_nd (fun _ => rfl) (fun _ => rfl) rfl h20 (fun _ => rfl) dX3_take_108 ?_
              refine z_Br (fun i21 => ?_)
              refine z_gd (fun h22 => ?_)
              refine z_callSv (pc := 109) (st := []) F [.ref (zad K 18 i14), .ref (zad K 9 0), .int (-(w69_8 18 i17 x2.toNatClampNeg)), .ref (zad K 18 i21)] cl_RX3_26 (tX3_addTimes (zln K) w69_8 i14 (-(w69_8 18 i17 x2.toNatClampNeg)) i21 h15 h22) rfl (by rw [hR]; exact ⟨rfl, rfl, Nat.le_of_ble_eq_true rfl, Nat.le_of_ble_eq_true rfl⟩) rfl rfl (Nat.le_of_ble_eq_true rfl) dX3_take_109 (fun s23 => ?_)
              refine z_iincB (pc := 112) F (lv' := fun x24 => [some (.ref (zad K 15 nd)), none, some (.ref (zad K 9 0)), some (.int x2), none, some (.int x24)]) dX3_take_112 rfl rfl (fun _ => rfl) (fun x24 => ?_)
              refine z_goto (pc := 115) F 69 dX3_take_115 (by decide) ?_
              exact ih69_8 x24 s23
      exact L69_8 zN (0 : Int32) y29_7
    have L29_7 : ∀ (n29_7 : Nat) (v5_29_7 : Int32) (w29_7 : zS), ZO K t 29 [some (.ref (zad K 15 nd)), some (.ref (zad K 18 r1)), some (.ref (zad K 9 0)), some (.int x2), some (.int x6), some (.int v5_29_7)] [] w29_7 (fX3_take_29 nd r1 x2 x6 (fun (y29_7 : zS) => (fX3_take_69 nd x2 (fun (y69_8 : zS) => (zIx x2 5 (zB (zU y69_8 17 nd x2.toNatClampNeg (vp_nar .boolean (1 : Int32))) (fun s10 => some ((1 : Int32), s10))) : Option (Int32 × zS))) zN (0 : Int32) y29_7 : Option (Int32 × zS))) n29_7 v5_29_7 w29_7) := by
      revert hk29_7; generalize (fun (y29_7 : zS) => (fX3_take_69 nd x2 (fun (y69_8 : zS) => (zIx x2 5 (zB (zU y69_8 17 nd x2.toNatClampNeg (vp_nar .boolean (1 : Int32))) (fun s10 => some ((1 : Int32), s10))) : Option (Int32 × zS))) zN (0 : Int32) y29_7 : Option (Int32 × zS))) = k29_7; intro hk29_7
      intro n29_7
      induction n29_7 with
      | zero => intro v5_29_7 w29_7; exact z_none
      | succ n29_7 ih29_7 =>
        intro v5_29_7 w29_7
        show ZO K t 29 [some (.ref (zad K 15 nd)), some (.ref (zad K 18 r1)), some (.ref (zad K 9 0)), some (.int x2), some (.int x6), some (.int v5_29_7)] [] w29_7 (if (8 : Int32) ≤ v5_29_7 then k29_7 w29_7 else zIx x2 5 (zB (5 * nd + x2.toNatClampNeg) (fun i28 => zGd (i28 < 61) (zCi (fX3_leftover nd r1 v5_29_7 w29_7) (fun x31 s30 => zCi (fX0_left (x6 * x31) s30) (fun x33 s32 => zIx v5_29_7 8 (zB (zU s32 18 i28 v5_29_7.toNatClampNeg x33) (fun s35 => zB (v5_29_7 + 1) (fun x36 => fX3_take_29 nd r1 x2 x6 k29_7 n29_7 x36 s35)))))))))
        refine z_iload (pc := 29) F dX3_take_29 rfl ?_
        refine z_bipush (pc := 31) F (v := 8) dX3_take_31 (by decide) ?_
        refine z_icmp_ge (pc := 33) F 66 dX3_take_33 (by decide) (fun h37 => ?_) (fun h37 => ?_)
        · refine z_wk [true, false, true, true, false, false] (lv' := [some (.ref (zad K 15 nd)), none, some (.ref (zad K 9 0)), some (.int x2), none, none]) rfl ?_
          exact hk29_7  w29_7
        · refine z_aload_n (pc := 36) F dX3_take_36 rfl ?_
          refine z_get (pc := 37) F 15 nd 0 (v := .ref (zad K 16 nd)) h_nd (fun _ => rfl) rfl (by decide) inlX3 lk_RX3_11 rfl dX3_take_37 ?_
          refine z_iload_n (pc := 40) F dX3_take_40 rfl ?_
          refine z_ix (fun h27 => ?_)
          refine z_aald (pc := 41) F 16 nd 18 (5 * nd + x2.toNatClampNeg) 4 h_nd (fun _ => rfl) (fun _ => rfl) rfl h27 (fun _ => rfl) dX3_take_41 ?_
          refine z_Br (fun i28 => ?_)
          refine z_gd (fun h29 => ?_)
          refine z_iload (pc := 42) F dX3_take_42 rfl ?_
          refine z_aload_n (pc := 44) F dX3_take_44 rfl ?_
          refine z_iload (pc := 45) F dX3_take_45 rfl ?_
          refine z_aload_n (pc := 47) F dX3_take_47 rfl ?_
          refine z_aload_n (pc := 48) F dX3_take_48 rfl ?_
          refine z_aload_n (pc := 49) F dX3_take_49 rfl ?_
          refine z_iload (pc := 50) F dX3_take_50 rfl ?_
          refine z_callVi (pc := 52) (st := [.int x6, .ref (zad K 9 0), .int v5_29_7, .ref (zad K 18 i28)]) F 15 nd [.ref (zad K 18 r1), .ref (zad K 9 0), .int v5_29_7] cl_RX3_33 (tX3_leftover (zln K) w29_7 nd r1 v5_29_7 h_nd h_r1) rfl h_nd (fun _ => ⟨_, rfl⟩) rfl (by rw [hR]; exact ⟨rfl, rfl, Nat.le_of_ble_eq_true rfl, Nat.le_of_ble_eq_true rfl⟩) rfl rfl (Nat.le_of_ble_eq_true rfl) dX3_take_52 (fun x31 s30 => ?_)
          refine z_imul (pc := 55) F dX3_take_55 ?_
          refine z_callNi (pc := 56) (st := [.int v5_29_7, .ref (zad K 18 i28)]) F 9 0 [.int (x6 * x31)] cl_RX3_20 (tX0_left (zln K) s30 (x6 * x31)) rfl (by decide) (fun _ => ⟨_, rfl⟩) rfl (by rw [hR]; exact ⟨rfl, rfl, Nat.le_of_ble_eq_true rfl, Nat.le_of_ble_eq_true rfl⟩) rfl rfl (Nat.le_of_ble_eq_true rfl) dX3_take_56 (fun x33 s32 => ?_)
          refine z_ix (fun h34 => ?_)
          refine z_iast (pc := 59) F 18 i28 h29 (fun _ _ => rfl) h34 dX3_take_59 (fun s35 => ?_)
          refine z_iincB (pc := 60) F (lv' := fun x36 => [some (.ref (zad K 15 nd)), some (.ref (zad K 18 r1)), some (.ref (zad K 9 0)), some (.int x2), some (.int x6), some (.int x36)]) dX3_take_60 rfl rfl (fun _ => rfl) (fun x36 => ?_)
          refine z_goto (pc := 63) F 29 dX3_take_63 (by decide) ?_
          exact ih29_7 x36 s35
    exact L29_7 zN (0 : Int32) s5
  · refine z_iconst (pc := 11) F (v := 0) dX3_take_11 (by decide) ?_
    exact z_zret (pc := 12) F E (by decide) dX3_take_12
def fX2_begin_33 (a1 : Int32) (a2 : Int32) (i2 : Nat) (k33_5 : zS → Option (Int32 × zS)) : Nat → Int32 → zS → Option (Int32 × zS)
  | 0, _, _ => none
  | (n33_5 + 1), v4_33_5, w33_5 => if a1 ≤ v4_33_5 then k33_5 w33_5 else zCv (fX2_writeLetter v4_33_5 a2 w33_5) (fun s8 => zIx (0 : Int32) 4 (zB (4 * i2 + (0 : Int32).toNatClampNeg) (fun i10 => zGd (i10 < 12) (zCi (fX3_take i10 60 s8) (fun x13 s12 => zB (v4_33_5 + 1) (fun x14 => fX2_begin_33 a1 a2 i2 k33_5 n33_5 x14 s12))))))
def fX2_begin (a1 : Int32) (a2 : Int32) (σ : zS) : Option (Int32 × zS) := if (σ 10 0 4) < (3 : Int32) then zIx (σ 10 0 4) 3 (zB ((σ 11 0 (σ 10 0 4).toNatClampNeg).toNatClampNeg % 3) (fun i2 => zGd (i2 < 3) (zCv (fX1_renew i2 (σ 10 0 5) a1 σ) (fun s4 => fX2_begin_33 a1 a2 i2 (fun (y33_5 : zS) => (zB (zU y33_5 10 0 4 ((y33_5 10 0 4) + (1 : Int32))) (fun s6 => zB (zU s6 10 0 5 ((s6 10 0 5) + (1 : Int32))) (fun s7 => some (s7 13 i2 1, s7))) : Option (Int32 × zS))) zN (0 : Int32) s4)))) else some ((-4 : Int32), σ)
abbrev rmX2_begin : Room := { frames := 5, cells := 0, slots := 0, locals := 116 }
set_option maxRecDepth 100000 in
set_option maxHeartbeats 4000000 in
theorem tX2_begin (l : Launch) (σ : zS) (a1 : Int32) (a2 : Int32) : zMi l yX2_begin cX2_begin 5 (some .int) rmX2_begin (fun ad => [.ref (ad 10 0), .int a1, .int a2]) σ (fX2_begin a1 a2 σ) := by
  refine zMi.of RX2 (by decide +kernel) rfl (fun _ => Nat.le_of_ble_eq_true rfl) (fun _ => zcat rfl) (fun K t F hR hL E => ?_)
  show ZO K t 0 [some (.ref (zad K 10 0)), some (.int a1), some (.int a2), none, none] [] σ (if (σ 10 0 4) < (3 : Int32) then zIx (σ 10 0 4) 3 (zB ((σ 11 0 (σ 10 0 4).toNatClampNeg).toNatClampNeg % 3) (fun i2 => zGd (i2 < 3) (zCv (fX1_renew i2 (σ 10 0 5) a1 σ) (fun s4 => fX2_begin_33 a1 a2 i2 (fun (y33_5 : zS) => (zB (zU y33_5 10 0 4 ((y33_5 10 0 4) + (1 : Int32))) (fun s6 => zB (zU s6 10 0 5 ((s6 10 0 5) + (1 : Int32))) (fun s7 => some (s7 13 i2 1, s7))) : Option (Int32 × zS))) zN (0 : Int32) s4)))) else some ((-4 : Int32), σ))
  refine z_aload_n (pc := 0) F dX2_begin_0 rfl ?_
  refine z_get (pc := 1) F 10 0 4 (v := .int (σ 10 0 4)) (by decide) (fun _ => rfl) rfl (by decide) inlX2 lk_RX2_30 rfl dX2_begin_1 ?_
  refine z_iconst (pc := 4) F (v := 3) dX2_begin_4 (by decide) ?_
  refine z_icmp_lt (pc := 5) F 11 dX2_begin_5 (by decide) (fun h16 => ?_) (fun h16 => ?_)
  · refine z_aload_n (pc := 11) F dX2_begin_11 rfl ?_
    refine z_get (pc := 12) F 10 0 0 (v := .ref (zad K 11 0)) (by decide) (fun _ => rfl) rfl (by decide) inlX2 lk_RX2_11 rfl dX2_begin_12 ?_
    refine z_aload_n (pc := 15) F dX2_begin_15 rfl ?_
    refine z_get (pc := 16) F 10 0 4 (v := .int (σ 10 0 4)) (by decide) (fun _ => rfl) rfl (by decide) inlX2 lk_RX2_30 rfl dX2_begin_16 ?_
    refine z_ix (fun h1 => ?_)
    refine z_aald (pc := 19) F 11 0 13 ((σ 11 0 (σ 10 0 4).toNatClampNeg).toNatClampNeg % 3) 2 (by decide) (fun _ => rfl) (fun _ => rfl) rfl h1 (fun _ => rfl) dX2_begin_19 ?_
    refine z_Br (fun i2 => ?_)
    refine z_gd (fun h3 => ?_)
    refine z_astore_n (pc := 20) F (lv' := [some (.ref (zad K 10 0)), some (.int a1), some (.int a2), some (.ref (zad K 13 i2)), none]) dX2_begin_20 (zlt rfl) rfl ?_
    refine z_aload_n (pc := 21) F dX2_begin_21 rfl ?_
    refine z_aload_n (pc := 22) F dX2_begin_22 rfl ?_
    refine z_get (pc := 23) F 10 0 5 (v := .int (σ 10 0 5)) (by decide) (fun _ => rfl) rfl (by decide) inlX2 lk_RX2_34 rfl dX2_begin_23 ?_
    refine z_iload_n (pc := 26) F dX2_begin_26 rfl ?_
    refine z_callNv (pc := 27) (st := []) F 13 i2 [.int (σ 10 0 5), .int a1] cl_RX2_48 (tX1_renew (zln K) σ i2 (σ 10 0 5) a1 h3) rfl h3 (fun _ => ⟨_, rfl⟩) rfl (by rw [hR]; exact ⟨rfl, rfl, Nat.le_of_ble_eq_true rfl, Nat.le_of_ble_eq_true rfl⟩) rfl rfl (Nat.le_of_ble_eq_true rfl) dX2_begin_27 (fun s4 => ?_)
    refine z_iconst (pc := 30) F (v := 0) dX2_begin_30 (by decide) ?_
    refine z_istore (pc := 31) F (lv' := [some (.ref (zad K 10 0)), some (.int a1), some (.int a2), some (.ref (zad K 13 i2)), some (.int (0 : Int32))]) dX2_begin_31 (zlt rfl) rfl ?_
    have hk33_5 : ∀ (y33_5 : zS), ZO K t 70 [some (.ref (zad K 10 0)), none, none, some (.ref (zad K 13 i2)), none] [] y33_5 ((fun (y33_5 : zS) => (zB (zU y33_5 10 0 4 ((y33_5 10 0 4) + (1 : Int32))) (fun s6 => zB (zU s6 10 0 5 ((s6 10 0 5) + (1 : Int32))) (fun s7 => some (s7 13 i2 1, s7))) : Option (Int32 × zS))) y33_5) := by
      intro y33_5
      show ZO K t 70 [some (.ref (zad K 10 0)), none, none, some (.ref (zad K 13 i2)), none] [] y33_5 (zB (zU y33_5 10 0 4 ((y33_5 10 0 4) + (1 : Int32))) (fun s6 => zB (zU s6 10 0 5 ((s6 10 0 5) + (1 : Int32))) (fun s7 => some (s7 13 i2 1, s7))))
      refine z_aload_n (pc := 70) F dX2_begin_70 rfl ?_
      refine z_dup (pc := 71) F dX2_begin_71 rfl ?_
      refine z_get (pc := 72) F 10 0 4 (v := .int (y33_5 10 0 4)) (by decide) (fun _ => rfl) rfl (by decide) inlX2 lk_RX2_30 rfl dX2_begin_72 ?_
      refine z_iconst (pc := 75) F (v := 1) dX2_begin_75 (by decide) ?_
      refine z_iadd (pc := 76) F dX2_begin_76 ?_
      refine z_put (pc := 77) F 10 0 4 tyX2 tyX2_ok nmX2 (by decide) (fun _ => rfl) rfl (by decide) inlX2 lk_RX2_30 rfl (by decide +kernel) (fun _ => Nat.le_of_ble_eq_true rfl) (fun _ => rfl) dX2_begin_77 (fun s6 => ?_)
      refine z_aload_n (pc := 80) F dX2_begin_80 rfl ?_
      refine z_dup (pc := 81) F dX2_begin_81 rfl ?_
      refine z_get (pc := 82) F 10 0 5 (v := .int (s6 10 0 5)) (by decide) (fun _ => rfl) rfl (by decide) inlX2 lk_RX2_34 rfl dX2_begin_82 ?_
      refine z_iconst (pc := 85) F (v := 1) dX2_begin_85 (by decide) ?_
      refine z_iadd (pc := 86) F dX2_begin_86 ?_
      refine z_put (pc := 87) F 10 0 5 tyX2 tyX2_ok nmX2 (by decide) (fun _ => rfl) rfl (by decide) inlX2 lk_RX2_34 rfl (by decide +kernel) (fun _ => Nat.le_of_ble_eq_true rfl) (fun _ => rfl) dX2_begin_87 (fun s7 => ?_)
      refine z_aload_n (pc := 90) F dX2_begin_90 rfl ?_
      refine z_getN (pc := 91) F 13 i2 1 (v := .int (s7 13 i2 1)) h3 (fun _ => rfl) rfl (by decide) inlX1 lk_RX2_37 rfl dX2_begin_91 ?_
      exact z_iret (pc := 94) F E dX2_begin_94
    have L33_5 : ∀ (n33_5 : Nat) (v4_33_5 : Int32) (w33_5 : zS), ZO K t 33 [some (.ref (zad K 10 0)), some (.int a1), some (.int a2), some (.ref (zad K 13 i2)), some (.int v4_33_5)] [] w33_5 (fX2_begin_33 a1 a2 i2 (fun (y33_5 : zS) => (zB (zU y33_5 10 0 4 ((y33_5 10 0 4) + (1 : Int32))) (fun s6 => zB (zU s6 10 0 5 ((s6 10 0 5) + (1 : Int32))) (fun s7 => some (s7 13 i2 1, s7))) : Option (Int32 × zS))) n33_5 v4_33_5 w33_5) := by
      revert hk33_5; generalize (fun (y33_5 : zS) => (zB (zU y33_5 10 0 4 ((y33_5 10 0 4) + (1 : Int32))) (fun s6 => zB (zU s6 10 0 5 ((s6 10 0 5) + (1 : Int32))) (fun s7 => some (s7 13 i2 1, s7))) : Option (Int32 × zS))) = k33_5; intro hk33_5
      intro n33_5
      induction n33_5 with
      | zero => intro v4_33_5 w33_5; exact z_none
      | succ n33_5 ih33_5 =>
        intro v4_33_5 w33_5
        show ZO K t 33 [some (.ref (zad K 10 0)), some (.int a1), some (.int a2), some (.ref (zad K 13 i2)), some (.int v4_33_5)] [] w33_5 (if a1 ≤ v4_33_5 then k33_5 w33_5 else zCv (fX2_writeLetter v4_33_5 a2 w33_5) (fun s8 => zIx (0 : Int32) 4 (zB (4 * i2 + (0 : Int32).toNatClampNeg) (fun i10 => zGd (i10 < 12) (zCi (fX3_take i10 60 s8) (fun x13 s12 => zB (v4_33_5 + 1) (fun x14 => fX2_begin_33 a1 a2 i2 k33_5 n33_5 x14 s12)))))))
        refine z_iload (pc := 33) F dX2_begin_33 rfl ?_
        refine z_iload_n (pc := 35) F dX2_begin_35 rfl ?_
        refine z_icmp_ge (pc := 36) F 70 dX2_begin_36 (by decide) (fun h15 => ?_) (fun h15 => ?_)
        · refine z_wk [true, false, false, true, false] (lv' := [some (.ref (zad K 10 0)), none, none, some (.ref (zad K 13 i2)), none]) rfl ?_
          exact hk33_5  w33_5
        · refine z_aload_n (pc := 39) F dX2_begin_39 rfl ?_
          refine z_iload (pc := 40) F dX2_begin_40 rfl ?_
          refine z_iload_n (pc := 42) F dX2_begin_42 rfl ?_
          refine z_callVv (pc := 43) (st := []) F 10 0 [.int v4_33_5, .int a2] cl_RX2_52 (tX2_writeLetter (zln K) w33_5 v4_33_5 a2) rfl (by decide) (fun _ => ⟨_, rfl⟩) rfl (by rw [hR]; exact ⟨rfl, rfl, Nat.le_of_ble_eq_true rfl, Nat.le_of_ble_eq_true rfl⟩) rfl rfl (Nat.le_of_ble_eq_true rfl) dX2_begin_43 (fun s8 => ?_)
          refine z_aload_n (pc := 46) F dX2_begin_46 rfl ?_
          refine z_getN (pc := 47) F 13 i2 0 (v := .ref (zad K 14 i2)) h3 (fun _ => rfl) rfl (by decide) inlX1 lk_RX2_44 rfl dX2_begin_47 ?_
          refine z_iconst (pc := 50) F (v := 0) dX2_begin_50 (by decide) ?_
          refine z_ix (fun h9 => ?_)
          refine z_aald (pc := 51) F 14 i2 15 (4 * i2 + (0 : Int32).toNatClampNeg) 3 h3 (fun _ => rfl) (fun _ => rfl) rfl h9 (fun _ => rfl) dX2_begin_51 ?_
          refine z_Br (fun i10 => ?_)
          refine z_gd (fun h11 => ?_)
          refine z_aload_n (pc := 52) F dX2_begin_52 rfl ?_
          refine z_get (pc := 53) F 10 0 2 (v := .ref (zad K 18 60)) (by decide) (fun _ => rfl) rfl (by decide) inlX2 lk_RX2_17 rfl dX2_begin_53 ?_
          refine z_aload_n (pc := 56) F dX2_begin_56 rfl ?_
          refine z_get (pc := 57) F 10 0 1 (v := .ref (zad K 9 0)) (by decide) (fun _ => rfl) rfl (by decide) inlX2 lk_RX2_25 rfl dX2_begin_57 ?_
          refine z_callNi (pc := 60) (st := []) F 15 i10 [.ref (zad K 18 60), .ref (zad K 9 0)] cl_RX2_55 (tX3_take (zln K) s8 i10 60 h11 (by decide)) rfl h11 (fun _ => ⟨_, rfl⟩) rfl (by rw [hR]; exact ⟨rfl, rfl, Nat.le_of_ble_eq_true rfl, Nat.le_of_ble_eq_true rfl⟩) rfl rfl (Nat.le_of_ble_eq_true rfl) dX2_begin_60 (fun x13 s12 => ?_)
          refine z_pop (pc := 63) F dX2_begin_63 rfl ?_
          refine z_iincB (pc := 64) F (lv' := fun x14 => [some (.ref (zad K 10 0)), some (.int a1), some (.int a2), some (.ref (zad K 13 i2)), some (.int x14)]) dX2_begin_64 rfl rfl (fun _ => rfl) (fun x14 => ?_)
          refine z_goto (pc := 67) F 33 dX2_begin_67 (by decide) ?_
          exact ih33_5 x14 s12
    exact L33_5 zN (0 : Int32) s4
  · refine z_bipush (pc := 8) F (v := -4) dX2_begin_8 (by decide) ?_
    exact z_iret (pc := 10) F E dX2_begin_10
def fX3_mixInto_27 (nd : Nat) (r1 : Nat) (k27_2 : zS → Option (Int32 × zS)) : Nat → Int32 → Int32 → zS → Option (Int32 × zS)
  | 0, _, _, _ => none
  | (n27_2 + 1), v4_27_2, v5_27_2, w27_2 => if (5 : Int32) ≤ v5_27_2 then k27_2 w27_2 else zIx v5_27_2 5 (if (w27_2 17 nd v5_27_2.toNatClampNeg) = 0 then zB (v5_27_2 + 1) (fun x4 => fX3_mixInto_27 nd r1 k27_2 n27_2 v4_27_2 x4 w27_2) else zCi (fX0_left v4_27_2 w27_2) (fun x6 s5 => zIx v5_27_2 5 (zB (5 * nd + v5_27_2.toNatClampNeg) (fun i8 => zGd (i8 < 61) (zCv (fX3_addTimes r1 x6 i8 s5) (fun s10 => zCi (fX0_cut v4_27_2 s10) (fun x12 s11 => zB (v5_27_2 + 1) (fun x13 => fX3_mixInto_27 nd r1 k27_2 n27_2 x12 x13 s11))))))))
def fX3_mixInto_3 (r1 : Nat) (k3_1 : zS → Option (Int32 × zS)) : Nat → Int32 → zS → Option (Int32 × zS)
  | 0, _, _ => none
  | (n3_1 + 1), v4_3_1, w3_1 => if (8 : Int32) ≤ v4_3_1 then k3_1 w3_1 else zIx v4_3_1 8 (zB (zU w3_1 18 r1 v4_3_1.toNatClampNeg (0 : Int32)) (fun s17 => zB (v4_3_1 + 1) (fun x18 => fX3_mixInto_3 r1 k3_1 n3_1 x18 s17)))
def fX3_mixInto (nd : Nat) (r1 : Nat) (a3 : Int32) (σ : zS) : Option (Int32 × zS) := fX3_mixInto_3 r1 (fun (y3_1 : zS) => (fX3_mixInto_27 nd r1 (fun (y27_2 : zS) => (some ((0 : Int32), y27_2) : Option (Int32 × zS))) zN a3 (0 : Int32) y3_1 : Option (Int32 × zS))) zN (0 : Int32) σ
abbrev rmX3_mixInto : Room := { frames := 3, cells := 0, slots := 0, locals := 67 }
set_option maxRecDepth 100000 in
set_option maxHeartbeats 4000000 in
theorem tX3_mixInto (l : Launch) (σ : zS) (nd : Nat) (r1 : Nat) (a3 : Int32) (h_nd : nd < 12) (h_r1 : r1 < 61) : zMv l yX3_mixInto cX3_mixInto 6 none rmX3_mixInto (fun ad => [.ref (ad 15 nd), .ref (ad 18 r1), .ref (ad 9 0), .int a3]) σ (fX3_mixInto nd r1 a3 σ) := by
  refine zMv.of RX3 (by decide +kernel) rfl (fun _ => Nat.le_of_ble_eq_true rfl) (fun _ => zcat rfl) (fun K t F hR hL E => ?_)
  show ZO K t 0 [some (.ref (zad K 15 nd)), some (.ref (zad K 18 r1)), some (.ref (zad K 9 0)), some (.int a3), none, none] [] σ (fX3_mixInto_3 r1 (fun (y3_1 : zS) => (fX3_mixInto_27 nd r1 (fun (y27_2 : zS) => (some ((0 : Int32), y27_2) : Option (Int32 × zS))) zN a3 (0 : Int32) y3_1 : Option (Int32 × zS))) zN (0 : Int32) σ)
  refine z_iconst (pc := 0) F (v := 0) dX3_mixInto_0 (by decide) ?_
  refine z_istore (pc := 1) F (lv' := [some (.ref (zad K 15 nd)), some (.ref (zad K 18 r1)), some (.ref (zad K 9 0)), some (.int a3), some (.int (0 : Int32)), none]) dX3_mixInto_1 (zlt rfl) rfl ?_
  have hk3_1 : ∀ (y3_1 : zS), ZO K t 21 [some (.ref (zad K 15 nd)), some (.ref (zad K 18 r1)), some (.ref (zad K 9 0)), some (.int a3), none, none] [] y3_1 ((fun (y3_1 : zS) => (fX3_mixInto_27 nd r1 (fun (y27_2 : zS) => (some ((0 : Int32), y27_2) : Option (Int32 × zS))) zN a3 (0 : Int32) y3_1 : Option (Int32 × zS))) y3_1) := by
    intro y3_1
    show ZO K t 21 [some (.ref (zad K 15 nd)), some (.ref (zad K 18 r1)), some (.ref (zad K 9 0)), some (.int a3), none, none] [] y3_1 (fX3_mixInto_27 nd r1 (fun (y27_2 : zS) => (some ((0 : Int32), y27_2) : Option (Int32 × zS))) zN a3 (0 : Int32) y3_1)
    refine z_iload_n (pc := 21) F dX3_mixInto_21 rfl ?_
    refine z_istore (pc := 22) F (lv' := [some (.ref (zad K 15 nd)), some (.ref (zad K 18 r1)), some (.ref (zad K 9 0)), some (.int a3), some (.int a3), none]) dX3_mixInto_22 (zlt rfl) rfl ?_
    refine z_iconst (pc := 24) F (v := 0) dX3_mixInto_24 (by decide) ?_
    refine z_istore (pc := 25) F (lv' := [some (.ref (zad K 15 nd)), some (.ref (zad K 18 r1)), some (.ref (zad K 9 0)), some (.int a3), some (.int a3), some (.int (0 : Int32))]) dX3_mixInto_25 (zlt rfl) rfl ?_
    refine z_wk [true, true, true, false, true, true] (lv' := [some (.ref (zad K 15 nd)), some (.ref (zad K 18 r1)), some (.ref (zad K 9 0)), none, some (.int a3), some (.int (0 : Int32))]) rfl ?_
    have hk27_2 : ∀ (y27_2 : zS), ZO K t 75 [none, none, none, none, none, none] [] y27_2 ((fun (y27_2 : zS) => (some ((0 : Int32), y27_2) : Option (Int32 × zS))) y27_2) := by
      intro y27_2
      show ZO K t 75 [none, none, none, none, none, none] [] y27_2 (some ((0 : Int32), y27_2))
      exact z_vret (pc := 75) (x := 0) F E dX3_mixInto_75
    have L27_2 : ∀ (n27_2 : Nat) (v4_27_2 : Int32) (v5_27_2 : Int32) (w27_2 : zS), ZO K t 27 [some (.ref (zad K 15 nd)), some (.ref (zad K 18 r1)), some (.ref (zad K 9 0)), none, some (.int v4_27_2), some (.int v5_27_2)] [] w27_2 (fX3_mixInto_27 nd r1 (fun (y27_2 : zS) => (some ((0 : Int32), y27_2) : Option (Int32 × zS))) n27_2 v4_27_2 v5_27_2 w27_2) := by
      revert hk27_2; generalize (fun (y27_2 : zS) => (some ((0 : Int32), y27_2) : Option (Int32 × zS))) = k27_2; intro hk27_2
      intro n27_2
      induction n27_2 with
      | zero => intro v4_27_2 v5_27_2 w27_2; exact z_none
      | succ n27_2 ih27_2 =>
        intro v4_27_2 v5_27_2 w27_2
        show ZO K t 27 [some (.ref (zad K 15 nd)), some (.ref (zad K 18 r1)), some (.ref (zad K 9 0)), none, some (.int v4_27_2), some (.int v5_27_2)] [] w27_2 (if (5 : Int32) ≤ v5_27_2 then k27_2 w27_2 else zIx v5_27_2 5 (if (w27_2 17 nd v5_27_2.toNatClampNeg) = 0 then zB (v5_27_2 + 1) (fun x4 => fX3_mixInto_27 nd r1 k27_2 n27_2 v4_27_2 x4 w27_2) else zCi (fX0_left v4_27_2 w27_2) (fun x6 s5 => zIx v5_27_2 5 (zB (5 * nd + v5_27_2.toNatClampNeg) (fun i8 => zGd (i8 < 61) (zCv (fX3_addTimes r1 x6 i8 s5) (fun s10 => zCi (fX0_cut v4_27_2 s10) (fun x12 s11 => zB (v5_27_2 + 1) (fun x13 => fX3_mixInto_27 nd r1 k27_2 n27_2 x12 x13 s11)))))))))
        refine z_iload (pc := 27) F dX3_mixInto_27 rfl ?_
        refine z_iconst (pc := 29) F (v := 5) dX3_mixInto_29 (by decide) ?_
        refine z_icmp_ge (pc := 30) F 75 dX3_mixInto_30 (by decide) (fun h15 => ?_) (fun h15 => ?_)
        · refine z_wk [false, false, false, true, false, false] (lv' := [none, none, none, none, none, none]) rfl ?_
          exact hk27_2  w27_2
        · refine z_aload_n (pc := 33) F dX3_mixInto_33 rfl ?_
          refine z_get (pc := 34) F 15 nd 1 (v := .ref (zad K 17 nd)) h_nd (fun _ => rfl) rfl (by decide) inlX3 lk_RX3_16 rfl dX3_mixInto_34 ?_
          refine z_iload (pc := 37) F dX3_mixInto_37 rfl ?_
          refine z_ix (fun h3 => ?_)
          refine z_zald (pc := 39) F 17 nd h_nd (fun _ => rfl) h3 dX3_mixInto_39 ?_
          refine z_if_eq (pc := 40) F 69 dX3_mixInto_40 (by decide) (fun h14 => ?_) (fun h14 => ?_)
          · refine z_iincB (pc := 69) F (lv' := fun x4 => [some (.ref (zad K 15 nd)), some (.ref (zad K 18 r1)), some (.ref (zad K 9 0)), none, some (.int v4_27_2), some (.int x4)]) dX3_mixInto_69 rfl rfl (fun _ => rfl) (fun x4 => ?_)
            refine z_goto (pc := 72) F 27 dX3_mixInto_72 (by decide) ?_
            exact ih27_2 v4_27_2 x4 w27_2
          · refine z_aload_n (pc := 43) F dX3_mixInto_43 rfl ?_
            refine z_aload_n (pc := 44) F dX3_mixInto_44 rfl ?_
            refine z_aload_n (pc := 45) F dX3_mixInto_45 rfl ?_
            refine z_iload (pc := 46) F dX3_mixInto_46 rfl ?_
            refine z_callNi (pc := 48) (st := [.ref (zad K 9 0), .ref (zad K 18 r1)]) F 9 0 [.int v4_27_2] cl_RX3_20 (tX0_left (zln K) w27_2 v4_27_2) rfl (by decide) (fun _ => ⟨_, rfl⟩) rfl (by rw [hR]; exact ⟨rfl, rfl, Nat.le_of_ble_eq_true rfl, Nat.le_of_ble_eq_true rfl⟩) rfl rfl (Nat.le_of_ble_eq_true rfl) dX3_mixInto_48 (fun x6 s5 => ?_)
            refine z_aload_n (pc := 51) F dX3_mixInto_51 rfl ?_
            refine z_get (pc := 52) F 15 nd 0 (v := .ref (zad K 16 nd)) h_nd (fun _ => rfl) rfl (by decide) inlX3 lk_RX3_11 rfl dX3_mixInto_52 ?_
            refine z_iload (pc := 55) F dX3_mixInto_55 rfl ?_
            refine z_ix (fun h7 => ?_)
            refine z_aald (pc := 57) F 16 nd 18 (5 * nd + v5_27_2.toNatClampNeg) 4 h_nd (fun _ => rfl) (fun _ => rfl) rfl h7 (fun _ => rfl) dX3_mixInto_57 ?_
            refine z_Br (fun i8 => ?_)
            refine z_gd (fun h9 => ?_)
            refine z_callSv (pc := 58) (st := []) F [.ref (zad K 18 r1), .ref (zad K 9 0), .int x6, .ref (zad K 18 i8)] cl_RX3_26 (tX3_addTimes (zln K) s5 r1 x6 i8 h_r1 h9) rfl (by rw [hR]; exact ⟨rfl, rfl, Nat.le_of_ble_eq_true rfl, Nat.le_of_ble_eq_true rfl⟩) rfl rfl (Nat.le_of_ble_eq_true rfl) dX3_mixInto_58 (fun s10 => ?_)
            refine z_aload_n (pc := 61) F dX3_mixInto_61 rfl ?_
            refine z_iload (pc := 62) F dX3_mixInto_62 rfl ?_
            refine z_callNi (pc := 64) (st := []) F 9 0 [.int v4_27_2] cl_RX3_30 (tX0_cut (zln K) s10 v4_27_2) rfl (by decide) (fun _ => ⟨_, rfl⟩) rfl (by rw [hR]; exact ⟨rfl, rfl, Nat.le_of_ble_eq_true rfl, Nat.le_of_ble_eq_true rfl⟩) rfl rfl (Nat.le_of_ble_eq_true rfl) dX3_mixInto_64 (fun x12 s11 => ?_)
            refine z_istore (pc := 67) F (lv' := [some (.ref (zad K 15 nd)), some (.ref (zad K 18 r1)), some (.ref (zad K 9 0)), none, some (.int x12), some (.int v5_27_2)]) dX3_mixInto_67 (zlt rfl) rfl ?_
            refine z_iincB (pc := 69) F (lv' := fun x13 => [some (.ref (zad K 15 nd)), some (.ref (zad K 18 r1)), some (.ref (zad K 9 0)), none, some (.int x12), some (.int x13)]) dX3_mixInto_69 rfl rfl (fun _ => rfl) (fun x13 => ?_)
            refine z_goto (pc := 72) F 27 dX3_mixInto_72 (by decide) ?_
            exact ih27_2 x12 x13 s11
    exact L27_2 zN a3 (0 : Int32) y3_1
  have L3_1 : ∀ (n3_1 : Nat) (v4_3_1 : Int32) (w3_1 : zS), ZO K t 3 [some (.ref (zad K 15 nd)), some (.ref (zad K 18 r1)), some (.ref (zad K 9 0)), some (.int a3), some (.int v4_3_1), none] [] w3_1 (fX3_mixInto_3 r1 (fun (y3_1 : zS) => (fX3_mixInto_27 nd r1 (fun (y27_2 : zS) => (some ((0 : Int32), y27_2) : Option (Int32 × zS))) zN a3 (0 : Int32) y3_1 : Option (Int32 × zS))) n3_1 v4_3_1 w3_1) := by
    revert hk3_1; generalize (fun (y3_1 : zS) => (fX3_mixInto_27 nd r1 (fun (y27_2 : zS) => (some ((0 : Int32), y27_2) : Option (Int32 × zS))) zN a3 (0 : Int32) y3_1 : Option (Int32 × zS))) = k3_1; intro hk3_1
    intro n3_1
    induction n3_1 with
    | zero => intro v4_3_1 w3_1; exact z_none
    | succ n3_1 ih3_1 =>
      intro v4_3_1 w3_1
      show ZO K t 3 [some (.ref (zad K 15 nd)), some (.ref (zad K 18 r1)), some (.ref (zad K 9 0)), some (.int a3), some (.int v4_3_1), none] [] w3_1 (if (8 : Int32) ≤ v4_3_1 then k3_1 w3_1 else zIx v4_3_1 8 (zB (zU w3_1 18 r1 v4_3_1.toNatClampNeg (0 : Int32)) (fun s17 => zB (v4_3_1 + 1) (fun x18 => fX3_mixInto_3 r1 k3_1 n3_1 x18 s17))))
      refine z_iload (pc := 3) F dX3_mixInto_3 rfl ?_
      refine z_bipush (pc := 5) F (v := 8) dX3_mixInto_5 (by decide) ?_
      refine z_icmp_ge (pc := 7) F 21 dX3_mixInto_7 (by decide) (fun h19 => ?_) (fun h19 => ?_)
      · refine z_wk [true, true, true, true, false, true] (lv' := [some (.ref (zad K 15 nd)), some (.ref (zad K 18 r1)), some (.ref (zad K 9 0)), some (.int a3), none, none]) rfl ?_
        exact hk3_1  w3_1
      · refine z_aload_n (pc := 10) F dX3_mixInto_10 rfl ?_
        refine z_iload (pc := 11) F dX3_mixInto_11 rfl ?_
        refine z_iconst (pc := 13) F (v := 0) dX3_mixInto_13 (by decide) ?_
        refine z_ix (fun h16 => ?_)
        refine z_iast (pc := 14) F 18 r1 h_r1 (fun _ _ => rfl) h16 dX3_mixInto_14 (fun s17 => ?_)
        refine z_iincB (pc := 15) F (lv' := fun x18 => [some (.ref (zad K 15 nd)), some (.ref (zad K 18 r1)), some (.ref (zad K 9 0)), some (.int a3), some (.int x18), none]) dX3_mixInto_15 rfl rfl (fun _ => rfl) (fun x18 => ?_)
        refine z_goto (pc := 18) F 3 dX3_mixInto_18 (by decide) ?_
        exact ih3_1 x18 s17
  exact L3_1 zN (0 : Int32) σ
