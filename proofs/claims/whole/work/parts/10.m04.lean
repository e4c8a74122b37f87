def fX4_writeRow_35 (n1 : Nat) (a2 : Int32) (k35_3 : zS → Option (Int32 × zS)) : Nat → Int32 → zS → Option (Int32 × zS)
  | 0, _, _ => none
  | (n35_3 + 1), v4_35_3, w35_3 => if (3 : Int32) ≤ v4_35_3 then k35_3 w35_3 else zCi (fX3_cell n1 a2 ((5 : Int32) + v4_35_3) w35_3) (fun x5 s4 => zCv (fX4_putFigure x5 s4) (fun s6 => zB (v4_35_3 + 1) (fun x7 => fX4_writeRow_35 n1 a2 k35_3 n35_3 x7 s6)))
def fX4_writeRow_3 (n1 : Nat) (a2 : Int32) (a3 : Int32) (k3_1 : zS → Option (Int32 × zS)) : Nat → Int32 → zS → Option (Int32 × zS)
  | 0, _, _ => none
  | (n3_1 + 1), v4_3_1, w3_1 => if a3 ≤ v4_3_1 then k3_1 w3_1 else zCi (fX3_cell n1 a2 v4_3_1 w3_1) (fun x10 s9 => zCv (fX4_putFigure x10 s9) (fun s11 => zB (v4_3_1 + 1) (fun x12 => fX4_writeRow_3 n1 a2 a3 k3_1 n3_1 x12 s11)))
def fX4_writeRow (n1 : Nat) (a2 : Int32) (a3 : Int32) (σ : zS) : Option (Int32 × zS) := fX4_writeRow_3 n1 a2 a3 (fun (y3_1 : zS) => (zCv (fX4_put (58 : Int32) y3_1) (fun s2 => fX4_writeRow_35 n1 a2 (fun (y35_3 : zS) => (some ((0 : Int32), y35_3) : Option (Int32 × zS))) zN (0 : Int32) s2) : Option (Int32 × zS))) zN (0 : Int32) σ
abbrev rmX4_writeRow : Room := { frames := 2, cells := 0, slots := 0, locals := 42 }
set_option maxRecDepth 100000 in
set_option maxHeartbeats 4000000 in
theorem tX4_writeRow (l : Launch) (σ : zS) (n1 : Nat) (a2 : Int32) (a3 : Int32) (h_n1 : n1 < 12) : zMv l yX4_writeRow cX4_writeRow 5 none rmX4_writeRow (fun ad => [.ref (ad 19 0), .ref (ad 15 n1), .int a2, .int a3]) σ (fX4_writeRow n1 a2 a3 σ) := by
  refine zMv.of RX4 (by decide +kernel) rfl (fun _ => Nat.le_of_ble_eq_true rfl) (fun _ => zcat rfl) (fun K t F hR hL E => ?_)
  show ZO K t 0 [some (.ref (zad K 19 0)), some (.ref (zad K 15 n1)), some (.int a2), some (.int a3), none] [] σ (fX4_writeRow_3 n1 a2 a3 (fun (y3_1 : zS) => (zCv (fX4_put (58 : Int32) y3_1) (fun s2 => fX4_writeRow_35 n1 a2 (fun (y35_3 : zS) => (some ((0 : Int32), y35_3) : Option (Int32 × zS))) zN (0 : Int32) s2) : Option (Int32 × zS))) zN (0 : Int32) σ)
  refine z_iconst (pc := 0) F (v := 0) dX4_writeRow_0 (by decide) ?_
  refine z_istore (pc := 1) F (lv' := [some (.ref (zad K 19 0)), some (.ref (zad K 15 n1)), some (.int a2), some (.int a3), some (.int (0 : Int32))]) dX4_writeRow_1 (zlt rfl) rfl ?_
  have hk3_1 : ∀ (y3_1 : zS), ZO K t 26 [some (.ref (zad K 19 0)), some (.ref (zad K 15 n1)), some (.int a2), none, none] [] y3_1 ((fun (y3_1 : zS) => (zCv (fX4_put (58 : Int32) y3_1) (fun s2 => fX4_writeRow_35 n1 a2 (fun (y35_3 : zS) => (some ((0 : Int32), y35_3) : Option (Int32 × zS))) zN (0 : Int32) s2) : Option (Int32 × zS))) y3_1) := by
    intro y3_1
    show ZO K t 26 [some (.ref (zad K 19 0)), some (.ref (zad K 15 n1)), some (.int a2), none, none] [] y3_1 (zCv (fX4_put (58 : Int32) y3_1) (fun s2 => fX4_writeRow_35 n1 a2 (fun (y35_3 : zS) => (some ((0 : Int32), y35_3) : Option (Int32 × zS))) zN (0 : Int32) s2))
    refine z_aload_n (pc := 26) F dX4_writeRow_26 rfl ?_
    refine z_bipush (pc := 27) F (v := 58) dX4_writeRow_27 (by decide) ?_
    refine z_callVv (pc := 29) (st := []) F 19 0 [.int (58 : Int32)] cl_RX4_19 (tX4_put (zln K) y3_1 (58 : Int32)) rfl (by decide) (fun _ => ⟨_, rfl⟩) rfl (by rw [hR]; exact ⟨rfl, rfl, Nat.le_of_ble_eq_true rfl, Nat.le_of_ble_eq_true rfl⟩) rfl rfl (Nat.le_of_ble_eq_true rfl) dX4_writeRow_29 (fun s2 => ?_)
    refine z_iconst (pc := 32) F (v := 0) dX4_writeRow_32 (by decide) ?_
    refine z_istore (pc := 33) F (lv' := [some (.ref (zad K 19 0)), some (.ref (zad K 15 n1)), some (.int a2), none, some (.int (0 : Int32))]) dX4_writeRow_33 (zlt rfl) rfl ?_
    have hk35_3 : ∀ (y35_3 : zS), ZO K t 60 [none, none, none, none, none] [] y35_3 ((fun (y35_3 : zS) => (some ((0 : Int32), y35_3) : Option (Int32 × zS))) y35_3) := by
      intro y35_3
      show ZO K t 60 [none, none, none, none, none] [] y35_3 (some ((0 : Int32), y35_3))
      exact z_vret (pc := 60) (x := 0) F E dX4_writeRow_60
    have L35_3 : ∀ (n35_3 : Nat) (v4_35_3 : Int32) (w35_3 : zS), ZO K t 35 [some (.ref (zad K 19 0)), some (.ref (zad K 15 n1)), some (.int a2), none, some (.int v4_35_3)] [] w35_3 (fX4_writeRow_35 n1 a2 (fun (y35_3 : zS) => (some ((0 : Int32), y35_3) : Option (Int32 × zS))) n35_3 v4_35_3 w35_3) := by
      revert hk35_3; generalize (fun (y35_3 : zS) => (some ((0 : Int32), y35_3) : Option (Int32 × zS))) = k35_3; intro hk35_3
      intro n35_3
      induction n35_3 with
      | zero => intro v4_35_3 w35_3; exact z_none
      | succ n35_3 ih35_3 =>
        intro v4_35_3 w35_3
        show ZO K t 35 [some (.ref (zad K 19 0)), some (.ref (zad K 15 n1)), some (.int a2), none, some (.int v4_35_3)] [] w35_3 (if (3 : Int32) ≤ v4_35_3 then k35_3 w35_3 else zCi (fX3_cell n1 a2 ((5 : Int32) + v4_35_3) w35_3) (fun x5 s4 => zCv (fX4_putFigure x5 s4) (fun s6 => zB (v4_35_3 + 1) (fun x7 => fX4_writeRow_35 n1 a2 k35_3 n35_3 x7 s6))))
        refine z_iload (pc := 35) F dX4_writeRow_35 rfl ?_
        refine z_iconst (pc := 37) F (v := 3) dX4_writeRow_37 (by decide) ?_
        refine z_icmp_ge (pc := 38) F 60 dX4_writeRow_38 (by decide) (fun h8 => ?_) (fun h8 => ?_)
        · refine z_wk [false, false, false, true, false] (lv' := [none, none, none, none, none]) rfl ?_
          exact hk35_3  w35_3
        · refine z_aload_n (pc := 41) F dX4_writeRow_41 rfl ?_
          refine z_aload_n (pc := 42) F dX4_writeRow_42 rfl ?_
          refine z_iload_n (pc := 43) F dX4_writeRow_43 rfl ?_
          refine z_iconst (pc := 44) F (v := 5) dX4_writeRow_44 (by decide) ?_
          refine z_iload (pc := 45) F dX4_writeRow_45 rfl ?_
          refine z_iadd (pc := 47) F dX4_writeRow_47 ?_
          refine z_callNi (pc := 48) (st := [.ref (zad K 19 0)]) F 15 n1 [.int a2, .int ((5 : Int32) + v4_35_3)] cl_RX4_39 (tX3_cell (zln K) w35_3 n1 a2 ((5 : Int32) + v4_35_3) h_n1) rfl h_n1 (fun _ => ⟨_, rfl⟩) rfl (by rw [hR]; exact ⟨rfl, rfl, Nat.le_of_ble_eq_true rfl, Nat.le_of_ble_eq_true rfl⟩) rfl rfl (Nat.le_of_ble_eq_true rfl) dX4_writeRow_48 (fun x5 s4 => ?_)
          refine z_callVv (pc := 51) (st := []) F 19 0 [.int x5] cl_RX4_23 (tX4_putFigure (zln K) s4 x5) rfl (by decide) (fun _ => ⟨_, rfl⟩) rfl (by rw [hR]; exact ⟨rfl, rfl, Nat.le_of_ble_eq_true rfl, Nat.le_of_ble_eq_true rfl⟩) rfl rfl (Nat.le_of_ble_eq_true rfl) dX4_writeRow_51 (fun s6 => ?_)
          refine z_iincB (pc := 54) F (lv' := fun x7 => [some (.ref (zad K 19 0)), some (.ref (zad K 15 n1)), some (.int a2), none, some (.int x7)]) dX4_writeRow_54 rfl rfl (fun _ => rfl) (fun x7 => ?_)
          refine z_goto (pc := 57) F 35 dX4_writeRow_57 (by decide) ?_
          exact ih35_3 x7 s6
    exact L35_3 zN (0 : Int32) s2
  have L3_1 : ∀ (n3_1 : Nat) (v4_3_1 : Int32) (w3_1 : zS), ZO K t 3 [some (.ref (zad K 19 0)), some (.ref (zad K 15 n1)), some (.int a2), some (.int a3), some (.int v4_3_1)] [] w3_1 (fX4_writeRow_3 n1 a2 a3 (fun (y3_1 : zS) => (zCv (fX4_put (58 : Int32) y3_1) (fun s2 => fX4_writeRow_35 n1 a2 (fun (y35_3 : zS) => (some ((0 : Int32), y35_3) : Option (Int32 × zS))) zN (0 : Int32) s2) : Option (Int32 × zS))) n3_1 v4_3_1 w3_1) := by
    revert hk3_1; generalize (fun (y3_1 : zS) => (zCv (fX4_put (58 : Int32) y3_1) (fun s2 => fX4_writeRow_35 n1 a2 (fun (y35_3 : zS) => (some ((0 : Int32), y35_3) : Option (Int32 × zS))) zN (0 : Int32) s2) : Option (Int32 × zS))) = k3_1; intro hk3_1
    intro n3_1
    induction n3_1 with
    | zero => intro v4_3_1 w3_1; exact z_none
    | succ n3_1 ih3_1 =>
      intro v4_3_1 w3_1
      show ZO K t 3 [some (.ref (zad K 19 0)), some (.ref (zad K 15 n1)), some (.int a2), some (.int a3), some (.int v4_3_1)] [] w3_1 (if a3 ≤ v4_3_1 then k3_1 w3_1 else zCi (fX3_cell n1 a2 v4_3_1 w3_1) (fun x10 s9 => zCv (fX4_putFigure x10 s9) (fun s11 => zB (v4_3_1 + 1) (fun x12 => fX4_writeRow_3 n1 a2 a3 k3_1 n3_1 x12 s11))))
      refine z_iload (pc := 3) F dX4_writeRow_3 rfl ?_
      refine z_iload_n (pc := 5) F dX4_writeRow_5 rfl ?_
      refine z_icmp_ge (pc := 6) F 26 dX4_writeRow_6 (by decide) (fun h13 => ?_) (fun h13 => ?_)
      · refine z_wk [true, true, true, false, false] (lv' := [some (.ref (zad K 19 0)), some (.ref (zad K 15 n1)), some (.int a2), none, none]) rfl ?_
        exact hk3_1  w3_1
      · refine z_aload_n (pc := 9) F dX4_writeRow_9 rfl ?_
        refine z_aload_n (pc := 10) F dX4_writeRow_10 rfl ?_
        refine z_iload_n (pc := 11) F dX4_writeRow_11 rfl ?_
        refine z_iload (pc := 12) F dX4_writeRow_12 rfl ?_
        refine z_callNi (pc := 14) (st := [.ref (zad K 19 0)]) F 15 n1 [.int a2, .int v4_3_1] cl_RX4_39 (tX3_cell (zln K) w3_1 n1 a2 v4_3_1 h_n1) rfl h_n1 (fun _ => ⟨_, rfl⟩) rfl (by rw [hR]; exact ⟨rfl, rfl, Nat.le_of_ble_eq_true rfl, Nat.le_of_ble_eq_true rfl⟩) rfl rfl (Nat.le_of_ble_eq_true rfl) dX4_writeRow_14 (fun x10 s9 => ?_)
        refine z_callVv (pc := 17) (st := []) F 19 0 [.int x10] cl_RX4_23 (tX4_putFigure (zln K) s9 x10) rfl (by decide) (fun _ => ⟨_, rfl⟩) rfl (by rw [hR]; exact ⟨rfl, rfl, Nat.le_of_ble_eq_true rfl, Nat.le_of_ble_eq_true rfl⟩) rfl rfl (Nat.le_of_ble_eq_true rfl) dX4_writeRow_17 (fun s11 => ?_)
        refine z_iincB (pc := 20) F (lv' := fun x12 => [some (.ref (zad K 19 0)), some (.ref (zad K 15 n1)), some (.int a2), some (.int a3), some (.int x12)]) dX4_writeRow_20 rfl rfl (fun _ => rfl) (fun x12 => ?_)
        refine z_goto (pc := 23) F 3 dX4_writeRow_23 (by decide) ?_
        exact ih3_1 x12 s11
  exact L3_1 zN (0 : Int32) σ
def fX4_writeRows_7 (n1 : Nat) (a2 : Int32) (k7_2 : zS → Option (Int32 × zS)) : Nat → Int32 → zS → Option (Int32 × zS)
  | 0, _, _ => none
  | (n7_2 + 1), v3_7_2, w7_2 => if (5 : Int32) ≤ v3_7_2 then k7_2 w7_2 else zIx v3_7_2 5 (if (w7_2 17 n1 v3_7_2.toNatClampNeg) = 0 then zB (v3_7_2 + 1) (fun x4 => fX4_writeRows_7 n1 a2 k7_2 n7_2 x4 w7_2) else if (w7_2 19 0 1) ≤ 0 then zCv (fX4_writeRow n1 v3_7_2 a2 w7_2) (fun s5 => zB (v3_7_2 + 1) (fun x6 => fX4_writeRows_7 n1 a2 k7_2 n7_2 x6 s5)) else zCv (fX4_put (32 : Int32) w7_2) (fun s7 => zCv (fX4_writeRow n1 v3_7_2 a2 s7) (fun s8 => zB (v3_7_2 + 1) (fun x9 => fX4_writeRows_7 n1 a2 k7_2 n7_2 x9 s8))))
def fX4_writeRows (n1 : Nat) (a2 : Int32) (σ : zS) : Option (Int32 × zS) := zB (zU σ 19 0 1 (0 : Int32)) (fun s1 => fX4_writeRows_7 n1 a2 (fun (y7_2 : zS) => (some ((0 : Int32), y7_2) : Option (Int32 × zS))) zN (0 : Int32) s1)
abbrev rmX4_writeRows : Room := { frames := 3, cells := 0, slots := 0, locals := 66 }
set_option maxRecDepth 100000 in
set_option maxHeartbeats 4000000 in
theorem tX4_writeRows (l : Launch) (σ : zS) (n1 : Nat) (a2 : Int32) (h_n1 : n1 < 12) : zMv l yX4_writeRows cX4_writeRows 4 none rmX4_writeRows (fun ad => [.ref (ad 19 0), .ref (ad 15 n1), .int a2]) σ (fX4_writeRows n1 a2 σ) := by
  refine zMv.of RX4 (by decide +kernel) rfl (fun _ => Nat.le_of_ble_eq_true rfl) (fun _ => zcat rfl) (fun K t F hR hL E => ?_)
  show ZO K t 0 [some (.ref (zad K 19 0)), some (.ref (zad K 15 n1)), some (.int a2), none] [] σ (zB (zU σ 19 0 1 (0 : Int32)) (fun s1 => fX4_writeRows_7 n1 a2 (fun (y7_2 : zS) => (some ((0 : Int32), y7_2) : Option (Int32 × zS))) zN (0 : Int32) s1))
  refine z_aload_n (pc := 0) F dX4_writeRows_0 rfl ?_
  refine z_iconst (pc := 1) F (v := 0) dX4_writeRows_1 (by decide) ?_
  refine z_put (pc := 2) F 19 0 1 tyX4 tyX4_ok nmX4 (by decide) (fun _ => rfl) rfl (by decide) inlX4 lk_RX4_15 rfl (by decide +kernel) (fun _ => Nat.le_of_ble_eq_true rfl) (fun _ => rfl) dX4_writeRows_2 (fun s1 => ?_)
  refine z_iconst (pc := 5) F (v := 0) dX4_writeRows_5 (by decide) ?_
  refine z_istore_n (pc := 6) F (lv' := [some (.ref (zad K 19 0)), some (.ref (zad K 15 n1)), some (.int a2), some (.int (0 : Int32))]) dX4_writeRows_6 (zlt rfl) rfl ?_
  have hk7_2 : ∀ (y7_2 : zS), ZO K t 47 [none, none, none, none] [] y7_2 ((fun (y7_2 : zS) => (some ((0 : Int32), y7_2) : Option (Int32 × zS))) y7_2) := by
    intro y7_2
    show ZO K t 47 [none, none, none, none] [] y7_2 (some ((0 : Int32), y7_2))
    exact z_vret (pc := 47) (x := 0) F E dX4_writeRows_47
  have L7_2 : ∀ (n7_2 : Nat) (v3_7_2 : Int32) (w7_2 : zS), ZO K t 7 [some (.ref (zad K 19 0)), some (.ref (zad K 15 n1)), some (.int a2), some (.int v3_7_2)] [] w7_2 (fX4_writeRows_7 n1 a2 (fun (y7_2 : zS) => (some ((0 : Int32), y7_2) : Option (Int32 × zS))) n7_2 v3_7_2 w7_2) := by
    revert hk7_2; generalize (fun (y7_2 : zS) => (some ((0 : Int32), y7_2) : Option (Int32 × zS))) = k7_2; intro hk7_2
    intro n7_2
    induction n7_2 with
    | zero => intro v3_7_2 w7_2; exact z_none
    | succ n7_2 ih7_2 =>
      intro v3_7_2 w7_2
      show ZO K t 7 [some (.ref (zad K 19 0)), some (.ref (zad K 15 n1)), some (.int a2), some (.int v3_7_2)] [] w7_2 (if (5 : Int32) ≤ v3_7_2 then k7_2 w7_2 else zIx v3_7_2 5 (if (w7_2 17 n1 v3_7_2.toNatClampNeg) = 0 then zB (v3_7_2 + 1) (fun x4 => fX4_writeRows_7 n1 a2 k7_2 n7_2 x4 w7_2) else if (w7_2 19 0 1) ≤ 0 then zCv (fX4_writeRow n1 v3_7_2 a2 w7_2) (fun s5 => zB (v3_7_2 + 1) (fun x6 => fX4_writeRows_7 n1 a2 k7_2 n7_2 x6 s5)) else zCv (fX4_put (32 : Int32) w7_2) (fun s7 => zCv (fX4_writeRow n1 v3_7_2 a2 s7) (fun s8 => zB (v3_7_2 + 1) (fun x9 => fX4_writeRows_7 n1 a2 k7_2 n7_2 x9 s8)))))
      refine z_iload_n (pc := 7) F dX4_writeRows_7 rfl ?_
      refine z_iconst (pc := 8) F (v := 5) dX4_writeRows_8 (by decide) ?_
      refine z_icmp_ge (pc := 9) F 47 dX4_writeRows_9 (by decide) (fun h12 => ?_) (fun h12 => ?_)
      · refine z_wk [false, false, false, false] (lv' := [none, none, none, none]) rfl ?_
        exact hk7_2  w7_2
      · refine z_aload_n (pc := 12) F dX4_writeRows_12 rfl ?_
        refine z_getN (pc := 13) F 15 n1 1 (v := .ref (zad K 17 n1)) h_n1 (fun _ => rfl) rfl (by decide) inlX3 lk_RX4_29 rfl dX4_writeRows_13 ?_
        refine z_iload_n (pc := 16) F dX4_writeRows_16 rfl ?_
        refine z_ix (fun h3 => ?_)
        refine z_zald (pc := 17) F 17 n1 h_n1 (fun _ => rfl) h3 dX4_writeRows_17 ?_
        refine z_if_eq (pc := 18) F 41 dX4_writeRows_18 (by decide) (fun h11 => ?_) (fun h11 => ?_)
        · refine z_iincB (pc := 41) F (lv' := fun x4 => [some (.ref (zad K 19 0)), some (.ref (zad K 15 n1)), some (.int a2), some (.int x4)]) dX4_writeRows_41 rfl rfl (fun _ => rfl) (fun x4 => ?_)
          refine z_goto (pc := 44) F 7 dX4_writeRows_44 (by decide) ?_
          exact ih7_2 x4 w7_2
        · refine z_aload_n (pc := 21) F dX4_writeRows_21 rfl ?_
          refine z_get (pc := 22) F 19 0 1 (v := .int (w7_2 19 0 1)) (by decide) (fun _ => rfl) rfl (by decide) inlX4 lk_RX4_15 rfl dX4_writeRows_22 ?_
          refine z_if_le (pc := 25) F 34 dX4_writeRows_25 (by decide) (fun h10 => ?_) (fun h10 => ?_)
          · refine z_aload_n (pc := 34) F dX4_writeRows_34 rfl ?_
            refine z_aload_n (pc := 35) F dX4_writeRows_35 rfl ?_
            refine z_iload_n (pc := 36) F dX4_writeRows_36 rfl ?_
            refine z_iload_n (pc := 37) F dX4_writeRows_37 rfl ?_
            refine z_callVv (pc := 38) (st := []) F 19 0 [.ref (zad K 15 n1), .int v3_7_2, .int a2] cl_RX4_35 (tX4_writeRow (zln K) w7_2 n1 v3_7_2 a2 h_n1) rfl (by decide) (fun _ => ⟨_, rfl⟩) rfl (by rw [hR]; exact ⟨rfl, rfl, Nat.le_of_ble_eq_true rfl, Nat.le_of_ble_eq_true rfl⟩) rfl rfl (Nat.le_of_ble_eq_true rfl) dX4_writeRows_38 (fun s5 => ?_)
            refine z_iincB (pc := 41) F (lv' := fun x6 => [some (.ref (zad K 19 0)), some (.ref (zad K 15 n1)), some (.int a2), some (.int x6)]) dX4_writeRows_41 rfl rfl (fun _ => rfl) (fun x6 => ?_)
            refine z_goto (pc := 44) F 7 dX4_writeRows_44 (by decide) ?_
            exact ih7_2 x6 s5
          · refine z_aload_n (pc := 28) F dX4_writeRows_28 rfl ?_
            refine z_bipush (pc := 29) F (v := 32) dX4_writeRows_29 (by decide) ?_
            refine z_callVv (pc := 31) (st := []) F 19 0 [.int (32 : Int32)] cl_RX4_19 (tX4_put (zln K) w7_2 (32 : Int32)) rfl (by decide) (fun _ => ⟨_, rfl⟩) rfl (by rw [hR]; exact ⟨rfl, rfl, Nat.le_of_ble_eq_true rfl, Nat.le_of_ble_eq_true rfl⟩) rfl rfl (Nat.le_of_ble_eq_true rfl) dX4_writeRows_31 (fun s7 => ?_)
            refine z_aload_n (pc := 34) F dX4_writeRows_34 rfl ?_
            refine z_aload_n (pc := 35) F dX4_writeRows_35 rfl ?_
            refine z_iload_n (pc := 36) F dX4_writeRows_36 rfl ?_
            refine z_iload_n (pc := 37) F dX4_writeRows_37 rfl ?_
            refine z_callVv (pc := 38) (st := []) F 19 0 [.ref (zad K 15 n1), .int v3_7_2, .int a2] cl_RX4_35 (tX4_writeRow (zln K) s7 n1 v3_7_2 a2 h_n1) rfl (by decide) (fun _ => ⟨_, rfl⟩) rfl (by rw [hR]; exact ⟨rfl, rfl, Nat.le_of_ble_eq_true rfl, Nat.le_of_ble_eq_true rfl⟩) rfl rfl (Nat.le_of_ble_eq_true rfl) dX4_writeRows_38 (fun s8 => ?_)
            refine z_iincB (pc := 41) F (lv' := fun x9 => [some (.ref (zad K 19 0)), some (.ref (zad K 15 n1)), some (.int a2), some (.int x9)]) dX4_writeRows_41 rfl rfl (fun _ => rfl) (fun x9 => ?_)
            refine z_goto (pc := 44) F 7 dX4_writeRows_44 (by decide) ?_
            exact ih7_2 x9 s8
  exact L7_2 zN (0 : Int32) s1
def fX4_writeSum_7 (a1 : Int32) (k7_2 : zS → Option (Int32 × zS)) : Nat → Int32 → zS → Option (Int32 × zS)
  | 0, _, _ => none
  | (n7_2 + 1), v3_7_2, w7_2 => if (10 : Int32) ≤ v3_7_2 then k7_2 w7_2 else if ((a1 >>> (v3_7_2 &&& 31)) &&& (1 : Int32)) = (1 : Int32) then if (w7_2 19 0 1) ≤ 0 then zCv (fX4_putFigure v3_7_2 w7_2) (fun s6 => zB (v3_7_2 + 1) (fun x7 => fX4_writeSum_7 a1 k7_2 n7_2 x7 s6)) else zCv (fX4_put (43 : Int32) w7_2) (fun s8 => zCv (fX4_putFigure v3_7_2 s8) (fun s9 => zB (v3_7_2 + 1) (fun x10 => fX4_writeSum_7 a1 k7_2 n7_2 x10 s9))) else zB (v3_7_2 + 1) (fun x5 => fX4_writeSum_7 a1 k7_2 n7_2 x5 w7_2)
def fX4_writeSum (a1 : Int32) (a2 : Int32) (σ : zS) : Option (Int32 × zS) := zB (zU σ 19 0 1 (0 : Int32)) (fun s1 => fX4_writeSum_7 a1 (fun (y7_2 : zS) => (zCv (fX4_put (32 : Int32) y7_2) (fun s3 => zCv (fX4_putBody a2 s3) (fun s4 => some ((0 : Int32), s4))) : Option (Int32 × zS))) zN (0 : Int32) s1)
abbrev rmX4_writeSum : Room := { frames := 3, cells := 0, slots := 0, locals := 63 }
set_option maxRecDepth 100000 in
set_option maxHeartbeats 4000000 in
theorem tX4_writeSum (l : Launch) (σ : zS) (a1 : Int32) (a2 : Int32) : zMv l yX4_writeSum cX4_writeSum 4 none rmX4_writeSum (fun ad => [.ref (ad 19 0), .int a1, .int a2]) σ (fX4_writeSum a1 a2 σ) := by
  refine zMv.of RX4 (by decide +kernel) rfl (fun _ => Nat.le_of_ble_eq_true rfl) (fun _ => zcat rfl) (fun K t F hR hL E => ?_)
  show ZO K t 0 [some (.ref (zad K 19 0)), some (.int a1), some (.int a2), none] [] σ (zB (zU σ 19 0 1 (0 : Int32)) (fun s1 => fX4_writeSum_7 a1 (fun (y7_2 : zS) => (zCv (fX4_put (32 : Int32) y7_2) (fun s3 => zCv (fX4_putBody a2 s3) (fun s4 => some ((0 : Int32), s4))) : Option (Int32 × zS))) zN (0 : Int32) s1))
  refine z_aload_n (pc := 0) F dX4_writeSum_0 rfl ?_
  refine z_iconst (pc := 1) F (v := 0) dX4_writeSum_1 (by decide) ?_
  refine z_put (pc := 2) F 19 0 1 tyX4 tyX4_ok nmX4 (by decide) (fun _ => rfl) rfl (by decide) inlX4 lk_RX4_15 rfl (by decide +kernel) (fun _ => Nat.le_of_ble_eq_true rfl) (fun _ => rfl) dX4_writeSum_2 (fun s1 => ?_)
  refine z_iconst (pc := 5) F (v := 0) dX4_writeSum_5 (by decide) ?_
  refine z_istore_n (pc := 6) F (lv' := [some (.ref (zad K 19 0)), some (.int a1), some (.int a2), some (.int (0 : Int32))]) dX4_writeSum_6 (zlt rfl) rfl ?_
  have hk7_2 : ∀ (y7_2 : zS), ZO K t 46 [some (.ref (zad K 19 0)), none, some (.int a2), none] [] y7_2 ((fun (y7_2 : zS) => (zCv (fX4_put (32 : Int32) y7_2) (fun s3 => zCv (fX4_putBody a2 s3) (fun s4 => some ((0 : Int32), s4))) : Option (Int32 × zS))) y7_2) := by
    intro y7_2
    show ZO K t 46 [some (.ref (zad K 19 0)), none, some (.int a2), none] [] y7_2 (zCv (fX4_put (32 : Int32) y7_2) (fun s3 => zCv (fX4_putBody a2 s3) (fun s4 => some ((0 : Int32), s4))))
    refine z_aload_n (pc := 46) F dX4_writeSum_46 rfl ?_
    refine z_bipush (pc := 47) F (v := 32) dX4_writeSum_47 (by decide) ?_
    refine z_callVv (pc := 49) (st := []) F 19 0 [.int (32 : Int32)] cl_RX4_19 (tX4_put (zln K) y7_2 (32 : Int32)) rfl (by decide) (fun _ => ⟨_, rfl⟩) rfl (by rw [hR]; exact ⟨rfl, rfl, Nat.le_of_ble_eq_true rfl, Nat.le_of_ble_eq_true rfl⟩) rfl rfl (Nat.le_of_ble_eq_true rfl) dX4_writeSum_49 (fun s3 => ?_)
    refine z_aload_n (pc := 52) F dX4_writeSum_52 rfl ?_
    refine z_iload_n (pc := 53) F dX4_writeSum_53 rfl ?_
    refine z_callVv (pc := 54) (st := []) F 19 0 [.int a2] cl_RX4_26 (tX4_putBody (zln K) s3 a2) rfl (by decide) (fun _ => ⟨_, rfl⟩) rfl (by rw [hR]; exact ⟨rfl, rfl, Nat.le_of_ble_eq_true rfl, Nat.le_of_ble_eq_true rfl⟩) rfl rfl (Nat.le_of_ble_eq_true rfl) dX4_writeSum_54 (fun s4 => ?_)
    exact z_vret (pc := 57) (x := 0) F E dX4_writeSum_57
  have L7_2 : ∀ (n7_2 : Nat) (v3_7_2 : Int32) (w7_2 : zS), ZO K t 7 [some (.ref (zad K 19 0)), some (.int a1), some (.int a2), some (.int v3_7_2)] [] w7_2 (fX4_writeSum_7 a1 (fun (y7_2 : zS) => (zCv (fX4_put (32 : Int32) y7_2) (fun s3 => zCv (fX4_putBody a2 s3) (fun s4 => some ((0 : Int32), s4))) : Option (Int32 × zS))) n7_2 v3_7_2 w7_2) := by
    revert hk7_2; generalize (fun (y7_2 : zS) => (zCv (fX4_put (32 : Int32) y7_2) (fun s3 => zCv (fX4_putBody a2 s3) (fun s4 => some ((0 : Int32), s4))) : Option (Int32 × zS))) = k7_2; intro hk7_2
    intro n7_2
    induction n7_2 with
    | zero => intro v3_7_2 w7_2; exact z_none
    | succ n7_2 ih7_2 =>
      intro v3_7_2 w7_2
      show ZO K t 7 [some (.ref (zad K 19 0)), some (.int a1), some (.int a2), some (.int v3_7_2)] [] w7_2 (if (10 : Int32) ≤ v3_7_2 then k7_2 w7_2 else if ((a1 >>> (v3_7_2 &&& 31)) &&& (1 : Int32)) = (1 : Int32) then if (w7_2 19 0 1) ≤ 0 then zCv (fX4_putFigure v3_7_2 w7_2) (fun s6 => zB (v3_7_2 + 1) (fun x7 => fX4_writeSum_7 a1 k7_2 n7_2 x7 s6)) else zCv (fX4_put (43 : Int32) w7_2) (fun s8 => zCv (fX4_putFigure v3_7_2 s8) (fun s9 => zB (v3_7_2 + 1) (fun x10 => fX4_writeSum_7 a1 k7_2 n7_2 x10 s9))) else zB (v3_7_2 + 1) (fun x5 => fX4_writeSum_7 a1 k7_2 n7_2 x5 w7_2))
      refine z_iload_n (pc := 7) F dX4_writeSum_7 rfl ?_
      refine z_bipush (pc := 8) F (v := 10) dX4_writeSum_8 (by decide) ?_
      refine z_icmp_ge (pc := 10) F 46 dX4_writeSum_10 (by decide) (fun h13 => ?_) (fun h13 => ?_)
      · refine z_wk [true, false, true, false] (lv' := [some (.ref (zad K 19 0)), none, some (.int a2), none]) rfl ?_
        exact hk7_2  w7_2
      · refine z_iload_n (pc := 13) F dX4_writeSum_13 rfl ?_
        refine z_iload_n (pc := 14) F dX4_writeSum_14 rfl ?_
        refine z_ishr (pc := 15) F dX4_writeSum_15 ?_
        refine z_iconst (pc := 16) F (v := 1) dX4_writeSum_16 (by decide) ?_
        refine z_iand (pc := 17) F dX4_writeSum_17 ?_
        refine z_iconst (pc := 18) F (v := 1) dX4_writeSum_18 (by decide) ?_
        refine z_icmp_ne (pc := 19) F 40 dX4_writeSum_19 (by decide) (fun h12 => ?_) (fun h12 => ?_)
        · refine z_iincB (pc := 40) F (lv' := fun x5 => [some (.ref (zad K 19 0)), some (.int a1), some (.int a2), some (.int x5)]) dX4_writeSum_40 rfl rfl (fun _ => rfl) (fun x5 => ?_)
          refine z_goto (pc := 43) F 7 dX4_writeSum_43 (by decide) ?_
          exact ih7_2 x5 w7_2
        · refine z_aload_n (pc := 22) F dX4_writeSum_22 rfl ?_
          refine z_get (pc := 23) F 19 0 1 (v := .int (w7_2 19 0 1)) (by decide) (fun _ => rfl) rfl (by decide) inlX4 lk_RX4_15 rfl dX4_writeSum_23 ?_
          refine z_if_le (pc := 26) F 35 dX4_writeSum_26 (by decide) (fun h11 => ?_) (fun h11 => ?_)
          · refine z_aload_n (pc := 35) F dX4_writeSum_35 rfl ?_
            refine z_iload_n (pc := 36) F dX4_writeSum_36 rfl ?_
            refine z_callVv (pc := 37) (st := []) F 19 0 [.int v3_7_2] cl_RX4_23 (tX4_putFigure (zln K) w7_2 v3_7_2) rfl (by decide) (fun _ => ⟨_, rfl⟩) rfl (by rw [hR]; exact ⟨rfl, rfl, Nat.le_of_ble_eq_true rfl, Nat.le_of_ble_eq_true rfl⟩) rfl rfl (Nat.le_of_ble_eq_true rfl) dX4_writeSum_37 (fun s6 => ?_)
            refine z_iincB (pc := 40) F (lv' := fun x7 => [some (.ref (zad K 19 0)), some (.int a1), some (.int a2), some (.int x7)]) dX4_writeSum_40 rfl rfl (fun _ => rfl) (fun x7 => ?_)
            refine z_goto (pc := 43) F 7 dX4_writeSum_43 (by decide) ?_
            exact ih7_2 x7 s6
          · refine z_aload_n (pc := 29) F dX4_writeSum_29 rfl ?_
            refine z_bipush (pc := 30) F (v := 43) dX4_writeSum_30 (by decide) ?_
            refine z_callVv (pc := 32) (st := []) F 19 0 [.int (43 : Int32)] cl_RX4_19 (tX4_put (zln K) w7_2 (43 : Int32)) rfl (by decide) (fun _ => ⟨_, rfl⟩) rfl (by rw [hR]; exact ⟨rfl, rfl, Nat.le_of_ble_eq_true rfl, Nat.le_of_ble_eq_true rfl⟩) rfl rfl (Nat.le_of_ble_eq_true rfl) dX4_writeSum_32 (fun s8 => ?_)
            refine z_aload_n (pc := 35) F dX4_writeSum_35 rfl ?_
            refine z_iload_n (pc := 36) F dX4_writeSum_36 rfl ?_
            refine z_callVv (pc := 37) (st := []) F 19 0 [.int v3_7_2] cl_RX4_23 (tX4_putFigure (zln K) s8 v3_7_2) rfl (by decide) (fun _ => ⟨_, rfl⟩) rfl (by rw [hR]; exact ⟨rfl, rfl, Nat.le_of_ble_eq_true rfl, Nat.le_of_ble_eq_true rfl⟩) rfl rfl (Nat.le_of_ble_eq_true rfl) dX4_writeSum_37 (fun s9 => ?_)
            refine z_iincB (pc := 40) F (lv' := fun x10 => [some (.ref (zad K 19 0)), some (.int a1), some (.int a2), some (.int x10)]) dX4_writeSum_40 rfl rfl (fun _ => rfl) (fun x10 => ?_)
            refine z_goto (pc := 43) F 7 dX4_writeSum_43 (by decide) ?_
            exact ih7_2 x10 s9
  exact L7_2 zN (0 : Int32) s1
def fX5_add (a1 : Int32) (a2 : Int32) (σ : zS) : Option (Int32 × zS) := if (σ 4 0 2) < (16 : Int32) then zIx (σ 4 0 2) 16 (zB (zU σ 5 0 (σ 4 0 2).toNatClampNeg a1) (fun s2 => zIx (s2 4 0 2) 16 (zB (zU s2 6 0 (s2 4 0 2).toNatClampNeg a2) (fun s4 => zB (zU s4 4 0 2 ((s4 4 0 2) + (1 : Int32))) (fun s5 => some ((1 : Int32), s5)))))) else some ((0 : Int32), σ)
abbrev rmX5_add : Room := { frames := 0, cells := 0, slots := 0, locals := 0 }
set_option maxRecDepth 100000 in
set_option maxHeartbeats 4000000 in
theorem tX5_add (l : Launch) (σ : zS) (a1 : Int32) (a2 : Int32) : zMi l yX5_add cX5_add 3 (some .boolean) rmX5_add (fun ad => [.ref (ad 4 0), .int a1, .int a2]) σ (fX5_add a1 a2 σ) := by
  refine zMi.of RX5 (by decide +kernel) rfl (fun _ => Nat.le_of_ble_eq_true rfl) (fun _ => zcat rfl) (fun K t F hR hL E => ?_)
  show ZO K t 0 [some (.ref (zad K 4 0)), some (.int a1), some (.int a2)] [] σ (if (σ 4 0 2) < (16 : Int32) then zIx (σ 4 0 2) 16 (zB (zU σ 5 0 (σ 4 0 2).toNatClampNeg a1) (fun s2 => zIx (s2 4 0 2) 16 (zB (zU s2 6 0 (s2 4 0 2).toNatClampNeg a2) (fun s4 => zB (zU s4 4 0 2 ((s4 4 0 2) + (1 : Int32))) (fun s5 => some ((1 : Int32), s5)))))) else some ((0 : Int32), σ))
  refine z_aload_n (pc := 0) F dX5_add_0 rfl ?_
  refine z_get (pc := 1) F 4 0 2 (v := .int (σ 4 0 2)) (by decide) (fun _ => rfl) rfl (by decide) inlX5 lk_RX5_18 rfl dX5_add_1 ?_
  refine z_bipush (pc := 4) F (v := 16) dX5_add_4 (by decide) ?_
  refine z_icmp_lt (pc := 6) F 11 dX5_add_6 (by decide) (fun h6 => ?_) (fun h6 => ?_)
  · refine z_aload_n (pc := 11) F dX5_add_11 rfl ?_
    refine z_get (pc := 12) F 4 0 0 (v := .ref (zad K 5 0)) (by decide) (fun _ => rfl) rfl (by decide) inlX5 lk_RX5_9 rfl dX5_add_12 ?_
    refine z_aload_n (pc := 15) F dX5_add_15 rfl ?_
    refine z_get (pc := 16) F 4 0 2 (v := .int (σ 4 0 2)) (by decide) (fun _ => rfl) rfl (by decide) inlX5 lk_RX5_18 rfl dX5_add_16 ?_
    refine z_iload_n (pc := 19) F dX5_add_19 rfl ?_
    refine z_ix (fun h1 => ?_)
    refine z_iast (pc := 20) F 5 0 (by decide) (fun _ _ => rfl) h1 dX5_add_20 (fun s2 => ?_)
    refine z_aload_n (pc := 21) F dX5_add_21 rfl ?_
    refine z_get (pc := 22) F 4 0 1 (v := .ref (zad K 6 0)) (by decide) (fun _ => rfl) rfl (by decide) inlX5 lk_RX5_15 rfl dX5_add_22 ?_
    refine z_aload_n (pc := 25) F dX5_add_25 rfl ?_
    refine z_get (pc := 26) F 4 0 2 (v := .int (s2 4 0 2)) (by decide) (fun _ => rfl) rfl (by decide) inlX5 lk_RX5_18 rfl dX5_add_26 ?_
    refine z_iload_n (pc := 29) F dX5_add_29 rfl ?_
    refine z_ix (fun h3 => ?_)
    refine z_iast (pc := 30) F 6 0 (by decide) (fun _ _ => rfl) h3 dX5_add_30 (fun s4 => ?_)
    refine z_aload_n (pc := 31) F dX5_add_31 rfl ?_
    refine z_dup (pc := 32) F dX5_add_32 rfl ?_
    refine z_get (pc := 33) F 4 0 2 (v := .int (s4 4 0 2)) (by decide) (fun _ => rfl) rfl (by decide) inlX5 lk_RX5_18 rfl dX5_add_33 ?_
    refine z_iconst (pc := 36) F (v := 1) dX5_add_36 (by decide) ?_
    refine z_iadd (pc := 37) F dX5_add_37 ?_
    refine z_put (pc := 38) F 4 0 2 tyX5 tyX5_ok nmX5 (by decide) (fun _ => rfl) rfl (by decide) inlX5 lk_RX5_18 rfl (by decide +kernel) (fun _ => Nat.le_of_ble_eq_true rfl) (fun _ => rfl) dX5_add_38 (fun s5 => ?_)
    refine z_iconst (pc := 41) F (v := 1) dX5_add_41 (by decide) ?_
    exact z_zret (pc := 42) F E (by decide) dX5_add_42
  · refine z_iconst (pc := 9) F (v := 0) dX5_add_9 (by decide) ?_
    exact z_zret (pc := 10) F E (by decide) dX5_add_10
def fX5_indexOf_2 (a1 : Int32) (a2 : Int32) (k2_1 : zS → Option (Int32 × zS)) : Nat → Int32 → zS → Option (Int32 × zS)
  | 0, _, _ => none
  | (n2_1 + 1), v3_2_1, w2_1 => if (w2_1 4 0 2) ≤ v3_2_1 then k2_1 w2_1 else zIx v3_2_1 16 (if (w2_1 5 0 v3_2_1.toNatClampNeg) = a1 then zIx v3_2_1 16 (if (w2_1 6 0 v3_2_1.toNatClampNeg) = a2 then some (v3_2_1, w2_1) else zB (v3_2_1 + 1) (fun x5 => fX5_indexOf_2 a1 a2 k2_1 n2_1 x5 w2_1)) else zB (v3_2_1 + 1) (fun x3 => fX5_indexOf_2 a1 a2 k2_1 n2_1 x3 w2_1))
def fX5_indexOf (a1 : Int32) (a2 : Int32) (σ : zS) : Option (Int32 × zS) := fX5_indexOf_2 a1 a2 (fun (y2_1 : zS) => (some ((-1 : Int32), y2_1) : Option (Int32 × zS))) zN (0 : Int32) σ
abbrev rmX5_indexOf : Room := { frames := 0, cells := 0, slots := 0, locals := 0 }
set_option maxRecDepth 100000 in
set_option maxHeartbeats 4000000 in
theorem tX5_indexOf (l : Launch) (σ : zS) (a1 : Int32) (a2 : Int32) : zMi l yX5_indexOf cX5_indexOf 4 (some .int) rmX5_indexOf (fun ad => [.ref (ad 4 0), .int a1, .int a2]) σ (fX5_indexOf a1 a2 σ) := by
  refine zMi.of RX5 (by decide +kernel) rfl (fun _ => Nat.le_of_ble_eq_true rfl) (fun _ => zcat rfl) (fun K t F hR hL E => ?_)
  show ZO K t 0 [some (.ref (zad K 4 0)), some (.int a1), some (.int a2), none] [] σ (fX5_indexOf_2 a1 a2 (fun (y2_1 : zS) => (some ((-1 : Int32), y2_1) : Option (Int32 × zS))) zN (0 : Int32) σ)
  refine z_iconst (pc := 0) F (v := 0) dX5_indexOf_0 (by decide) ?_
  refine z_istore_n (pc := 1) F (lv' := [some (.ref (zad K 4 0)), some (.int a1), some (.int a2), some (.int (0 : Int32))]) dX5_indexOf_1 (zlt rfl) rfl ?_
  have hk2_1 : ∀ (y2_1 : zS), ZO K t 38 [none, none, none, none] [] y2_1 ((fun (y2_1 : zS) => (some ((-1 : Int32), y2_1) : Option (Int32 × zS))) y2_1) := by
    intro y2_1
    show ZO K t 38 [none, none, none, none] [] y2_1 (some ((-1 : Int32), y2_1))
    refine z_iconst (pc := 38) F (v := -1) dX5_indexOf_38 (by decide) ?_
    exact z_iret (pc := 39) F E dX5_indexOf_39
  have L2_1 : ∀ (n2_1 : Nat) (v3_2_1 : Int32) (w2_1 : zS), ZO K t 2 [some (.ref (zad K 4 0)), some (.int a1), some (.int a2), some (.int v3_2_1)] [] w2_1 (fX5_indexOf_2 a1 a2 (fun (y2_1 : zS) => (some ((-1 : Int32), y2_1) : Option (Int32 × zS))) n2_1 v3_2_1 w2_1) := by
    revert hk2_1; generalize (fun (y2_1 : zS) => (some ((-1 : Int32), y2_1) : Option (Int32 × zS))) = k2_1; intro hk2_1
    intro n2_1
    induction n2_1 with
    | zero => intro v3_2_1 w2_1; exact z_none
    | succ n2_1 ih2_1 =>
      intro v3_2_1 w2_1
      show ZO K t 2 [some (.ref (zad K 4 0)), some (.int a1), some (.int a2), some (.int v3_2_1)] [] w2_1 (if (w2_1 4 0 2) ≤ v3_2_1 then k2_1 w2_1 else zIx v3_2_1 16 (if (w2_1 5 0 v3_2_1.toNatClampNeg) = a1 then zIx v3_2_1 16 (if (w2_1 6 0 v3_2_1.toNatClampNeg) = a2 then some (v3_2_1, w2_1) else zB (v3_2_1 + 1) (fun x5 => fX5_indexOf_2 a1 a2 k2_1 n2_1 x5 w2_1)) else zB (v3_2_1 + 1) (fun x3 => fX5_indexOf_2 a1 a2 k2_1 n2_1 x3 w2_1)))
      refine z_iload_n (pc := 2) F dX5_indexOf_2 rfl ?_
      refine z_aload_n (pc := 3) F dX5_indexOf_3 rfl ?_
      refine z_get (pc := 4) F 4 0 2 (v := .int (w2_1 4 0 2)) (by decide) (fun _ => rfl) rfl (by decide) inlX5 lk_RX5_18 rfl dX5_indexOf_4 ?_
      refine z_icmp_ge (pc := 7) F 38 dX5_indexOf_7 (by decide) (fun h8 => ?_) (fun h8 => ?_)
      · refine z_wk [false, false, false, false] (lv' := [none, none, none, none]) rfl ?_
        exact hk2_1  w2_1
      · refine z_aload_n (pc := 10) F dX5_indexOf_10 rfl ?_
        refine z_get (pc := 11) F 4 0 0 (v := .ref (zad K 5 0)) (by decide) (fun _ => rfl) rfl (by decide) inlX5 lk_RX5_9 rfl dX5_indexOf_11 ?_
        refine z_iload_n (pc := 14) F dX5_indexOf_14 rfl ?_
        refine z_ix (fun h2 => ?_)
        refine z_iald (pc := 15) F 5 0 (by decide) (fun _ => rfl) h2 dX5_indexOf_15 ?_
        refine z_iload_n (pc := 16) F dX5_indexOf_16 rfl ?_
        refine z_icmp_ne (pc := 17) F 32 dX5_indexOf_17 (by decide) (fun h7 => ?_) (fun h7 => ?_)
        · refine z_iincB (pc := 32) F (lv' := fun x3 => [some (.ref (zad K 4 0)), some (.int a1), some (.int a2), some (.int x3)]) dX5_indexOf_32 rfl rfl (fun _ => rfl) (fun x3 => ?_)
          refine z_goto (pc := 35) F 2 dX5_indexOf_35 (by decide) ?_
          exact ih2_1 x3 w2_1
        · refine z_aload_n (pc := 20) F dX5_indexOf_20 rfl ?_
          refine z_get (pc := 21) F 4 0 1 (v := .ref (zad K 6 0)) (by decide) (fun _ => rfl) rfl (by decide) inlX5 lk_RX5_15 rfl dX5_indexOf_21 ?_
          refine z_iload_n (pc := 24) F dX5_indexOf_24 rfl ?_
          refine z_ix (fun h4 => ?_)
          refine z_iald (pc := 25) F 6 0 (by decide) (fun _ => rfl) h4 dX5_indexOf_25 ?_
          refine z_iload_n (pc := 26) F dX5_indexOf_26 rfl ?_
          refine z_icmp_ne (pc := 27) F 32 dX5_indexOf_27 (by decide) (fun h6 => ?_) (fun h6 => ?_)
          · refine z_iincB (pc := 32) F (lv' := fun x5 => [some (.ref (zad K 4 0)), some (.int a1), some (.int a2), some (.int x5)]) dX5_indexOf_32 rfl rfl (fun _ => rfl) (fun x5 => ?_)
            refine z_goto (pc := 35) F 2 dX5_indexOf_35 (by decide) ?_
            exact ih2_1 x5 w2_1
          · refine z_iload_n (pc := 30) F dX5_indexOf_30 rfl ?_
            exact z_iret (pc := 31) F E dX5_indexOf_31
  exact L2_1 zN (0 : Int32) σ
def fX5_removeLetter_4 (a1 : Int32) (k4_1 : Int32 → zS → Option (Int32 × zS)) : Nat → Int32 → Int32 → zS → Option (Int32 × zS)
  | 0, _, _, _ => none
  | (n4_1 + 1), v2_4_1, v3_4_1, w4_1 => if (w4_1 4 0 2) ≤ v3_4_1 then k4_1 v2_4_1 w4_1 else zIx v3_4_1 16 (if (w4_1 5 0 v3_4_1.toNatClampNeg) = a1 then zB (v3_4_1 + 1) (fun x5 => fX5_removeLetter_4 a1 k4_1 n4_1 v2_4_1 x5 w4_1) else zIx v3_4_1 16 (zIx v2_4_1 16 (zB (zU w4_1 5 0 v2_4_1.toNatClampNeg (w4_1 5 0 v3_4_1.toNatClampNeg)) (fun s8 => zIx v3_4_1 16 (zIx v2_4_1 16 (zB (zU s8 6 0 v2_4_1.toNatClampNeg (s8 6 0 v3_4_1.toNatClampNeg)) (fun s11 => zB (v2_4_1 + 1) (fun x12 => zB (v3_4_1 + 1) (fun x13 => fX5_removeLetter_4 a1 k4_1 n4_1 x12 x13 s11)))))))))
def fX5_removeLetter (a1 : Int32) (σ : zS) : Option (Int32 × zS) := fX5_removeLetter_4 a1 (fun (u2_4_1 : Int32) (y4_1 : zS) => (zB ((y4_1 4 0 2) - u2_4_1) (fun x2 => zB (zU y4_1 4 0 2 u2_4_1) (fun s3 => some (x2, s3))) : Option (Int32 × zS))) zN (0 : Int32) (0 : Int32) σ
abbrev rmX5_removeLetter : Room := { frames := 0, cells := 0, slots := 0, locals := 0 }
set_option maxRecDepth 100000 in
set_option maxHeartbeats 4000000 in
theorem tX5_removeLetter (l : Launch) (σ : zS) (a1 : Int32) : zMi l yX5_removeLetter cX5_removeLetter 4 (some .int) rmX5_removeLetter (fun ad => [.ref (ad 4 0), .int a1]) σ (fX5_removeLetter a1 σ) := by
  refine zMi.of RX5 (by decide +kernel) rfl (fun _ => Nat.le_of_ble_eq_true rfl) (fun _ => zcat rfl) (fun K t F hR hL E => ?_)
  show ZO K t 0 [some (.ref (zad K 4 0)), some (.int a1), none, none] [] σ (fX5_removeLetter_4 a1 (fun (u2_4_1 : Int32) (y4_1 : zS) => (zB ((y4_1 4 0 2) - u2_4_1) (fun x2 => zB (zU y4_1 4 0 2 u2_4_1) (fun s3 => some (x2, s3))) : Option (Int32 × zS))) zN (0 : Int32) (0 : Int32) σ)
  refine z_iconst (pc := 0) F (v := 0) dX5_removeLetter_0 (by decide) ?_
  refine z_istore_n (pc := 1) F (lv' := [some (.ref (zad K 4 0)), some (.int a1), some (.int (0 : Int32)), none]) dX5_removeLetter_1 (zlt rfl) rfl ?_
  refine z_iconst (pc := 2) F (v := 0) dX5_removeLetter_2 (by decide) ?_
  refine z_istore_n (pc := 3) F (lv' := [some (.ref (zad K 4 0)), some (.int a1), some (.int (0 : Int32)), some (.int (0 : Int32))]) dX5_removeLetter_3 (zlt rfl) rfl ?_
  have hk4_1 : ∀ (u2_4_1 : Int32) (y4_1 : zS), ZO K t 55 [some (.ref (zad K 4 0)), none, some (.int u2_4_1), none] [] y4_1 ((fun (u2_4_1 : Int32) (y4_1 : zS) => (zB ((y4_1 4 0 2) - u2_4_1) (fun x2 => zB (zU y4_1 4 0 2 u2_4_1) (fun s3 => some (x2, s3))) : Option (Int32 × zS))) u2_4_1 y4_1) := by
    intro u2_4_1 y4_1
    show ZO K t 55 [some (.ref (zad K 4 0)), none, some (.int u2_4_1), none] [] y4_1 (zB ((y4_1 4 0 2) - u2_4_1) (fun x2 => zB (zU y4_1 4 0 2 u2_4_1) (fun s3 => some (x2, s3))))
    refine z_aload_n (pc := 55) F dX5_removeLetter_55 rfl ?_
    refine z_get (pc := 56) F 4 0 2 (v := .int (y4_1 4 0 2)) (by decide) (fun _ => rfl) rfl (by decide) inlX5 lk_RX5_18 rfl dX5_removeLetter_56 ?_
    refine z_iload_n (pc := 59) F dX5_removeLetter_59 rfl ?_
    refine z_isub (pc := 60) F dX5_removeLetter_60 ?_
    refine z_Bi (fun x2 => ?_)
    refine z_istore_n (pc := 61) F (lv' := [some (.ref (zad K 4 0)), none, some (.int u2_4_1), some (.int x2)]) dX5_removeLetter_61 (zlt rfl) rfl ?_
    refine z_aload_n (pc := 62) F dX5_removeLetter_62 rfl ?_
    refine z_iload_n (pc := 63) F dX5_removeLetter_63 rfl ?_
    refine z_put (pc := 64) F 4 0 2 tyX5 tyX5_ok nmX5 (by decide) (fun _ => rfl) rfl (by decide) inlX5 lk_RX5_18 rfl (by decide +kernel) (fun _ => Nat.le_of_ble_eq_true rfl) (fun _ => rfl) dX5_removeLetter_64 (fun s3 => ?_)
    refine z_iload_n (pc := 67) F dX5_removeLetter_67 rfl ?_
    exact z_iret (pc := 68) F E dX5_removeLetter_68
  have L4_1 : ∀ (n4_1 : Nat) (v2_4_1 : Int32) (v3_4_1 : Int32) (w4_1 : zS), ZO K t 4 [some (.ref (zad K 4 0)), some (.int a1), some (.int v2_4_1), some (.int v3_4_1)] [] w4_1 (fX5_removeLetter_4 a1 (fun (u2_4_1 : Int32) (y4_1 : zS) => (zB ((y4_1 4 0 2) - u2_4_1) (fun x2 => zB (zU y4_1 4 0 2 u2_4_1) (fun s3 => some (x2, s3))) : Option (Int32 × zS))) n4_1 v2_4_1 v3_4_1 w4_1) := by
    revert hk4_1; generalize (fun (u2_4_1 : Int32) (y4_1 : zS) => (zB ((y4_1 4 0 2) - u2_4_1) (fun x2 => zB (zU y4_1 4 0 2 u2_4_1) (fun s3 => some (x2, s3))) : Option (Int32 × zS))) = k4_1; intro hk4_1
    intro n4_1
    induction n4_1 with
    | zero => intro v2_4_1 v3_4_1 w4_1; exact z_none
    | succ n4_1 ih4_1 =>
      intro v2_4_1 v3_4_1 w4_1
      show ZO K t 4 [some (.ref (zad K 4 0)), some (.int a1), some (.int v2_4_1), some (.int v3_4_1)] [] w4_1 (if (w4_1 4 0 2) ≤ v3_4_1 then k4_1 v2_4_1 w4_1 else zIx v3_4_1 16 (if (w4_1 5 0 v3_4_1.toNatClampNeg) = a1 then zB (v3_4_1 + 1) (fun x5 => fX5_removeLetter_4 a1 k4_1 n4_1 v2_4_1 x5 w4_1) else zIx v3_4_1 16 (zIx v2_4_1 16 (zB (zU w4_1 5 0 v2_4_1.toNatClampNeg (w4_1 5 0 v3_4_1.toNatClampNeg)) (fun s8 => zIx v3_4_1 16 (zIx v2_4_1 16 (zB (zU s8 6 0 v2_4_1.toNatClampNeg (s8 6 0 v3_4_1.toNatClampNeg)) (fun s11 => zB (v2_4_1 + 1) (fun x12 => zB (v3_4_1 + 1) (fun x13 => fX5_removeLetter_4 a1 k4_1 n4_1 x12 x13 s11))))))))))
      refine z_iload_n (pc := 4) F dX5_removeLetter_4 rfl ?_
      refine z_aload_n (pc := 5) F dX5_removeLetter_5 rfl ?_
      refine z_get (pc := 6) F 4 0 2 (v := .int (w4_1 4 0 2)) (by decide) (fun _ => rfl) rfl (by decide) inlX5 lk_RX5_18 rfl dX5_removeLetter_6 ?_
      refine z_icmp_ge (pc := 9) F 55 dX5_removeLetter_9 (by decide) (fun h15 => ?_) (fun h15 => ?_)
      · refine z_wk [true, false, true, false] (lv' := [some (.ref (zad K 4 0)), none, some (.int v2_4_1), none]) rfl ?_
        exact hk4_1 v2_4_1 w4_1
      · refine z_aload_n (pc := 12) F dX5_removeLetter_12 rfl ?_
        refine z_get (pc := 13) F 4 0 0 (v := .ref (zad K 5 0)) (by decide) (fun _ => rfl) rfl (by decide) inlX5 lk_RX5_9 rfl dX5_removeLetter_13 ?_
        refine z_iload_n (pc := 16) F dX5_removeLetter_16 rfl ?_
        refine z_ix (fun h4 => ?_)
        refine z_iald (pc := 17) F 5 0 (by decide) (fun _ => rfl) h4 dX5_removeLetter_17 ?_
        refine z_iload_n (pc := 18) F dX5_removeLetter_18 rfl ?_
        refine z_icmp_eq (pc := 19) F 49 dX5_removeLetter_19 (by decide) (fun h14 => ?_) (fun h14 => ?_)
        · refine z_iincB (pc := 49) F (lv' := fun x5 => [some (.ref (zad K 4 0)), some (.int a1), some (.int v2_4_1), some (.int x5)]) dX5_removeLetter_49 rfl rfl (fun _ => rfl) (fun x5 => ?_)
          refine z_goto (pc := 52) F 4 dX5_removeLetter_52 (by decide) ?_
          exact ih4_1 v2_4_1 x5 w4_1
        · refine z_aload_n (pc := 22) F dX5_removeLetter_22 rfl ?_
          refine z_get (pc := 23) F 4 0 0 (v := .ref (zad K 5 0)) (by decide) (fun _ => rfl) rfl (by decide) inlX5 lk_RX5_9 rfl dX5_removeLetter_23 ?_
          refine z_iload_n (pc := 26) F dX5_removeLetter_26 rfl ?_
          refine z_aload_n (pc := 27) F dX5_removeLetter_27 rfl ?_
          refine z_get (pc := 28) F 4 0 0 (v := .ref (zad K 5 0)) (by decide) (fun _ => rfl) rfl (by decide) inlX5 lk_RX5_9 rfl dX5_removeLetter_28 ?_
          refine z_iload_n (pc := 31) F dX5_removeLetter_31 rfl ?_
          refine z_ix (fun h6 => ?_)
          refine z_iald (pc := 32) F 5 0 (by decide) (fun _ => rfl) h6 dX5_removeLetter_32 ?_
          refine z_ix (fun h7 => ?_)
          refine z_iast (pc := 33) F 5 0 (by decide) (fun _ _ => rfl) h7 dX5_removeLetter_33 (fun s8 => ?_)
          refine z_aload_n (pc := 34) F dX5_removeLetter_34 rfl ?_
          refine z_get (pc := 35) F 4 0 1 (v := .ref (zad K 6 0)) (by decide) (fun _ => rfl) rfl (by decide) inlX5 lk_RX5_15 rfl dX5_removeLetter_35 ?_
          refine z_iload_n (pc := 38) F dX5_removeLetter_38 rfl ?_
          refine z_aload_n (pc := 39) F dX5_removeLetter_39 rfl ?_
          refine z_get (pc := 40) F 4 0 1 (v := .ref (zad K 6 0)) (by decide) (fun _ => rfl) rfl (by decide) inlX5 lk_RX5_15 rfl dX5_removeLetter_40 ?_
          refine z_iload_n (pc := 43) F dX5_removeLetter_43 rfl ?_
          refine z_ix (fun h9 => ?_)
          refine z_iald (pc := 44) F 6 0 (by decide) (fun _ => rfl) h9 dX5_removeLetter_44 ?_
          refine z_ix (fun h10 => ?_)
          refine z_iast (pc := 45) F 6 0 (by decide) (fun _ _ => rfl) h10 dX5_removeLetter_45 (fun s11 => ?_)
          refine z_iincB (pc := 46) F (lv' := fun x12 => [some (.ref (zad K 4 0)), some (.int a1), some (.int x12), some (.int v3_4_1)]) dX5_removeLetter_46 rfl rfl (fun _ => rfl) (fun x12 => ?_)
          refine z_iincB (pc := 49) F (lv' := fun x13 => [some (.ref (zad K 4 0)), some (.int a1), some (.int x12), some (.int x13)]) dX5_removeLetter_49 rfl rfl (fun _ => rfl) (fun x13 => ?_)
          refine z_goto (pc := 52) F 4 dX5_removeLetter_52 (by decide) ?_
          exact ih4_1 x12 x13 s11
  exact L4_1 zN (0 : Int32) (0 : Int32) σ
def fX5_removePair_26 (k26_4 : zS → Option (Int32 × zS)) : Nat → Int32 → zS → Option (Int32 × zS)
  | 0, _, _ => none
  | (n26_4 + 1), v4_26_4, w26_4 => if (w26_4 4 0 2) ≤ v4_26_4 then k26_4 w26_4 else zIx (v4_26_4 + (1 : Int32)) 16 (zIx v4_26_4 16 (zB (zU w26_4 5 0 v4_26_4.toNatClampNeg (w26_4 5 0 (v4_26_4 + (1 : Int32)).toNatClampNeg)) (fun s7 => zIx (v4_26_4 + (1 : Int32)) 16 (zIx v4_26_4 16 (zB (zU s7 6 0 v4_26_4.toNatClampNeg (s7 6 0 (v4_26_4 + (1 : Int32)).toNatClampNeg)) (fun s10 => zB (v4_26_4 + 1) (fun x11 => fX5_removePair_26 k26_4 n26_4 x11 s10)))))))
def fX5_removePair (a1 : Int32) (a2 : Int32) (σ : zS) : Option (Int32 × zS) := zCi (fX5_indexOf a1 a2 σ) (fun x2 s1 => if 0 ≤ x2 then zB (zU s1 4 0 2 ((s1 4 0 2) - (1 : Int32))) (fun s3 => fX5_removePair_26 (fun (y26_4 : zS) => (some ((1 : Int32), y26_4) : Option (Int32 × zS))) zN x2 s3) else some ((0 : Int32), s1))
abbrev rmX5_removePair : Room := { frames := 1, cells := 0, slots := 0, locals := 23 }
set_option maxRecDepth 100000 in
set_option maxHeartbeats 4000000 in
theorem tX5_removePair (l : Launch) (σ : zS) (a1 : Int32) (a2 : Int32) : zMi l yX5_removePair cX5_removePair 5 (some .boolean) rmX5_removePair (fun ad => [.ref (ad 4 0), .int a1, .int a2]) σ (fX5_removePair a1 a2 σ) := by
  refine zMi.of RX5 (by decide +kernel) rfl (fun _ => Nat.le_of_ble_eq_true rfl) (fun _ => zcat rfl) (fun K t F hR hL E => ?_)
  show ZO K t 0 [some (.ref (zad K 4 0)), some (.int a1), some (.int a2), none, none] [] σ (zCi (fX5_indexOf a1 a2 σ) (fun x2 s1 => if 0 ≤ x2 then zB (zU s1 4 0 2 ((s1 4 0 2) - (1 : Int32))) (fun s3 => fX5_removePair_26 (fun (y26_4 : zS) => (some ((1 : Int32), y26_4) : Option (Int32 × zS))) zN x2 s3) else some ((0 : Int32), s1)))
  refine z_aload_n (pc := 0) F dX5_removePair_0 rfl ?_
  refine z_iload_n (pc := 1) F dX5_removePair_1 rfl ?_
  refine z_iload_n (pc := 2) F dX5_removePair_2 rfl ?_
  refine z_callVi (pc := 3) (st := []) F 4 0 [.int a1, .int a2] cl_RX5_22 (tX5_indexOf (zln K) σ a1 a2) rfl (by decide) (fun _ => ⟨_, rfl⟩) rfl (by rw [hR]; exact ⟨rfl, rfl, Nat.le_of_ble_eq_true rfl, Nat.le_of_ble_eq_true rfl⟩) rfl rfl (Nat.le_of_ble_eq_true rfl) dX5_removePair_3 (fun x2 s1 => ?_)
  refine z_istore_n (pc := 6) F (lv' := [some (.ref (zad K 4 0)), some (.int a1), some (.int a2), some (.int x2), none]) dX5_removePair_6 (zlt rfl) rfl ?_
  refine z_iload_n (pc := 7) F dX5_removePair_7 rfl ?_
  refine z_if_ge (pc := 8) F 13 dX5_removePair_8 (by decide) (fun h13 => ?_) (fun h13 => ?_)
  · refine z_aload_n (pc := 13) F dX5_removePair_13 rfl ?_
    refine z_dup (pc := 14) F dX5_removePair_14 rfl ?_
    refine z_get (pc := 15) F 4 0 2 (v := .int (s1 4 0 2)) (by decide) (fun _ => rfl) rfl (by decide) inlX5 lk_RX5_18 rfl dX5_removePair_15 ?_
    refine z_iconst (pc := 18) F (v := 1) dX5_removePair_18 (by decide) ?_
    refine z_isub (pc := 19) F dX5_removePair_19 ?_
    refine z_put (pc := 20) F 4 0 2 tyX5 tyX5_ok nmX5 (by decide) (fun _ => rfl) rfl (by decide) inlX5 lk_RX5_18 rfl (by decide +kernel) (fun _ => Nat.le_of_ble_eq_true rfl) (fun _ => rfl) dX5_removePair_20 (fun s3 => ?_)
    refine z_iload_n (pc := 23) F dX5_removePair_23 rfl ?_
    refine z_istore (pc := 24) F (lv' := [some (.ref (zad K 4 0)), some (.int a1), some (.int a2), some (.int x2), some (.int x2)]) dX5_removePair_24 (zlt rfl) rfl ?_
    refine z_wk [true, false, false, false, true] (lv' := [some (.ref (zad K 4 0)), none, none, none, some (.int x2)]) rfl ?_
    have hk26_4 : ∀ (y26_4 : zS), ZO K t 73 [none, none, none, none, none] [] y26_4 ((fun (y26_4 : zS) => (some ((1 : Int32), y26_4) : Option (Int32 × zS))) y26_4) := by
      intro y26_4
      show ZO K t 73 [none, none, none, none, none] [] y26_4 (some ((1 : Int32), y26_4))
      refine z_iconst (pc := 73) F (v := 1) dX5_removePair_73 (by decide) ?_
      exact z_zret (pc := 74) F E (by decide) dX5_removePair_74
    have L26_4 : ∀ (n26_4 : Nat) (v4_26_4 : Int32) (w26_4 : zS), ZO K t 26 [some (.ref (zad K 4 0)), none, none, none, some (.int v4_26_4)] [] w26_4 (fX5_removePair_26 (fun (y26_4 : zS) => (some ((1 : Int32), y26_4) : Option (Int32 × zS))) n26_4 v4_26_4 w26_4) := by
      revert hk26_4; generalize (fun (y26_4 : zS) => (some ((1 : Int32), y26_4) : Option (Int32 × zS))) = k26_4; intro hk26_4
      intro n26_4
      induction n26_4 with
      | zero => intro v4_26_4 w26_4; exact z_none
      | succ n26_4 ih26_4 =>
        intro v4_26_4 w26_4
        show ZO K t 26 [some (.ref (zad K 4 0)), none, none, none, some (.int v4_26_4)] [] w26_4 (if (w26_4 4 0 2) ≤ v4_26_4 then k26_4 w26_4 else zIx (v4_26_4 + (1 : Int32)) 16 (zIx v4_26_4 16 (zB (zU w26_4 5 0 v4_26_4.toNatClampNeg (w26_4 5 0 (v4_26_4 + (1 : Int32)).toNatClampNeg)) (fun s7 => zIx (v4_26_4 + (1 : Int32)) 16 (zIx v4_26_4 16 (zB (zU s7 6 0 v4_26_4.toNatClampNeg (s7 6 0 (v4_26_4 + (1 : Int32)).toNatClampNeg)) (fun s10 => zB (v4_26_4 + 1) (fun x11 => fX5_removePair_26 k26_4 n26_4 x11 s10))))))))
        refine z_iload (pc := 26) F dX5_removePair_26 rfl ?_
        refine z_aload_n (pc := 28) F dX5_removePair_28 rfl ?_
        refine z_get (pc := 29) F 4 0 2 (v := .int (w26_4 4 0 2)) (by decide) (fun _ => rfl) rfl (by decide) inlX5 lk_RX5_18 rfl dX5_removePair_29 ?_
        refine z_icmp_ge (pc := 32) F 73 dX5_removePair_32 (by decide) (fun h12 => ?_) (fun h12 => ?_)
        · refine z_wk [false, true, true, true, false] (lv' := [none, none, none, none, none]) rfl ?_
          exact hk26_4  w26_4
        · refine z_aload_n (pc := 35) F dX5_removePair_35 rfl ?_
          refine z_get (pc := 36) F 4 0 0 (v := .ref (zad K 5 0)) (by decide) (fun _ => rfl) rfl (by decide) inlX5 lk_RX5_9 rfl dX5_removePair_36 ?_
          refine z_iload (pc := 39) F dX5_removePair_39 rfl ?_
          refine z_aload_n (pc := 41) F dX5_removePair_41 rfl ?_
          refine z_get (pc := 42) F 4 0 0 (v := .ref (zad K 5 0)) (by decide) (fun _ => rfl) rfl (by decide) inlX5 lk_RX5_9 rfl dX5_removePair_42 ?_
          refine z_iload (pc := 45) F dX5_removePair_45 rfl ?_
          refine z_iconst (pc := 47) F (v := 1) dX5_removePair_47 (by decide) ?_
          refine z_iadd (pc := 48) F dX5_removePair_48 ?_
          refine z_ix (fun h5 => ?_)
          refine z_iald (pc := 49) F 5 0 (by decide) (fun _ => rfl) h5 dX5_removePair_49 ?_
          refine z_ix (fun h6 => ?_)
          refine z_iast (pc := 50) F 5 0 (by decide) (fun _ _ => rfl) h6 dX5_removePair_50 (fun s7 => ?_)
          refine z_aload_n (pc := 51) F dX5_removePair_51 rfl ?_
          refine z_get (pc := 52) F 4 0 1 (v := .ref (zad K 6 0)) (by decide) (fun _ => rfl) rfl (by decide) inlX5 lk_RX5_15 rfl dX5_removePair_52 ?_
          refine z_iload (pc := 55) F dX5_removePair_55 rfl ?_
          refine z_aload_n (pc := 57) F dX5_removePair_57 rfl ?_
          refine z_get (pc := 58) F 4 0 1 (v := .ref (zad K 6 0)) (by decide) (fun _ => rfl) rfl (by decide) inlX5 lk_RX5_15 rfl dX5_removePair_58 ?_
          refine z_iload (pc := 61) F dX5_removePair_61 rfl ?_
          refine z_iconst (pc := 63) F (v := 1) dX5_removePair_63 (by decide) ?_
          refine z_iadd (pc := 64) F dX5_removePair_64 ?_
          refine z_ix (fun h8 => ?_)
          refine z_iald (pc := 65) F 6 0 (by decide) (fun _ => rfl) h8 dX5_removePair_65 ?_
          refine z_ix (fun h9 => ?_)
          refine z_iast (pc := 66) F 6 0 (by decide) (fun _ _ => rfl) h9 dX5_removePair_66 (fun s10 => ?_)
          refine z_iincB (pc := 67) F (lv' := fun x11 => [some (.ref (zad K 4 0)), none, none, none, some (.int x11)]) dX5_removePair_67 rfl rfl (fun _ => rfl) (fun x11 => ?_)
          refine z_goto (pc := 70) F 26 dX5_removePair_70 (by decide) ?_
          exact ih26_4 x11 s10
    exact L26_4 zN x2 s3
  · refine z_iconst (pc := 11) F (v := 0) dX5_removePair_11 (by decide) ?_
    exact z_zret (pc := 12) F E (by decide) dX5_removePair_12
