def fX6_findBest_47 (x4 : Int32) (x7 : Int32) (k47_8 : Int32 → zS → Option (Int32 × zS)) : Nat → Int32 → Int32 → Int32 → zS → Option (Int32 × zS)
  | 0, _, _, _, _ => none
  | (n47_8 + 1), v4_47_8, v5_47_8, v6_47_8, w47_8 => if (1023 : Int32) < v6_47_8 then k47_8 v4_47_8 w47_8 else if (v6_47_8 &&& (x7 ^^^ (-1 : Int32))) = x4 then zCi (fJ6_bitCount_0f7a4 v6_47_8 w47_8) (fun x11 s10 => if (s10 1 0 5) < x11 then zB (v6_47_8 + 1) (fun x12 => fX6_findBest_47 x4 x7 k47_8 n47_8 v4_47_8 v5_47_8 x12 s10) else zCi (fX6_countServed v6_47_8 s10) (fun x14 s13 => zCi (fJ6_bitCount_0f7a4 v6_47_8 s13) (fun x16 s15 => zCi (fJ6_bitCount_0f7a4 v4_47_8 s15) (fun x18 s17 => if x18 ≤ x16 then if v5_47_8 < x14 then zB (v6_47_8 + 1) (fun x19 => fX6_findBest_47 x4 x7 k47_8 n47_8 v6_47_8 x14 x19 s17) else if x14 = v5_47_8 then if (0 : Int32) = 0 then zB (v6_47_8 + 1) (fun x21 => fX6_findBest_47 x4 x7 k47_8 n47_8 v4_47_8 v5_47_8 x21 s17) else zB (v6_47_8 + 1) (fun x22 => fX6_findBest_47 x4 x7 k47_8 n47_8 v6_47_8 x14 x22 s17) else zB (v6_47_8 + 1) (fun x20 => fX6_findBest_47 x4 x7 k47_8 n47_8 v4_47_8 v5_47_8 x20 s17) else if v5_47_8 < x14 then zB (v6_47_8 + 1) (fun x26 => fX6_findBest_47 x4 x7 k47_8 n47_8 v6_47_8 x14 x26 s17) else if x14 = v5_47_8 then if (1 : Int32) = 0 then zB (v6_47_8 + 1) (fun x28 => fX6_findBest_47 x4 x7 k47_8 n47_8 v4_47_8 v5_47_8 x28 s17) else zB (v6_47_8 + 1) (fun x29 => fX6_findBest_47 x4 x7 k47_8 n47_8 v6_47_8 x14 x29 s17) else zB (v6_47_8 + 1) (fun x27 => fX6_findBest_47 x4 x7 k47_8 n47_8 v4_47_8 v5_47_8 x27 s17))))) else zB (v6_47_8 + 1) (fun x9 => fX6_findBest_47 x4 x7 k47_8 n47_8 v4_47_8 v5_47_8 x9 w47_8)
def fX6_findBest (σ : zS) : Option (Int32 × zS) := zCi (fX6_firstOnAir σ) (fun x2 s1 => if 0 ≤ x2 then zIx x2 16 (zB ((1 : Int32) <<< ((s1 5 0 x2.toNatClampNeg) &&& 31)) (fun x4 => zIx x2 16 (zIx (s1 6 0 x2.toNatClampNeg) 8 (zB (s1 3 0 (s1 6 0 x2.toNatClampNeg).toNatClampNeg) (fun x7 => fX6_findBest_47 x4 x7 (fun (u4_47_8 : Int32) (y47_8 : zS) => (some (u4_47_8, y47_8) : Option (Int32 × zS))) zN (0 : Int32) (0 : Int32) (1 : Int32) s1))))) else some ((0 : Int32), s1))
abbrev rmX6_findBest : Room := { frames := 3, cells := 0, slots := 0, locals := 67 }
set_option maxRecDepth 100000 in
set_option maxHeartbeats 4000000 in
theorem tX6_findBest (l : Launch) (σ : zS) : zMi l yX6_findBest cX6_findBest 9 (some .int) rmX6_findBest (fun ad => [.ref (ad 1 0)]) σ (fX6_findBest σ) := by
  refine zMi.of RX6 (by decide +kernel) rfl (fun _ => Nat.le_of_ble_eq_true rfl) (fun _ => zcat rfl) (fun K t F hR hL E => ?_)
  show ZO K t 0 [some (.ref (zad K 1 0)), none, none, none, none, none, none, none, none] [] σ (zCi (fX6_firstOnAir σ) (fun x2 s1 => if 0 ≤ x2 then zIx x2 16 (zB ((1 : Int32) <<< ((s1 5 0 x2.toNatClampNeg) &&& 31)) (fun x4 => zIx x2 16 (zIx (s1 6 0 x2.toNatClampNeg) 8 (zB (s1 3 0 (s1 6 0 x2.toNatClampNeg).toNatClampNeg) (fun x7 => fX6_findBest_47 x4 x7 (fun (u4_47_8 : Int32) (y47_8 : zS) => (some (u4_47_8, y47_8) : Option (Int32 × zS))) zN (0 : Int32) (0 : Int32) (1 : Int32) s1))))) else some ((0 : Int32), s1)))
  refine z_aload_n (pc := 0) F dX6_findBest_0 rfl ?_
  refine z_callVi (pc := 1) (st := []) F 1 0 [] cl_RX6_78 (tX6_firstOnAir (zln K) σ ) rfl (by decide) (fun _ => ⟨_, rfl⟩) rfl (by rw [hR]; exact ⟨rfl, rfl, Nat.le_of_ble_eq_true rfl, Nat.le_of_ble_eq_true rfl⟩) rfl rfl (Nat.le_of_ble_eq_true rfl) dX6_findBest_1 (fun x2 s1 => ?_)
  refine z_istore_n (pc := 4) F (lv' := [some (.ref (zad K 1 0)), some (.int x2), none, none, none, none, none, none, none]) dX6_findBest_4 (zlt rfl) rfl ?_
  refine z_iload_n (pc := 5) F dX6_findBest_5 rfl ?_
  refine z_if_ge (pc := 6) F 11 dX6_findBest_6 (by decide) (fun h37 => ?_) (fun h37 => ?_)
  · refine z_iconst (pc := 11) F (v := 1) dX6_findBest_11 (by decide) ?_
    refine z_aload_n (pc := 12) F dX6_findBest_12 rfl ?_
    refine z_get (pc := 13) F 1 0 2 (v := .ref (zad K 4 0)) (by decide) (fun _ => rfl) rfl (by decide) inlX6 lk_RX6_21 rfl dX6_findBest_13 ?_
    refine z_getN (pc := 16) F 4 0 0 (v := .ref (zad K 5 0)) (by decide) (fun _ => rfl) rfl (by decide) inlX5 lk_RX6_75 rfl dX6_findBest_16 ?_
    refine z_iload_n (pc := 19) F dX6_findBest_19 rfl ?_
    refine z_ix (fun h3 => ?_)
    refine z_iald (pc := 20) F 5 0 (by decide) (fun _ => rfl) h3 dX6_findBest_20 ?_
    refine z_ishl (pc := 21) F dX6_findBest_21 ?_
    refine z_Bi (fun x4 => ?_)
    refine z_istore_n (pc := 22) F (lv' := [some (.ref (zad K 1 0)), some (.int x2), some (.int x4), none, none, none, none, none, none]) dX6_findBest_22 (zlt rfl) rfl ?_
    refine z_aload_n (pc := 23) F dX6_findBest_23 rfl ?_
    refine z_get (pc := 24) F 1 0 1 (v := .ref (zad K 3 0)) (by decide) (fun _ => rfl) rfl (by decide) inlX6 lk_RX6_15 rfl dX6_findBest_24 ?_
    refine z_aload_n (pc := 27) F dX6_findBest_27 rfl ?_
    refine z_get (pc := 28) F 1 0 2 (v := .ref (zad K 4 0)) (by decide) (fun _ => rfl) rfl (by decide) inlX6 lk_RX6_21 rfl dX6_findBest_28 ?_
    refine z_getN (pc := 31) F 4 0 1 (v := .ref (zad K 6 0)) (by decide) (fun _ => rfl) rfl (by decide) inlX5 lk_RX6_72 rfl dX6_findBest_31 ?_
    refine z_iload_n (pc := 34) F dX6_findBest_34 rfl ?_
    refine z_ix (fun h5 => ?_)
    refine z_iald (pc := 35) F 6 0 (by decide) (fun _ => rfl) h5 dX6_findBest_35 ?_
    refine z_ix (fun h6 => ?_)
    refine z_iald (pc := 36) F 3 0 (by decide) (fun _ => rfl) h6 dX6_findBest_36 ?_
    refine z_Bi (fun x7 => ?_)
    refine z_istore_n (pc := 37) F (lv' := [some (.ref (zad K 1 0)), some (.int x2), some (.int x4), some (.int x7), none, none, none, none, none]) dX6_findBest_37 (zlt rfl) rfl ?_
    refine z_iconst (pc := 38) F (v := 0) dX6_findBest_38 (by decide) ?_
    refine z_istore (pc := 39) F (lv' := [some (.ref (zad K 1 0)), some (.int x2), some (.int x4), some (.int x7), some (.int (0 : Int32)), none, none, none, none]) dX6_findBest_39 (zlt rfl) rfl ?_
    refine z_iconst (pc := 41) F (v := 0) dX6_findBest_41 (by decide) ?_
    refine z_istore (pc := 42) F (lv' := [some (.ref (zad K 1 0)), some (.int x2), some (.int x4), some (.int x7), some (.int (0 : Int32)), some (.int (0 : Int32)), none, none, none]) dX6_findBest_42 (zlt rfl) rfl ?_
    refine z_iconst (pc := 44) F (v := 1) dX6_findBest_44 (by decide) ?_
    refine z_istore (pc := 45) F (lv' := [some (.ref (zad K 1 0)), some (.int x2), some (.int x4), some (.int x7), some (.int (0 : Int32)), some (.int (0 : Int32)), some (.int (1 : Int32)), none, none]) dX6_findBest_45 (zlt rfl) rfl ?_
    refine z_wk [true, false, true, true, true, true, true, true, true] (lv' := [some (.ref (zad K 1 0)), none, some (.int x4), some (.int x7), some (.int (0 : Int32)), some (.int (0 : Int32)), some (.int (1 : Int32)), none, none]) rfl ?_
    have hk47_8 : ∀ (u4_47_8 : Int32) (y47_8 : zS), ZO K t 138 [none, none, none, none, some (.int u4_47_8), none, none, none, none] [] y47_8 ((fun (u4_47_8 : Int32) (y47_8 : zS) => (some (u4_47_8, y47_8) : Option (Int32 × zS))) u4_47_8 y47_8) := by
      intro u4_47_8 y47_8
      show ZO K t 138 [none, none, none, none, some (.int u4_47_8), none, none, none, none] [] y47_8 (some (u4_47_8, y47_8))
      refine z_iload (pc := 138) F dX6_findBest_138 rfl ?_
      exact z_iret (pc := 140) F E dX6_findBest_140
    have L47_8 : ∀ (n47_8 : Nat) (v4_47_8 : Int32) (v5_47_8 : Int32) (v6_47_8 : Int32) (w47_8 : zS), ZO K t 47 [some (.ref (zad K 1 0)), none, some (.int x4), some (.int x7), some (.int v4_47_8), some (.int v5_47_8), some (.int v6_47_8), none, none] [] w47_8 (fX6_findBest_47 x4 x7 (fun (u4_47_8 : Int32) (y47_8 : zS) => (some (u4_47_8, y47_8) : Option (Int32 × zS))) n47_8 v4_47_8 v5_47_8 v6_47_8 w47_8) := by
      revert hk47_8; generalize (fun (u4_47_8 : Int32) (y47_8 : zS) => (some (u4_47_8, y47_8) : Option (Int32 × zS))) = k47_8; intro hk47_8
      intro n47_8
      induction n47_8 with
      | zero => intro v4_47_8 v5_47_8 v6_47_8 w47_8; exact z_none
      | succ n47_8 ih47_8 =>
        intro v4_47_8 v5_47_8 v6_47_8 w47_8
        show ZO K t 47 [some (.ref (zad K 1 0)), none, some (.int x4), some (.int x7), some (.int v4_47_8), some (.int v5_47_8), some (.int v6_47_8), none, none] [] w47_8 (if (1023 : Int32) < v6_47_8 then k47_8 v4_47_8 w47_8 else if (v6_47_8 &&& (x7 ^^^ (-1 : Int32))) = x4 then zCi (fJ6_bitCount_0f7a4 v6_47_8 w47_8) (fun x11 s10 => if (s10 1 0 5) < x11 then zB (v6_47_8 + 1) (fun x12 => fX6_findBest_47 x4 x7 k47_8 n47_8 v4_47_8 v5_47_8 x12 s10) else zCi (fX6_countServed v6_47_8 s10) (fun x14 s13 => zCi (fJ6_bitCount_0f7a4 v6_47_8 s13) (fun x16 s15 => zCi (fJ6_bitCount_0f7a4 v4_47_8 s15) (fun x18 s17 => if x18 ≤ x16 then if v5_47_8 < x14 then zB (v6_47_8 + 1) (fun x19 => fX6_findBest_47 x4 x7 k47_8 n47_8 v6_47_8 x14 x19 s17) else if x14 = v5_47_8 then if (0 : Int32) = 0 then zB (v6_47_8 + 1) (fun x21 => fX6_findBest_47 x4 x7 k47_8 n47_8 v4_47_8 v5_47_8 x21 s17) else zB (v6_47_8 + 1) (fun x22 => fX6_findBest_47 x4 x7 k47_8 n47_8 v6_47_8 x14 x22 s17) else zB (v6_47_8 + 1) (fun x20 => fX6_findBest_47 x4 x7 k47_8 n47_8 v4_47_8 v5_47_8 x20 s17) else if v5_47_8 < x14 then zB (v6_47_8 + 1) (fun x26 => fX6_findBest_47 x4 x7 k47_8 n47_8 v6_47_8 x14 x26 s17) else if x14 = v5_47_8 then if (1 : Int32) = 0 then zB (v6_47_8 + 1) (fun x28 => fX6_findBest_47 x4 x7 k47_8 n47_8 v4_47_8 v5_47_8 x28 s17) else zB (v6_47_8 + 1) (fun x29 => fX6_findBest_47 x4 x7 k47_8 n47_8 v6_47_8 x14 x29 s17) else zB (v6_47_8 + 1) (fun x27 => fX6_findBest_47 x4 x7 k47_8 n47_8 v4_47_8 v5_47_8 x27 s17))))) else zB (v6_47_8 + 1) (fun x9 => fX6_findBest_47 x4 x7 k47_8 n47_8 v4_47_8 v5_47_8 x9 w47_8))
        refine z_iload (pc := 47) F dX6_findBest_47 rfl ?_
        refine z_sipush (pc := 49) F (v := 1023) dX6_findBest_49 (by decide) ?_
        refine z_icmp_gt (pc := 52) F 138 dX6_findBest_52 (by decide) (fun h36 => ?_) (fun h36 => ?_)
        · refine z_wk [false, true, false, false, true, false, false, true, true] (lv' := [none, none, none, none, some (.int v4_47_8), none, none, none, none]) rfl ?_
          exact hk47_8 v4_47_8 w47_8
        · refine z_iload (pc := 55) F dX6_findBest_55 rfl ?_
          refine z_iload_n (pc := 57) F dX6_findBest_57 rfl ?_
          refine z_iconst (pc := 58) F (v := -1) dX6_findBest_58 (by decide) ?_
          refine z_ixor (pc := 59) F dX6_findBest_59 ?_
          refine z_iand (pc := 60) F dX6_findBest_60 ?_
          refine z_iload_n (pc := 61) F dX6_findBest_61 rfl ?_
          refine z_icmp_ne (pc := 62) F 132 dX6_findBest_62 (by decide) (fun h35 => ?_) (fun h35 => ?_)
          · refine z_iincB (pc := 132) F (lv' := fun x9 => [some (.ref (zad K 1 0)), none, some (.int x4), some (.int x7), some (.int v4_47_8), some (.int v5_47_8), some (.int x9), none, none]) dX6_findBest_132 rfl rfl (fun _ => rfl) (fun x9 => ?_)
            refine z_goto (pc := 135) F 47 dX6_findBest_135 (by decide) ?_
            exact ih47_8 v4_47_8 v5_47_8 x9 w47_8
          · refine z_iload (pc := 65) F dX6_findBest_65 rfl ?_
            refine z_callSi (pc := 67) (st := []) F [.int v6_47_8] cl_RX6_60 (tJ6_bitCount_0f7a4 (zln K) w47_8 v6_47_8) rfl (by rw [hR]; exact ⟨rfl, rfl, Nat.le_of_ble_eq_true rfl, Nat.le_of_ble_eq_true rfl⟩) rfl rfl (Nat.le_of_ble_eq_true rfl) dX6_findBest_67 (fun x11 s10 => ?_)
            refine z_aload_n (pc := 70) F dX6_findBest_70 rfl ?_
            refine z_get (pc := 71) F 1 0 5 (v := .int (s10 1 0 5)) (by decide) (fun _ => rfl) rfl (by decide) inlX6 lk_RX6_29 rfl dX6_findBest_71 ?_
            refine z_icmp_gt (pc := 74) F 132 dX6_findBest_74 (by decide) (fun h34 => ?_) (fun h34 => ?_)
            · refine z_iincB (pc := 132) F (lv' := fun x12 => [some (.ref (zad K 1 0)), none, some (.int x4), some (.int x7), some (.int v4_47_8), some (.int v5_47_8), some (.int x12), none, none]) dX6_findBest_132 rfl rfl (fun _ => rfl) (fun x12 => ?_)
              refine z_goto (pc := 135) F 47 dX6_findBest_135 (by decide) ?_
              exact ih47_8 v4_47_8 v5_47_8 x12 s10
            · refine z_aload_n (pc := 77) F dX6_findBest_77 rfl ?_
              refine z_iload (pc := 78) F dX6_findBest_78 rfl ?_
              refine z_callVi (pc := 80) (st := []) F 1 0 [.int v6_47_8] cl_RX6_82 (tX6_countServed (zln K) s10 v6_47_8) rfl (by decide) (fun _ => ⟨_, rfl⟩) rfl (by rw [hR]; exact ⟨rfl, rfl, Nat.le_of_ble_eq_true rfl, Nat.le_of_ble_eq_true rfl⟩) rfl rfl (Nat.le_of_ble_eq_true rfl) dX6_findBest_80 (fun x14 s13 => ?_)
              refine z_istore (pc := 83) F (lv' := [some (.ref (zad K 1 0)), none, some (.int x4), some (.int x7), some (.int v4_47_8), some (.int v5_47_8), some (.int v6_47_8), some (.int x14), none]) dX6_findBest_83 (zlt rfl) rfl ?_
              refine z_iload (pc := 85) F dX6_findBest_85 rfl ?_
              refine z_callSi (pc := 87) (st := []) F [.int v6_47_8] cl_RX6_60 (tJ6_bitCount_0f7a4 (zln K) s13 v6_47_8) rfl (by rw [hR]; exact ⟨rfl, rfl, Nat.le_of_ble_eq_true rfl, Nat.le_of_ble_eq_true rfl⟩) rfl rfl (Nat.le_of_ble_eq_true rfl) dX6_findBest_87 (fun x16 s15 => ?_)
              refine z_iload (pc := 90) F dX6_findBest_90 rfl ?_
              refine z_callSi (pc := 92) (st := [.int x16]) F [.int v4_47_8] cl_RX6_60 (tJ6_bitCount_0f7a4 (zln K) s15 v4_47_8) rfl (by rw [hR]; exact ⟨rfl, rfl, Nat.le_of_ble_eq_true rfl, Nat.le_of_ble_eq_true rfl⟩) rfl rfl (Nat.le_of_ble_eq_true rfl) dX6_findBest_92 (fun x18 s17 => ?_)
              refine z_icmp_ge (pc := 95) F 102 dX6_findBest_95 (by decide) (fun h33 => ?_) (fun h33 => ?_)
              · refine z_iconst (pc := 102) F (v := 0) dX6_findBest_102 (by decide) ?_
                refine z_istore (pc := 103) F (lv' := [some (.ref (zad K 1 0)), none, some (.int x4), some (.int x7), some (.int v4_47_8), some (.int v5_47_8), some (.int v6_47_8), some (.int x14), some (.int (0 : Int32))]) dX6_findBest_103 (zlt rfl) rfl ?_
                refine z_iload (pc := 105) F dX6_findBest_105 rfl ?_
                refine z_iload (pc := 107) F dX6_findBest_107 rfl ?_
                refine z_icmp_gt (pc := 109) F 124 dX6_findBest_109 (by decide) (fun h25 => ?_) (fun h25 => ?_)
                · refine z_iload (pc := 124) F dX6_findBest_124 rfl ?_
                  refine z_istore (pc := 126) F (lv' := [some (.ref (zad K 1 0)), none, some (.int x4), some (.int x7), some (.int v6_47_8), some (.int v5_47_8), some (.int v6_47_8), some (.int x14), some (.int (0 : Int32))]) dX6_findBest_126 (zlt rfl) rfl ?_
                  refine z_iload (pc := 128) F dX6_findBest_128 rfl ?_
                  refine z_istore (pc := 130) F (lv' := [some (.ref (zad K 1 0)), none, some (.int x4), some (.int x7), some (.int v6_47_8), some (.int x14), some (.int v6_47_8), some (.int x14), some (.int (0 : Int32))]) dX6_findBest_130 (zlt rfl) rfl ?_
                  refine z_iincB (pc := 132) F (lv' := fun x19 => [some (.ref (zad K 1 0)), none, some (.int x4), some (.int x7), some (.int v6_47_8), some (.int x14), some (.int x19), some (.int x14), some (.int (0 : Int32))]) dX6_findBest_132 rfl rfl (fun _ => rfl) (fun x19 => ?_)
                  refine z_goto (pc := 135) F 47 dX6_findBest_135 (by decide) ?_
                  refine z_wk [true, true, true, true, true, true, true, false, false] (lv' := [some (.ref (zad K 1 0)), none, some (.int x4), some (.int x7), some (.int v6_47_8), some (.int x14), some (.int x19), none, none]) rfl ?_
                  exact ih47_8 v6_47_8 x14 x19 s17
                · refine z_iload (pc := 112) F dX6_findBest_112 rfl ?_
                  refine z_iload (pc := 114) F dX6_findBest_114 rfl ?_
                  refine z_icmp_ne (pc := 116) F 132 dX6_findBest_116 (by decide) (fun h24 => ?_) (fun h24 => ?_)
                  · refine z_iincB (pc := 132) F (lv' := fun x20 => [some (.ref (zad K 1 0)), none, some (.int x4), some (.int x7), some (.int v4_47_8), some (.int v5_47_8), some (.int x20), some (.int x14), some (.int (0 : Int32))]) dX6_findBest_132 rfl rfl (fun _ => rfl) (fun x20 => ?_)
                    refine z_goto (pc := 135) F 47 dX6_findBest_135 (by decide) ?_
                    refine z_wk [true, true, true, true, true, true, true, false, false] (lv' := [some (.ref (zad K 1 0)), none, some (.int x4), some (.int x7), some (.int v4_47_8), some (.int v5_47_8), some (.int x20), none, none]) rfl ?_
                    exact ih47_8 v4_47_8 v5_47_8 x20 s17
                  · refine z_iload (pc := 119) F dX6_findBest_119 rfl ?_
                    refine z_if_eq (pc := 121) F 132 dX6_findBest_121 (by decide) (fun h23 => ?_) (fun h23 => ?_)
                    · refine z_iincB (pc := 132) F (lv' := fun x21 => [some (.ref (zad K 1 0)), none, some (.int x4), some (.int x7), some (.int v4_47_8), some (.int v5_47_8), some (.int x21), some (.int x14), some (.int (0 : Int32))]) dX6_findBest_132 rfl rfl (fun _ => rfl) (fun x21 => ?_)
                      refine z_goto (pc := 135) F 47 dX6_findBest_135 (by decide) ?_
                      refine z_wk [true, true, true, true, true, true, true, false, false] (lv' := [some (.ref (zad K 1 0)), none, some (.int x4), some (.int x7), some (.int v4_47_8), some (.int v5_47_8), some (.int x21), none, none]) rfl ?_
                      exact ih47_8 v4_47_8 v5_47_8 x21 s17
                    · refine z_iload (pc := 124) F dX6_findBest_124 rfl ?_
                      refine z_istore (pc := 126) F (lv' := [some (.ref (zad K 1 0)), none, some (.int x4), some (.int x7), some (.int v6_47_8), some (.int v5_47_8), some (.int v6_47_8), some (.int x14), some (.int (0 : Int32))]) dX6_findBest_126 (zlt rfl) rfl ?_
                      refine z_iload (pc := 128) F dX6_findBest_128 rfl ?_
                      refine z_istore (pc := 130) F (lv' := [some (.ref (zad K 1 0)), none, some (.int x4), some (.int x7), some (.int v6_47_8), some (.int x14), some (.int v6_47_8), some (.int x14), some (.int (0 : Int32))]) dX6_findBest_130 (zlt rfl) rfl ?_
                      refine z_iincB (pc := 132) F (lv' := fun x22 => [some (.ref (zad K 1 0)), none, some (.int x4), some (.int x7), some (.int v6_47_8), some (.int x14), some (.int x22), some (.int x14), some (.int (0 : Int32))]) dX6_findBest_132 rfl rfl (fun _ => rfl) (fun x22 => ?_)
                      refine z_goto (pc := 135) F 47 dX6_findBest_135 (by decide) ?_
                      refine z_wk [true, true, true, true, true, true, true, false, false] (lv' := [some (.ref (zad K 1 0)), none, some (.int x4), some (.int x7), some (.int v6_47_8), some (.int x14), some (.int x22), none, none]) rfl ?_
                      exact ih47_8 v6_47_8 x14 x22 s17
              · refine z_iconst (pc := 98) F (v := 1) dX6_findBest_98 (by decide) ?_
                refine z_goto (pc := 99) F 103 dX6_findBest_99 (by decide) ?_
                refine z_istore (pc := 103) F (lv' := [some (.ref (zad K 1 0)), none, some (.int x4), some (.int x7), some (.int v4_47_8), some (.int v5_47_8), some (.int v6_47_8), some (.int x14), some (.int (1 : Int32))]) dX6_findBest_103 (zlt rfl) rfl ?_
                refine z_iload (pc := 105) F dX6_findBest_105 rfl ?_
                refine z_iload (pc := 107) F dX6_findBest_107 rfl ?_
                refine z_icmp_gt (pc := 109) F 124 dX6_findBest_109 (by decide) (fun h32 => ?_) (fun h32 => ?_)
                · refine z_iload (pc := 124) F dX6_findBest_124 rfl ?_
                  refine z_istore (pc := 126) F (lv' := [some (.ref (zad K 1 0)), none, some (.int x4), some (.int x7), some (.int v6_47_8), some (.int v5_47_8), some (.int v6_47_8), some (.int x14), some (.int (1 : Int32))]) dX6_findBest_126 (zlt rfl) rfl ?_
                  refine z_iload (pc := 128) F dX6_findBest_128 rfl ?_
                  refine z_istore (pc := 130) F (lv' := [some (.ref (zad K 1 0)), none, some (.int x4), some (.int x7), some (.int v6_47_8), some (.int x14), some (.int v6_47_8), some (.int x14), some (.int (1 : Int32))]) dX6_findBest_130 (zlt rfl) rfl ?_
                  refine z_iincB (pc := 132) F (lv' := fun x26 => [some (.ref (zad K 1 0)), none, some (.int x4), some (.int x7), some (.int v6_47_8), some (.int x14), some (.int x26), some (.int x14), some (.int (1 : Int32))]) dX6_findBest_132 rfl rfl (fun _ => rfl) (fun x26 => ?_)
                  refine z_goto (pc := 135) F 47 dX6_findBest_135 (by decide) ?_
                  refine z_wk [true, true, true, true, true, true, true, false, false] (lv' := [some (.ref (zad K 1 0)), none, some (.int x4), some (.int x7), some (.int v6_47_8), some (.int x14), some (.int x26), none, none]) rfl ?_
                  exact ih47_8 v6_47_8 x14 x26 s17
                · refine z_iload (pc := 112) F dX6_findBest_112 rfl ?_
                  refine z_iload (pc := 114) F dX6_findBest_114 rfl ?_
                  refine z_icmp_ne (pc := 116) F 132 dX6_findBest_116 (by decide) (fun h31 => ?_) (fun h31 => ?_)
                  · refine z_iincB (pc := 132) F (lv' := fun x27 => [some (.ref (zad K 1 0)), none, some (.int x4), some (.int x7), some (.int v4_47_8), some (.int v5_47_8), some (.int x27), some (.int x14), some (.int (1 : Int32))]) dX6_findBest_132 rfl rfl (fun _ => rfl) (fun x27 => ?_)
                    refine z_goto (pc := 135) F 47 dX6_findBest_135 (by decide) ?_
                    refine z_wk [true, true, true, true, true, true, true, false, false] (lv' := [some (.ref (zad K 1 0)), none, some (.int x4), some (.int x7), some (.int v4_47_8), some (.int v5_47_8), some (.int x27), none, none]) rfl ?_
                    exact ih47_8 v4_47_8 v5_47_8 x27 s17
                  · refine z_iload (pc := 119) F dX6_findBest_119 rfl ?_
                    refine z_if_eq (pc := 121) F 132 dX6_findBest_121 (by decide) (fun h30 => ?_) (fun h30 => ?_)
                    · refine z_iincB (pc := 132) F (lv' := fun x28 => [some (.ref (zad K 1 0)), none, some (.int x4), some (.int x7), some (.int v4_47_8), some (.int v5_47_8), some (.int x28), some (.int x14), some (.int (1 : Int32))]) dX6_findBest_132 rfl rfl (fun _ => rfl) (fun x28 => ?_)
                      refine z_goto (pc := 135) F 47 dX6_findBest_135 (by decide) ?_
                      refine z_wk [true, true, true, true, true, true, true, false, false] (lv' := [some (.ref (zad K 1 0)), none, some (.int x4), some (.int x7), some (.int v4_47_8), some (.int v5_47_8), some (.int x28), none, none]) rfl ?_
                      exact ih47_8 v4_47_8 v5_47_8 x28 s17
                    · refine z_iload (pc := 124) F dX6_findBest_124 rfl ?_
                      refine z_istore (pc := 126) F (lv' := [some (.ref (zad K 1 0)), none, some (.int x4), some (.int x7), some (.int v6_47_8), some (.int v5_47_8), some (.int v6_47_8), some (.int x14), some (.int (1 : Int32))]) dX6_findBest_126 (zlt rfl) rfl ?_
                      refine z_iload (pc := 128) F dX6_findBest_128 rfl ?_
                      refine z_istore (pc := 130) F (lv' := [some (.ref (zad K 1 0)), none, some (.int x4), some (.int x7), some (.int v6_47_8), some (.int x14), some (.int v6_47_8), some (.int x14), some (.int (1 : Int32))]) dX6_findBest_130 (zlt rfl) rfl ?_
                      refine z_iincB (pc := 132) F (lv' := fun x29 => [some (.ref (zad K 1 0)), none, some (.int x4), some (.int x7), some (.int v6_47_8), some (.int x14), some (.int x29), some (.int x14), some (.int (1 : Int32))]) dX6_findBest_132 rfl rfl (fun _ => rfl) (fun x29 => ?_)
                      refine z_goto (pc := 135) F 47 dX6_findBest_135 (by decide) ?_
                      refine z_wk [true, true, true, true, true, true, true, false, false] (lv' := [some (.ref (zad K 1 0)), none, some (.int x4), some (.int x7), some (.int v6_47_8), some (.int x14), some (.int x29), none, none]) rfl ?_
                      exact ih47_8 v6_47_8 x14 x29 s17
    exact L47_8 zN (0 : Int32) (0 : Int32) (1 : Int32) s1
  · refine z_iconst (pc := 9) F (v := 0) dX6_findBest_9 (by decide) ?_
    exact z_iret (pc := 10) F E dX6_findBest_10
def fX6_holds (a1 : Int32) (a2 : Int32) (σ : zS) : Option (Int32 × zS) := zIx a1 8 (if (((σ 3 0 a1.toNatClampNeg) >>> (a2 &&& 31)) &&& (1 : Int32)) = (1 : Int32) then some ((1 : Int32), σ) else some ((0 : Int32), σ))
abbrev rmX6_holds : Room := { frames := 0, cells := 0, slots := 0, locals := 0 }
set_option maxRecDepth 100000 in
set_option maxHeartbeats 4000000 in
theorem tX6_holds (l : Launch) (σ : zS) (a1 : Int32) (a2 : Int32) : zMi l yX6_holds cX6_holds 3 (some .boolean) rmX6_holds (fun ad => [.ref (ad 1 0), .int a1, .int a2]) σ (fX6_holds a1 a2 σ) := by
  refine zMi.of RX6 (by decide +kernel) rfl (fun _ => Nat.le_of_ble_eq_true rfl) (fun _ => zcat rfl) (fun K t F hR hL E => ?_)
  show ZO K t 0 [some (.ref (zad K 1 0)), some (.int a1), some (.int a2)] [] σ (zIx a1 8 (if (((σ 3 0 a1.toNatClampNeg) >>> (a2 &&& 31)) &&& (1 : Int32)) = (1 : Int32) then some ((1 : Int32), σ) else some ((0 : Int32), σ)))
  refine z_aload_n (pc := 0) F dX6_holds_0 rfl ?_
  refine z_get (pc := 1) F 1 0 1 (v := .ref (zad K 3 0)) (by decide) (fun _ => rfl) rfl (by decide) inlX6 lk_RX6_15 rfl dX6_holds_1 ?_
  refine z_iload_n (pc := 4) F dX6_holds_4 rfl ?_
  refine z_ix (fun h1 => ?_)
  refine z_iald (pc := 5) F 3 0 (by decide) (fun _ => rfl) h1 dX6_holds_5 ?_
  refine z_iload_n (pc := 6) F dX6_holds_6 rfl ?_
  refine z_ishr (pc := 7) F dX6_holds_7 ?_
  refine z_iconst (pc := 8) F (v := 1) dX6_holds_8 (by decide) ?_
  refine z_iand (pc := 9) F dX6_holds_9 ?_
  refine z_iconst (pc := 10) F (v := 1) dX6_holds_10 (by decide) ?_
  refine z_icmp_ne (pc := 11) F 18 dX6_holds_11 (by decide) (fun h2 => ?_) (fun h2 => ?_)
  · refine z_iconst (pc := 18) F (v := 0) dX6_holds_18 (by decide) ?_
    exact z_zret (pc := 19) F E (by decide) dX6_holds_19
  · refine z_iconst (pc := 14) F (v := 1) dX6_holds_14 (by decide) ?_
    refine z_goto (pc := 15) F 19 dX6_holds_15 (by decide) ?_
    exact z_zret (pc := 19) F E (by decide) dX6_holds_19
def fX6_isSum (a1 : Int32) (σ : zS) : Option (Int32 × zS) := if a1 ≤ 0 then some ((0 : Int32), σ) else if (a1 &&& ((σ 1 0 3) ^^^ (-1 : Int32))) = 0 then some ((1 : Int32), σ) else some ((0 : Int32), σ)
abbrev rmX6_isSum : Room := { frames := 0, cells := 0, slots := 0, locals := 0 }
set_option maxRecDepth 100000 in
set_option maxHeartbeats 4000000 in
theorem tX6_isSum (l : Launch) (σ : zS) (a1 : Int32) : zMi l yX6_isSum cX6_isSum 2 (some .boolean) rmX6_isSum (fun ad => [.ref (ad 1 0), .int a1]) σ (fX6_isSum a1 σ) := by
  refine zMi.of RX6 (by decide +kernel) rfl (fun _ => Nat.le_of_ble_eq_true rfl) (fun _ => zcat rfl) (fun K t F hR hL E => ?_)
  show ZO K t 0 [some (.ref (zad K 1 0)), some (.int a1)] [] σ (if a1 ≤ 0 then some ((0 : Int32), σ) else if (a1 &&& ((σ 1 0 3) ^^^ (-1 : Int32))) = 0 then some ((1 : Int32), σ) else some ((0 : Int32), σ))
  refine z_iload_n (pc := 0) F dX6_isSum_0 rfl ?_
  refine z_if_le (pc := 1) F 19 dX6_isSum_1 (by decide) (fun h2 => ?_) (fun h2 => ?_)
  · refine z_iconst (pc := 19) F (v := 0) dX6_isSum_19 (by decide) ?_
    exact z_zret (pc := 20) F E (by decide) dX6_isSum_20
  · refine z_iload_n (pc := 4) F dX6_isSum_4 rfl ?_
    refine z_aload_n (pc := 5) F dX6_isSum_5 rfl ?_
    refine z_get (pc := 6) F 1 0 3 (v := .int (σ 1 0 3)) (by decide) (fun _ => rfl) rfl (by decide) inlX6 lk_RX6_32 rfl dX6_isSum_6 ?_
    refine z_iconst (pc := 9) F (v := -1) dX6_isSum_9 (by decide) ?_
    refine z_ixor (pc := 10) F dX6_isSum_10 ?_
    refine z_iand (pc := 11) F dX6_isSum_11 ?_
    refine z_if_ne (pc := 12) F 19 dX6_isSum_12 (by decide) (fun h1 => ?_) (fun h1 => ?_)
    · refine z_iconst (pc := 19) F (v := 0) dX6_isSum_19 (by decide) ?_
      exact z_zret (pc := 20) F E (by decide) dX6_isSum_20
    · refine z_iconst (pc := 15) F (v := 1) dX6_isSum_15 (by decide) ?_
      refine z_goto (pc := 16) F 20 dX6_isSum_16 (by decide) ?_
      exact z_zret (pc := 20) F E (by decide) dX6_isSum_20
def fX6_isThere (a1 : Int32) (σ : zS) : Option (Int32 × zS) := if a1 < 0 then some ((0 : Int32), σ) else if (10 : Int32) ≤ a1 then some ((0 : Int32), σ) else if (((σ 1 0 3) >>> (a1 &&& 31)) &&& (1 : Int32)) = (1 : Int32) then some ((1 : Int32), σ) else some ((0 : Int32), σ)
abbrev rmX6_isThere : Room := { frames := 0, cells := 0, slots := 0, locals := 0 }
set_option maxRecDepth 100000 in
set_option maxHeartbeats 4000000 in
theorem tX6_isThere (l : Launch) (σ : zS) (a1 : Int32) : zMi l yX6_isThere cX6_isThere 2 (some .boolean) rmX6_isThere (fun ad => [.ref (ad 1 0), .int a1]) σ (fX6_isThere a1 σ) := by
  refine zMi.of RX6 (by decide +kernel) rfl (fun _ => Nat.le_of_ble_eq_true rfl) (fun _ => zcat rfl) (fun K t F hR hL E => ?_)
  show ZO K t 0 [some (.ref (zad K 1 0)), some (.int a1)] [] σ (if a1 < 0 then some ((0 : Int32), σ) else if (10 : Int32) ≤ a1 then some ((0 : Int32), σ) else if (((σ 1 0 3) >>> (a1 &&& 31)) &&& (1 : Int32)) = (1 : Int32) then some ((1 : Int32), σ) else some ((0 : Int32), σ))
  refine z_iload_n (pc := 0) F dX6_isThere_0 rfl ?_
  refine z_if_lt (pc := 1) F 26 dX6_isThere_1 (by decide) (fun h3 => ?_) (fun h3 => ?_)
  · refine z_iconst (pc := 26) F (v := 0) dX6_isThere_26 (by decide) ?_
    exact z_zret (pc := 27) F E (by decide) dX6_isThere_27
  · refine z_iload_n (pc := 4) F dX6_isThere_4 rfl ?_
    refine z_bipush (pc := 5) F (v := 10) dX6_isThere_5 (by decide) ?_
    refine z_icmp_ge (pc := 7) F 26 dX6_isThere_7 (by decide) (fun h2 => ?_) (fun h2 => ?_)
    · refine z_iconst (pc := 26) F (v := 0) dX6_isThere_26 (by decide) ?_
      exact z_zret (pc := 27) F E (by decide) dX6_isThere_27
    · refine z_aload_n (pc := 10) F dX6_isThere_10 rfl ?_
      refine z_get (pc := 11) F 1 0 3 (v := .int (σ 1 0 3)) (by decide) (fun _ => rfl) rfl (by decide) inlX6 lk_RX6_32 rfl dX6_isThere_11 ?_
      refine z_iload_n (pc := 14) F dX6_isThere_14 rfl ?_
      refine z_ishr (pc := 15) F dX6_isThere_15 ?_
      refine z_iconst (pc := 16) F (v := 1) dX6_isThere_16 (by decide) ?_
      refine z_iand (pc := 17) F dX6_isThere_17 ?_
      refine z_iconst (pc := 18) F (v := 1) dX6_isThere_18 (by decide) ?_
      refine z_icmp_ne (pc := 19) F 26 dX6_isThere_19 (by decide) (fun h1 => ?_) (fun h1 => ?_)
      · refine z_iconst (pc := 26) F (v := 0) dX6_isThere_26 (by decide) ?_
        exact z_zret (pc := 27) F E (by decide) dX6_isThere_27
      · refine z_iconst (pc := 22) F (v := 1) dX6_isThere_22 (by decide) ?_
        refine z_goto (pc := 23) F 27 dX6_isThere_23 (by decide) ?_
        exact z_zret (pc := 27) F E (by decide) dX6_isThere_27
def fX6_openers_4 (a1 : Int32) (k4_1 : Int32 → zS → Option (Int32 × zS)) : Nat → Int32 → Int32 → zS → Option (Int32 × zS)
  | 0, _, _, _ => none
  | (n4_1 + 1), v2_4_1, v3_4_1, w4_1 => if (8 : Int32) ≤ v3_4_1 then k4_1 v2_4_1 w4_1 else zCi (fX6_isOnAir v3_4_1 w4_1) (fun x3 s2 => if x3 = 0 then zB (v3_4_1 + 1) (fun x4 => fX6_openers_4 a1 k4_1 n4_1 v2_4_1 x4 s2) else zCi (fX6_readBy v3_4_1 a1 s2) (fun x6 s5 => if x6 = (-9 : Int32) then zB (v3_4_1 + 1) (fun x7 => fX6_openers_4 a1 k4_1 n4_1 v2_4_1 x7 s5) else zB (v2_4_1 ||| ((1 : Int32) <<< (v3_4_1 &&& 31))) (fun x8 => zB (v3_4_1 + 1) (fun x9 => fX6_openers_4 a1 k4_1 n4_1 x8 x9 s5))))
def fX6_openers (a1 : Int32) (σ : zS) : Option (Int32 × zS) := fX6_openers_4 a1 (fun (u2_4_1 : Int32) (y4_1 : zS) => (some (u2_4_1, y4_1) : Option (Int32 × zS))) zN (0 : Int32) (0 : Int32) σ
abbrev rmX6_openers : Room := { frames := 2, cells := 0, slots := 0, locals := 43 }
set_option maxRecDepth 100000 in
set_option maxHeartbeats 4000000 in
theorem tX6_openers (l : Launch) (σ : zS) (a1 : Int32) : zMi l yX6_openers cX6_openers 4 (some .int) rmX6_openers (fun ad => [.ref (ad 1 0), .int a1]) σ (fX6_openers a1 σ) := by
  refine zMi.of RX6 (by decide +kernel) rfl (fun _ => Nat.le_of_ble_eq_true rfl) (fun _ => zcat rfl) (fun K t F hR hL E => ?_)
  show ZO K t 0 [some (.ref (zad K 1 0)), some (.int a1), none, none] [] σ (fX6_openers_4 a1 (fun (u2_4_1 : Int32) (y4_1 : zS) => (some (u2_4_1, y4_1) : Option (Int32 × zS))) zN (0 : Int32) (0 : Int32) σ)
  refine z_iconst (pc := 0) F (v := 0) dX6_openers_0 (by decide) ?_
  refine z_istore_n (pc := 1) F (lv' := [some (.ref (zad K 1 0)), some (.int a1), some (.int (0 : Int32)), none]) dX6_openers_1 (zlt rfl) rfl ?_
  refine z_iconst (pc := 2) F (v := 0) dX6_openers_2 (by decide) ?_
  refine z_istore_n (pc := 3) F (lv' := [some (.ref (zad K 1 0)), some (.int a1), some (.int (0 : Int32)), some (.int (0 : Int32))]) dX6_openers_3 (zlt rfl) rfl ?_
  have hk4_1 : ∀ (u2_4_1 : Int32) (y4_1 : zS), ZO K t 41 [none, none, some (.int u2_4_1), none] [] y4_1 ((fun (u2_4_1 : Int32) (y4_1 : zS) => (some (u2_4_1, y4_1) : Option (Int32 × zS))) u2_4_1 y4_1) := by
    intro u2_4_1 y4_1
    show ZO K t 41 [none, none, some (.int u2_4_1), none] [] y4_1 (some (u2_4_1, y4_1))
    refine z_iload_n (pc := 41) F dX6_openers_41 rfl ?_
    exact z_iret (pc := 42) F E dX6_openers_42
  have L4_1 : ∀ (n4_1 : Nat) (v2_4_1 : Int32) (v3_4_1 : Int32) (w4_1 : zS), ZO K t 4 [some (.ref (zad K 1 0)), some (.int a1), some (.int v2_4_1), some (.int v3_4_1)] [] w4_1 (fX6_openers_4 a1 (fun (u2_4_1 : Int32) (y4_1 : zS) => (some (u2_4_1, y4_1) : Option (Int32 × zS))) n4_1 v2_4_1 v3_4_1 w4_1) := by
    revert hk4_1; generalize (fun (u2_4_1 : Int32) (y4_1 : zS) => (some (u2_4_1, y4_1) : Option (Int32 × zS))) = k4_1; intro hk4_1
    intro n4_1
    induction n4_1 with
    | zero => intro v2_4_1 v3_4_1 w4_1; exact z_none
    | succ n4_1 ih4_1 =>
      intro v2_4_1 v3_4_1 w4_1
      show ZO K t 4 [some (.ref (zad K 1 0)), some (.int a1), some (.int v2_4_1), some (.int v3_4_1)] [] w4_1 (if (8 : Int32) ≤ v3_4_1 then k4_1 v2_4_1 w4_1 else zCi (fX6_isOnAir v3_4_1 w4_1) (fun x3 s2 => if x3 = 0 then zB (v3_4_1 + 1) (fun x4 => fX6_openers_4 a1 k4_1 n4_1 v2_4_1 x4 s2) else zCi (fX6_readBy v3_4_1 a1 s2) (fun x6 s5 => if x6 = (-9 : Int32) then zB (v3_4_1 + 1) (fun x7 => fX6_openers_4 a1 k4_1 n4_1 v2_4_1 x7 s5) else zB (v2_4_1 ||| ((1 : Int32) <<< (v3_4_1 &&& 31))) (fun x8 => zB (v3_4_1 + 1) (fun x9 => fX6_openers_4 a1 k4_1 n4_1 x8 x9 s5)))))
      refine z_iload_n (pc := 4) F dX6_openers_4 rfl ?_
      refine z_bipush (pc := 5) F (v := 8) dX6_openers_5 (by decide) ?_
      refine z_icmp_ge (pc := 7) F 41 dX6_openers_7 (by decide) (fun h12 => ?_) (fun h12 => ?_)
      · refine z_wk [false, false, true, false] (lv' := [none, none, some (.int v2_4_1), none]) rfl ?_
        exact hk4_1 v2_4_1 w4_1
      · refine z_aload_n (pc := 10) F dX6_openers_10 rfl ?_
        refine z_iload_n (pc := 11) F dX6_openers_11 rfl ?_
        refine z_callVi (pc := 12) (st := []) F 1 0 [.int v3_4_1] cl_RX6_65 (tX6_isOnAir (zln K) w4_1 v3_4_1) rfl (by decide) (fun _ => ⟨_, rfl⟩) rfl (by rw [hR]; exact ⟨rfl, rfl, Nat.le_of_ble_eq_true rfl, Nat.le_of_ble_eq_true rfl⟩) rfl rfl (Nat.le_of_ble_eq_true rfl) dX6_openers_12 (fun x3 s2 => ?_)
        refine z_if_eq (pc := 15) F 35 dX6_openers_15 (by decide) (fun h11 => ?_) (fun h11 => ?_)
        · refine z_iincB (pc := 35) F (lv' := fun x4 => [some (.ref (zad K 1 0)), some (.int a1), some (.int v2_4_1), some (.int x4)]) dX6_openers_35 rfl rfl (fun _ => rfl) (fun x4 => ?_)
          refine z_goto (pc := 38) F 4 dX6_openers_38 (by decide) ?_
          exact ih4_1 v2_4_1 x4 s2
        · refine z_aload_n (pc := 18) F dX6_openers_18 rfl ?_
          refine z_iload_n (pc := 19) F dX6_openers_19 rfl ?_
          refine z_iload_n (pc := 20) F dX6_openers_20 rfl ?_
          refine z_callVi (pc := 21) (st := []) F 1 0 [.int v3_4_1, .int a1] cl_RX6_68 (tX6_readBy (zln K) s2 v3_4_1 a1) rfl (by decide) (fun _ => ⟨_, rfl⟩) rfl (by rw [hR]; exact ⟨rfl, rfl, Nat.le_of_ble_eq_true rfl, Nat.le_of_ble_eq_true rfl⟩) rfl rfl (Nat.le_of_ble_eq_true rfl) dX6_openers_21 (fun x6 s5 => ?_)
          refine z_bipush (pc := 24) F (v := -9) dX6_openers_24 (by decide) ?_
          refine z_icmp_eq (pc := 26) F 35 dX6_openers_26 (by decide) (fun h10 => ?_) (fun h10 => ?_)
          · refine z_iincB (pc := 35) F (lv' := fun x7 => [some (.ref (zad K 1 0)), some (.int a1), some (.int v2_4_1), some (.int x7)]) dX6_openers_35 rfl rfl (fun _ => rfl) (fun x7 => ?_)
            refine z_goto (pc := 38) F 4 dX6_openers_38 (by decide) ?_
            exact ih4_1 v2_4_1 x7 s5
          · refine z_iload_n (pc := 29) F dX6_openers_29 rfl ?_
            refine z_iconst (pc := 30) F (v := 1) dX6_openers_30 (by decide) ?_
            refine z_iload_n (pc := 31) F dX6_openers_31 rfl ?_
            refine z_ishl (pc := 32) F dX6_openers_32 ?_
            refine z_ior (pc := 33) F dX6_openers_33 ?_
            refine z_Bi (fun x8 => ?_)
            refine z_istore_n (pc := 34) F (lv' := [some (.ref (zad K 1 0)), some (.int a1), some (.int x8), some (.int v3_4_1)]) dX6_openers_34 (zlt rfl) rfl ?_
            refine z_iincB (pc := 35) F (lv' := fun x9 => [some (.ref (zad K 1 0)), some (.int a1), some (.int x8), some (.int x9)]) dX6_openers_35 rfl rfl (fun _ => rfl) (fun x9 => ?_)
            refine z_goto (pc := 38) F 4 dX6_openers_38 (by decide) ?_
            exact ih4_1 x8 x9 s5
  exact L4_1 zN (0 : Int32) (0 : Int32) σ
def fX6_putLetter (a1 : Int32) (a2 : Int32) (σ : zS) : Option (Int32 × zS) := zCi (fX6_isThere a1 σ) (fun x2 s1 => zB (zU s1 1 0 3 ((s1 1 0 3) ||| ((1 : Int32) <<< (a1 &&& 31)))) (fun s3 => zIx a1 10 (zB (zU s3 2 0 a1.toNatClampNeg a2) (fun s5 => zGd (x2 = 0 ∨ x2 = 1) (some (x2, s5))))))
abbrev rmX6_putLetter : Room := { frames := 1, cells := 0, slots := 0, locals := 21 }
set_option maxRecDepth 100000 in
set_option maxHeartbeats 4000000 in
theorem tX6_putLetter (l : Launch) (σ : zS) (a1 : Int32) (a2 : Int32) : zMi l yX6_putLetter cX6_putLetter 4 (some .boolean) rmX6_putLetter (fun ad => [.ref (ad 1 0), .int a1, .int a2]) σ (fX6_putLetter a1 a2 σ) := by
  refine zMi.of RX6 (by decide +kernel) rfl (fun _ => Nat.le_of_ble_eq_true rfl) (fun _ => zcat rfl) (fun K t F hR hL E => ?_)
  show ZO K t 0 [some (.ref (zad K 1 0)), some (.int a1), some (.int a2), none] [] σ (zCi (fX6_isThere a1 σ) (fun x2 s1 => zB (zU s1 1 0 3 ((s1 1 0 3) ||| ((1 : Int32) <<< (a1 &&& 31)))) (fun s3 => zIx a1 10 (zB (zU s3 2 0 a1.toNatClampNeg a2) (fun s5 => zGd (x2 = 0 ∨ x2 = 1) (some (x2, s5)))))))
  refine z_aload_n (pc := 0) F dX6_putLetter_0 rfl ?_
  refine z_iload_n (pc := 1) F dX6_putLetter_1 rfl ?_
  refine z_callVi (pc := 2) (st := []) F 1 0 [.int a1] cl_RX6_35 (tX6_isThere (zln K) σ a1) rfl (by decide) (fun _ => ⟨_, rfl⟩) rfl (by rw [hR]; exact ⟨rfl, rfl, Nat.le_of_ble_eq_true rfl, Nat.le_of_ble_eq_true rfl⟩) rfl rfl (Nat.le_of_ble_eq_true rfl) dX6_putLetter_2 (fun x2 s1 => ?_)
  refine z_istore_n (pc := 5) F (lv' := [some (.ref (zad K 1 0)), some (.int a1), some (.int a2), some (.int x2)]) dX6_putLetter_5 (zlt rfl) rfl ?_
  refine z_aload_n (pc := 6) F dX6_putLetter_6 rfl ?_
  refine z_dup (pc := 7) F dX6_putLetter_7 rfl ?_
  refine z_get (pc := 8) F 1 0 3 (v := .int (s1 1 0 3)) (by decide) (fun _ => rfl) rfl (by decide) inlX6 lk_RX6_32 rfl dX6_putLetter_8 ?_
  refine z_iconst (pc := 11) F (v := 1) dX6_putLetter_11 (by decide) ?_
  refine z_iload_n (pc := 12) F dX6_putLetter_12 rfl ?_
  refine z_ishl (pc := 13) F dX6_putLetter_13 ?_
  refine z_ior (pc := 14) F dX6_putLetter_14 ?_
  refine z_put (pc := 15) F 1 0 3 tyX6 tyX6_ok nmX6 (by decide) (fun _ => rfl) rfl (by decide) inlX6 lk_RX6_32 rfl (by decide +kernel) (fun _ => Nat.le_of_ble_eq_true rfl) (fun _ => rfl) dX6_putLetter_15 (fun s3 => ?_)
  refine z_aload_n (pc := 18) F dX6_putLetter_18 rfl ?_
  refine z_get (pc := 19) F 1 0 0 (v := .ref (zad K 2 0)) (by decide) (fun _ => rfl) rfl (by decide) inlX6 lk_RX6_9 rfl dX6_putLetter_19 ?_
  refine z_iload_n (pc := 22) F dX6_putLetter_22 rfl ?_
  refine z_iload_n (pc := 23) F dX6_putLetter_23 rfl ?_
  refine z_ix (fun h4 => ?_)
  refine z_iast (pc := 24) F 2 0 (by decide) (fun _ _ => rfl) h4 dX6_putLetter_24 (fun s5 => ?_)
  refine z_iload_n (pc := 25) F dX6_putLetter_25 rfl ?_
  refine z_gd (fun h6 => ?_)
  exact z_zret (pc := 26) F E (zNarB h6) dX6_putLetter_26
def fX6_takeFrom (a1 : Int32) (a2 : Int32) (σ : zS) : Option (Int32 × zS) := zIx a1 8 (zIx a1 8 (zB (zU σ 3 0 a1.toNatClampNeg ((σ 3 0 a1.toNatClampNeg) &&& (((1 : Int32) <<< (a2 &&& 31)) ^^^ (-1 : Int32)))) (fun s3 => some ((0 : Int32), s3))))
abbrev rmX6_takeFrom : Room := { frames := 0, cells := 0, slots := 0, locals := 0 }
set_option maxRecDepth 100000 in
set_option maxHeartbeats 4000000 in
theorem tX6_takeFrom (l : Launch) (σ : zS) (a1 : Int32) (a2 : Int32) : zMv l yX6_takeFrom cX6_takeFrom 3 none rmX6_takeFrom (fun ad => [.ref (ad 1 0), .int a1, .int a2]) σ (fX6_takeFrom a1 a2 σ) := by
  refine zMv.of RX6 (by decide +kernel) rfl (fun _ => Nat.le_of_ble_eq_true rfl) (fun _ => zcat rfl) (fun K t F hR hL E => ?_)
  show ZO K t 0 [some (.ref (zad K 1 0)), some (.int a1), some (.int a2)] [] σ (zIx a1 8 (zIx a1 8 (zB (zU σ 3 0 a1.toNatClampNeg ((σ 3 0 a1.toNatClampNeg) &&& (((1 : Int32) <<< (a2 &&& 31)) ^^^ (-1 : Int32)))) (fun s3 => some ((0 : Int32), s3)))))
  refine z_aload_n (pc := 0) F dX6_takeFrom_0 rfl ?_
  refine z_get (pc := 1) F 1 0 1 (v := .ref (zad K 3 0)) (by decide) (fun _ => rfl) rfl (by decide) inlX6 lk_RX6_15 rfl dX6_takeFrom_1 ?_
  refine z_iload_n (pc := 4) F dX6_takeFrom_4 rfl ?_
  refine z_dup2 (pc := 5) F dX6_takeFrom_5 rfl rfl ?_
  refine z_ix (fun h1 => ?_)
  refine z_iald (pc := 6) F 3 0 (by decide) (fun _ => rfl) h1 dX6_takeFrom_6 ?_
  refine z_iconst (pc := 7) F (v := 1) dX6_takeFrom_7 (by decide) ?_
  refine z_iload_n (pc := 8) F dX6_takeFrom_8 rfl ?_
  refine z_ishl (pc := 9) F dX6_takeFrom_9 ?_
  refine z_iconst (pc := 10) F (v := -1) dX6_takeFrom_10 (by decide) ?_
  refine z_ixor (pc := 11) F dX6_takeFrom_11 ?_
  refine z_iand (pc := 12) F dX6_takeFrom_12 ?_
  refine z_ix (fun h2 => ?_)
  refine z_iast (pc := 13) F 3 0 (by decide) (fun _ _ => rfl) h2 dX6_takeFrom_13 (fun s3 => ?_)
  exact z_vret (pc := 14) (x := 0) F E dX6_takeFrom_14
def fX6_takeLetter_16 (a1 : Int32) (k16_2 : zS → Option (Int32 × zS)) : Nat → Int32 → zS → Option (Int32 × zS)
  | 0, _, _ => none
  | (n16_2 + 1), v2_16_2, w16_2 => if (8 : Int32) ≤ v2_16_2 then k16_2 w16_2 else zCv (fX6_takeFrom v2_16_2 a1 w16_2) (fun s5 => zB (v2_16_2 + 1) (fun x6 => fX6_takeLetter_16 a1 k16_2 n16_2 x6 s5))
def fX6_takeLetter (a1 : Int32) (σ : zS) : Option (Int32 × zS) := zB (zU σ 1 0 3 ((σ 1 0 3) &&& (((1 : Int32) <<< (a1 &&& 31)) ^^^ (-1 : Int32)))) (fun s1 => fX6_takeLetter_16 a1 (fun (y16_2 : zS) => (zCi (fX5_removeLetter a1 y16_2) (fun x4 s3 => some (x4, s3)) : Option (Int32 × zS))) zN (0 : Int32) s1)
abbrev rmX6_takeLetter : Room := { frames := 1, cells := 0, slots := 0, locals := 23 }
set_option maxRecDepth 100000 in
set_option maxHeartbeats 4000000 in
theorem tX6_takeLetter (l : Launch) (σ : zS) (a1 : Int32) : zMi l yX6_takeLetter cX6_takeLetter 3 (some .int) rmX6_takeLetter (fun ad => [.ref (ad 1 0), .int a1]) σ (fX6_takeLetter a1 σ) := by
  refine zMi.of RX6 (by decide +kernel) rfl (fun _ => Nat.le_of_ble_eq_true rfl) (fun _ => zcat rfl) (fun K t F hR hL E => ?_)
  show ZO K t 0 [some (.ref (zad K 1 0)), some (.int a1), none] [] σ (zB (zU σ 1 0 3 ((σ 1 0 3) &&& (((1 : Int32) <<< (a1 &&& 31)) ^^^ (-1 : Int32)))) (fun s1 => fX6_takeLetter_16 a1 (fun (y16_2 : zS) => (zCi (fX5_removeLetter a1 y16_2) (fun x4 s3 => some (x4, s3)) : Option (Int32 × zS))) zN (0 : Int32) s1))
  refine z_aload_n (pc := 0) F dX6_takeLetter_0 rfl ?_
  refine z_dup (pc := 1) F dX6_takeLetter_1 rfl ?_
  refine z_get (pc := 2) F 1 0 3 (v := .int (σ 1 0 3)) (by decide) (fun _ => rfl) rfl (by decide) inlX6 lk_RX6_32 rfl dX6_takeLetter_2 ?_
  refine z_iconst (pc := 5) F (v := 1) dX6_takeLetter_5 (by decide) ?_
  refine z_iload_n (pc := 6) F dX6_takeLetter_6 rfl ?_
  refine z_ishl (pc := 7) F dX6_takeLetter_7 ?_
  refine z_iconst (pc := 8) F (v := -1) dX6_takeLetter_8 (by decide) ?_
  refine z_ixor (pc := 9) F dX6_takeLetter_9 ?_
  refine z_iand (pc := 10) F dX6_takeLetter_10 ?_
  refine z_put (pc := 11) F 1 0 3 tyX6 tyX6_ok nmX6 (by decide) (fun _ => rfl) rfl (by decide) inlX6 lk_RX6_32 rfl (by decide +kernel) (fun _ => Nat.le_of_ble_eq_true rfl) (fun _ => rfl) dX6_takeLetter_11 (fun s1 => ?_)
  refine z_iconst (pc := 14) F (v := 0) dX6_takeLetter_14 (by decide) ?_
  refine z_istore_n (pc := 15) F (lv' := [some (.ref (zad K 1 0)), some (.int a1), some (.int (0 : Int32))]) dX6_takeLetter_15 (zlt rfl) rfl ?_
  have hk16_2 : ∀ (y16_2 : zS), ZO K t 34 [some (.ref (zad K 1 0)), some (.int a1), none] [] y16_2 ((fun (y16_2 : zS) => (zCi (fX5_removeLetter a1 y16_2) (fun x4 s3 => some (x4, s3)) : Option (Int32 × zS))) y16_2) := by
    intro y16_2
    show ZO K t 34 [some (.ref (zad K 1 0)), some (.int a1), none] [] y16_2 (zCi (fX5_removeLetter a1 y16_2) (fun x4 s3 => some (x4, s3)))
    refine z_aload_n (pc := 34) F dX6_takeLetter_34 rfl ?_
    refine z_get (pc := 35) F 1 0 2 (v := .ref (zad K 4 0)) (by decide) (fun _ => rfl) rfl (by decide) inlX6 lk_RX6_21 rfl dX6_takeLetter_35 ?_
    refine z_iload_n (pc := 38) F dX6_takeLetter_38 rfl ?_
    refine z_callNi (pc := 39) (st := []) F 4 0 [.int a1] cl_RX6_43 (tX5_removeLetter (zln K) y16_2 a1) rfl (by decide) (fun _ => ⟨_, rfl⟩) rfl (by rw [hR]; exact ⟨rfl, rfl, Nat.le_of_ble_eq_true rfl, Nat.le_of_ble_eq_true rfl⟩) rfl rfl (Nat.le_of_ble_eq_true rfl) dX6_takeLetter_39 (fun x4 s3 => ?_)
    exact z_iret (pc := 42) F E dX6_takeLetter_42
  have L16_2 : ∀ (n16_2 : Nat) (v2_16_2 : Int32) (w16_2 : zS), ZO K t 16 [some (.ref (zad K 1 0)), some (.int a1), some (.int v2_16_2)] [] w16_2 (fX6_takeLetter_16 a1 (fun (y16_2 : zS) => (zCi (fX5_removeLetter a1 y16_2) (fun x4 s3 => some (x4, s3)) : Option (Int32 × zS))) n16_2 v2_16_2 w16_2) := by
    revert hk16_2; generalize (fun (y16_2 : zS) => (zCi (fX5_removeLetter a1 y16_2) (fun x4 s3 => some (x4, s3)) : Option (Int32 × zS))) = k16_2; intro hk16_2
    intro n16_2
    induction n16_2 with
    | zero => intro v2_16_2 w16_2; exact z_none
    | succ n16_2 ih16_2 =>
      intro v2_16_2 w16_2
      show ZO K t 16 [some (.ref (zad K 1 0)), some (.int a1), some (.int v2_16_2)] [] w16_2 (if (8 : Int32) ≤ v2_16_2 then k16_2 w16_2 else zCv (fX6_takeFrom v2_16_2 a1 w16_2) (fun s5 => zB (v2_16_2 + 1) (fun x6 => fX6_takeLetter_16 a1 k16_2 n16_2 x6 s5)))
      refine z_iload_n (pc := 16) F dX6_takeLetter_16 rfl ?_
      refine z_bipush (pc := 17) F (v := 8) dX6_takeLetter_17 (by decide) ?_
      refine z_icmp_ge (pc := 19) F 34 dX6_takeLetter_19 (by decide) (fun h7 => ?_) (fun h7 => ?_)
      · refine z_wk [true, true, false] (lv' := [some (.ref (zad K 1 0)), some (.int a1), none]) rfl ?_
        exact hk16_2  w16_2
      · refine z_aload_n (pc := 22) F dX6_takeLetter_22 rfl ?_
        refine z_iload_n (pc := 23) F dX6_takeLetter_23 rfl ?_
        refine z_iload_n (pc := 24) F dX6_takeLetter_24 rfl ?_
        refine z_callVv (pc := 25) (st := []) F 1 0 [.int v2_16_2, .int a1] cl_RX6_39 (tX6_takeFrom (zln K) w16_2 v2_16_2 a1) rfl (by decide) (fun _ => ⟨_, rfl⟩) rfl (by rw [hR]; exact ⟨rfl, rfl, Nat.le_of_ble_eq_true rfl, Nat.le_of_ble_eq_true rfl⟩) rfl rfl (Nat.le_of_ble_eq_true rfl) dX6_takeLetter_25 (fun s5 => ?_)
        refine z_iincB (pc := 28) F (lv' := fun x6 => [some (.ref (zad K 1 0)), some (.int a1), some (.int x6)]) dX6_takeLetter_28 rfl rfl (fun _ => rfl) (fun x6 => ?_)
        refine z_goto (pc := 31) F 16 dX6_takeLetter_31 (by decide) ?_
        exact ih16_2 x6 s5
  exact L16_2 zN (0 : Int32) s1
