def fX9_sends_7 (a1 : Int32) (k7_2 : zS → Option (Int32 × zS)) : Nat → Int32 → zS → Option (Int32 × zS)
  | 0, _, _ => none
  | (n7_2 + 1), v3_7_2, w7_2 => if (8 : Int32) ≤ v3_7_2 then k7_2 w7_2 else zCi (fX9_isIn (w7_2 21 0 6) v3_7_2 w7_2) (fun x6 s5 => if x6 = 0 then if (-9 : Int32) = (-9 : Int32) then zB (v3_7_2 + 1) (fun x7 => fX9_sends_7 a1 k7_2 n7_2 x7 s5) else zIx v3_7_2 8 (zIx v3_7_2 8 (zB (zU s5 23 0 v3_7_2.toNatClampNeg ((s5 23 0 v3_7_2.toNatClampNeg) ||| ((1 : Int32) <<< ((-9 : Int32) &&& 31)))) (fun s10 => zCi (fX9_goes (-9 : Int32) v3_7_2 s10) (fun x12 s11 => zB (v3_7_2 + 1) (fun x13 => fX9_sends_7 a1 k7_2 n7_2 x13 s11))))) else zCi (fX9_readBy v3_7_2 a1 s5) (fun x16 s15 => if x16 = (-9 : Int32) then zB (v3_7_2 + 1) (fun x17 => fX9_sends_7 a1 k7_2 n7_2 x17 s15) else zIx v3_7_2 8 (zIx v3_7_2 8 (zB (zU s15 23 0 v3_7_2.toNatClampNeg ((s15 23 0 v3_7_2.toNatClampNeg) ||| ((1 : Int32) <<< (x16 &&& 31)))) (fun s20 => zCi (fX9_goes x16 v3_7_2 s20) (fun x22 s21 => zB (v3_7_2 + 1) (fun x23 => fX9_sends_7 a1 k7_2 n7_2 x23 s21)))))))
def fX9_sends (a1 : Int32) (σ : zS) : Option (Int32 × zS) := zB (σ 21 0 3) (fun x1 => fX9_sends_7 a1 (fun (y7_2 : zS) => (zB (zU y7_2 21 0 8 ((y7_2 21 0 8) + (1 : Int32))) (fun s3 => zB (zU s3 21 0 9 ((s3 21 0 9) + (x1 - (s3 21 0 3)))) (fun s4 => some (x1 - (s4 21 0 3), s4))) : Option (Int32 × zS))) zN (0 : Int32) σ)
abbrev rmX9_sends : Room := { frames := 2, cells := 0, slots := 0, locals := 46 }
set_option maxRecDepth 100000 in
set_option maxHeartbeats 4000000 in
theorem tX9_sends (l : Launch) (σ : zS) (a1 : Int32) : zMi l yX9_sends cX9_sends 5 (some .int) rmX9_sends (fun ad => [.ref (ad 21 0), .int a1]) σ (fX9_sends a1 σ) := by
  refine zMi.of RX9 (by decide +kernel) rfl (fun _ => Nat.le_of_ble_eq_true rfl) (fun _ => zcat rfl) (fun K t F hR hL E => ?_)
  show ZO K t 0 [some (.ref (zad K 21 0)), some (.int a1), none, none, none] [] σ (zB (σ 21 0 3) (fun x1 => fX9_sends_7 a1 (fun (y7_2 : zS) => (zB (zU y7_2 21 0 8 ((y7_2 21 0 8) + (1 : Int32))) (fun s3 => zB (zU s3 21 0 9 ((s3 21 0 9) + (x1 - (s3 21 0 3)))) (fun s4 => some (x1 - (s4 21 0 3), s4))) : Option (Int32 × zS))) zN (0 : Int32) σ))
  refine z_aload_n (pc := 0) F dX9_sends_0 rfl ?_
  refine z_get (pc := 1) F 21 0 3 (v := .int (σ 21 0 3)) (by decide) (fun _ => rfl) rfl (by decide) inlX9 lk_RX9_79 rfl dX9_sends_1 ?_
  refine z_Bi (fun x1 => ?_)
  refine z_istore_n (pc := 4) F (lv' := [some (.ref (zad K 21 0)), some (.int a1), some (.int x1), none, none]) dX9_sends_4 (zlt rfl) rfl ?_
  refine z_iconst (pc := 5) F (v := 0) dX9_sends_5 (by decide) ?_
  refine z_istore_n (pc := 6) F (lv' := [some (.ref (zad K 21 0)), some (.int a1), some (.int x1), some (.int (0 : Int32)), none]) dX9_sends_6 (zlt rfl) rfl ?_
  have hk7_2 : ∀ (y7_2 : zS), ZO K t 71 [some (.ref (zad K 21 0)), none, some (.int x1), none, none] [] y7_2 ((fun (y7_2 : zS) => (zB (zU y7_2 21 0 8 ((y7_2 21 0 8) + (1 : Int32))) (fun s3 => zB (zU s3 21 0 9 ((s3 21 0 9) + (x1 - (s3 21 0 3)))) (fun s4 => some (x1 - (s4 21 0 3), s4))) : Option (Int32 × zS))) y7_2) := by
    intro y7_2
    show ZO K t 71 [some (.ref (zad K 21 0)), none, some (.int x1), none, none] [] y7_2 (zB (zU y7_2 21 0 8 ((y7_2 21 0 8) + (1 : Int32))) (fun s3 => zB (zU s3 21 0 9 ((s3 21 0 9) + (x1 - (s3 21 0 3)))) (fun s4 => some (x1 - (s4 21 0 3), s4))))
    refine z_aload_n (pc := 71) F dX9_sends_71 rfl ?_
    refine z_dup (pc := 72) F dX9_sends_72 rfl ?_
    refine z_get (pc := 73) F 21 0 8 (v := .int (y7_2 21 0 8)) (by decide) (fun _ => rfl) rfl (by decide) inlX9 lk_RX9_96 rfl dX9_sends_73 ?_
    refine z_iconst (pc := 76) F (v := 1) dX9_sends_76 (by decide) ?_
    refine z_iadd (pc := 77) F dX9_sends_77 ?_
    refine z_put (pc := 78) F 21 0 8 tyX9 tyX9_ok nmX9 (by decide) (fun _ => rfl) rfl (by decide) inlX9 lk_RX9_96 rfl (by decide +kernel) (fun _ => Nat.le_of_ble_eq_true rfl) (fun _ => rfl) dX9_sends_78 (fun s3 => ?_)
    refine z_aload_n (pc := 81) F dX9_sends_81 rfl ?_
    refine z_dup (pc := 82) F dX9_sends_82 rfl ?_
    refine z_get (pc := 83) F 21 0 9 (v := .int (s3 21 0 9)) (by decide) (fun _ => rfl) rfl (by decide) inlX9 lk_RX9_99 rfl dX9_sends_83 ?_
    refine z_iload_n (pc := 86) F dX9_sends_86 rfl ?_
    refine z_aload_n (pc := 87) F dX9_sends_87 rfl ?_
    refine z_get (pc := 88) F 21 0 3 (v := .int (s3 21 0 3)) (by decide) (fun _ => rfl) rfl (by decide) inlX9 lk_RX9_79 rfl dX9_sends_88 ?_
    refine z_isub (pc := 91) F dX9_sends_91 ?_
    refine z_iadd (pc := 92) F dX9_sends_92 ?_
    refine z_put (pc := 93) F 21 0 9 tyX9 tyX9_ok nmX9 (by decide) (fun _ => rfl) rfl (by decide) inlX9 lk_RX9_99 rfl (by decide +kernel) (fun _ => Nat.le_of_ble_eq_true rfl) (fun _ => rfl) dX9_sends_93 (fun s4 => ?_)
    refine z_iload_n (pc := 96) F dX9_sends_96 rfl ?_
    refine z_aload_n (pc := 97) F dX9_sends_97 rfl ?_
    refine z_get (pc := 98) F 21 0 3 (v := .int (s4 21 0 3)) (by decide) (fun _ => rfl) rfl (by decide) inlX9 lk_RX9_79 rfl dX9_sends_98 ?_
    refine z_isub (pc := 101) F dX9_sends_101 ?_
    exact z_iret (pc := 102) F E dX9_sends_102
  have L7_2 : ∀ (n7_2 : Nat) (v3_7_2 : Int32) (w7_2 : zS), ZO K t 7 [some (.ref (zad K 21 0)), some (.int a1), some (.int x1), some (.int v3_7_2), none] [] w7_2 (fX9_sends_7 a1 (fun (y7_2 : zS) => (zB (zU y7_2 21 0 8 ((y7_2 21 0 8) + (1 : Int32))) (fun s3 => zB (zU s3 21 0 9 ((s3 21 0 9) + (x1 - (s3 21 0 3)))) (fun s4 => some (x1 - (s4 21 0 3), s4))) : Option (Int32 × zS))) n7_2 v3_7_2 w7_2) := by
    revert hk7_2; generalize (fun (y7_2 : zS) => (zB (zU y7_2 21 0 8 ((y7_2 21 0 8) + (1 : Int32))) (fun s3 => zB (zU s3 21 0 9 ((s3 21 0 9) + (x1 - (s3 21 0 3)))) (fun s4 => some (x1 - (s4 21 0 3), s4))) : Option (Int32 × zS))) = k7_2; intro hk7_2
    intro n7_2
    induction n7_2 with
    | zero => intro v3_7_2 w7_2; exact z_none
    | succ n7_2 ih7_2 =>
      intro v3_7_2 w7_2
      show ZO K t 7 [some (.ref (zad K 21 0)), some (.int a1), some (.int x1), some (.int v3_7_2), none] [] w7_2 (if (8 : Int32) ≤ v3_7_2 then k7_2 w7_2 else zCi (fX9_isIn (w7_2 21 0 6) v3_7_2 w7_2) (fun x6 s5 => if x6 = 0 then if (-9 : Int32) = (-9 : Int32) then zB (v3_7_2 + 1) (fun x7 => fX9_sends_7 a1 k7_2 n7_2 x7 s5) else zIx v3_7_2 8 (zIx v3_7_2 8 (zB (zU s5 23 0 v3_7_2.toNatClampNeg ((s5 23 0 v3_7_2.toNatClampNeg) ||| ((1 : Int32) <<< ((-9 : Int32) &&& 31)))) (fun s10 => zCi (fX9_goes (-9 : Int32) v3_7_2 s10) (fun x12 s11 => zB (v3_7_2 + 1) (fun x13 => fX9_sends_7 a1 k7_2 n7_2 x13 s11))))) else zCi (fX9_readBy v3_7_2 a1 s5) (fun x16 s15 => if x16 = (-9 : Int32) then zB (v3_7_2 + 1) (fun x17 => fX9_sends_7 a1 k7_2 n7_2 x17 s15) else zIx v3_7_2 8 (zIx v3_7_2 8 (zB (zU s15 23 0 v3_7_2.toNatClampNeg ((s15 23 0 v3_7_2.toNatClampNeg) ||| ((1 : Int32) <<< (x16 &&& 31)))) (fun s20 => zCi (fX9_goes x16 v3_7_2 s20) (fun x22 s21 => zB (v3_7_2 + 1) (fun x23 => fX9_sends_7 a1 k7_2 n7_2 x23 s21))))))))
      refine z_iload_n (pc := 7) F dX9_sends_7 rfl ?_
      refine z_bipush (pc := 8) F (v := 8) dX9_sends_8 (by decide) ?_
      refine z_icmp_ge (pc := 10) F 71 dX9_sends_10 (by decide) (fun h26 => ?_) (fun h26 => ?_)
      · refine z_wk [true, false, true, false, true] (lv' := [some (.ref (zad K 21 0)), none, some (.int x1), none, none]) rfl ?_
        exact hk7_2  w7_2
      · refine z_aload_n (pc := 13) F dX9_sends_13 rfl ?_
        refine z_get (pc := 14) F 21 0 6 (v := .int (w7_2 21 0 6)) (by decide) (fun _ => rfl) rfl (by decide) inlX9 lk_RX9_22 rfl dX9_sends_14 ?_
        refine z_iload_n (pc := 17) F dX9_sends_17 rfl ?_
        refine z_callSi (pc := 18) (st := []) F [.int (w7_2 21 0 6), .int v3_7_2] cl_RX9_75 (tX9_isIn (zln K) w7_2 (w7_2 21 0 6) v3_7_2) rfl (by rw [hR]; exact ⟨rfl, rfl, Nat.le_of_ble_eq_true rfl, Nat.le_of_ble_eq_true rfl⟩) rfl rfl (Nat.le_of_ble_eq_true rfl) dX9_sends_18 (fun x6 s5 => ?_)
        refine z_if_eq (pc := 21) F 33 dX9_sends_21 (by decide) (fun h25 => ?_) (fun h25 => ?_)
        · refine z_bipush (pc := 33) F (v := -9) dX9_sends_33 (by decide) ?_
          refine z_istore (pc := 35) F (lv' := [some (.ref (zad K 21 0)), some (.int a1), some (.int x1), some (.int v3_7_2), some (.int (-9 : Int32))]) dX9_sends_35 (zlt rfl) rfl ?_
          refine z_iload (pc := 37) F dX9_sends_37 rfl ?_
          refine z_bipush (pc := 39) F (v := -9) dX9_sends_39 (by decide) ?_
          refine z_icmp_eq (pc := 41) F 65 dX9_sends_41 (by decide) (fun h14 => ?_) (fun h14 => ?_)
          · refine z_iincB (pc := 65) F (lv' := fun x7 => [some (.ref (zad K 21 0)), some (.int a1), some (.int x1), some (.int x7), some (.int (-9 : Int32))]) dX9_sends_65 rfl rfl (fun _ => rfl) (fun x7 => ?_)
            refine z_goto (pc := 68) F 7 dX9_sends_68 (by decide) ?_
            refine z_wk [true, true, true, true, false] (lv' := [some (.ref (zad K 21 0)), some (.int a1), some (.int x1), some (.int x7), none]) rfl ?_
            exact ih7_2 x7 s5
          · refine z_aload_n (pc := 44) F dX9_sends_44 rfl ?_
            refine z_get (pc := 45) F 21 0 2 (v := .ref (zad K 23 0)) (by decide) (fun _ => rfl) rfl (by decide) inlX9 lk_RX9_13 rfl dX9_sends_45 ?_
            refine z_iload_n (pc := 48) F dX9_sends_48 rfl ?_
            refine z_dup2 (pc := 49) F dX9_sends_49 rfl rfl ?_
            refine z_ix (fun h8 => ?_)
            refine z_iald (pc := 50) F 23 0 (by decide) (fun _ => rfl) h8 dX9_sends_50 ?_
            refine z_iconst (pc := 51) F (v := 1) dX9_sends_51 (by decide) ?_
            refine z_iload (pc := 52) F dX9_sends_52 rfl ?_
            refine z_ishl (pc := 54) F dX9_sends_54 ?_
            refine z_ior (pc := 55) F dX9_sends_55 ?_
            refine z_ix (fun h9 => ?_)
            refine z_iast (pc := 56) F 23 0 (by decide) (fun _ _ => rfl) h9 dX9_sends_56 (fun s10 => ?_)
            refine z_aload_n (pc := 57) F dX9_sends_57 rfl ?_
            refine z_iload (pc := 58) F dX9_sends_58 rfl ?_
            refine z_iload_n (pc := 60) F dX9_sends_60 rfl ?_
            refine z_callVi (pc := 61) (st := []) F 21 0 [.int (-9 : Int32), .int v3_7_2] cl_RX9_86 (tX9_goes (zln K) s10 (-9 : Int32) v3_7_2) rfl (by decide) (fun _ => ⟨_, rfl⟩) rfl (by rw [hR]; exact ⟨rfl, rfl, Nat.le_of_ble_eq_true rfl, Nat.le_of_ble_eq_true rfl⟩) rfl rfl (Nat.le_of_ble_eq_true rfl) dX9_sends_61 (fun x12 s11 => ?_)
            refine z_pop (pc := 64) F dX9_sends_64 rfl ?_
            refine z_iincB (pc := 65) F (lv' := fun x13 => [some (.ref (zad K 21 0)), some (.int a1), some (.int x1), some (.int x13), some (.int (-9 : Int32))]) dX9_sends_65 rfl rfl (fun _ => rfl) (fun x13 => ?_)
            refine z_goto (pc := 68) F 7 dX9_sends_68 (by decide) ?_
            refine z_wk [true, true, true, true, false] (lv' := [some (.ref (zad K 21 0)), some (.int a1), some (.int x1), some (.int x13), none]) rfl ?_
            exact ih7_2 x13 s11
        · refine z_aload_n (pc := 24) F dX9_sends_24 rfl ?_
          refine z_iload_n (pc := 25) F dX9_sends_25 rfl ?_
          refine z_iload_n (pc := 26) F dX9_sends_26 rfl ?_
          refine z_callVi (pc := 27) (st := []) F 21 0 [.int v3_7_2, .int a1] cl_RX9_109 (tX9_readBy (zln K) s5 v3_7_2 a1) rfl (by decide) (fun _ => ⟨_, rfl⟩) rfl (by rw [hR]; exact ⟨rfl, rfl, Nat.le_of_ble_eq_true rfl, Nat.le_of_ble_eq_true rfl⟩) rfl rfl (Nat.le_of_ble_eq_true rfl) dX9_sends_27 (fun x16 s15 => ?_)
          refine z_goto (pc := 30) F 35 dX9_sends_30 (by decide) ?_
          refine z_istore (pc := 35) F (lv' := [some (.ref (zad K 21 0)), some (.int a1), some (.int x1), some (.int v3_7_2), some (.int x16)]) dX9_sends_35 (zlt rfl) rfl ?_
          refine z_iload (pc := 37) F dX9_sends_37 rfl ?_
          refine z_bipush (pc := 39) F (v := -9) dX9_sends_39 (by decide) ?_
          refine z_icmp_eq (pc := 41) F 65 dX9_sends_41 (by decide) (fun h24 => ?_) (fun h24 => ?_)
          · refine z_iincB (pc := 65) F (lv' := fun x17 => [some (.ref (zad K 21 0)), some (.int a1), some (.int x1), some (.int x17), some (.int x16)]) dX9_sends_65 rfl rfl (fun _ => rfl) (fun x17 => ?_)
            refine z_goto (pc := 68) F 7 dX9_sends_68 (by decide) ?_
            refine z_wk [true, true, true, true, false] (lv' := [some (.ref (zad K 21 0)), some (.int a1), some (.int x1), some (.int x17), none]) rfl ?_
            exact ih7_2 x17 s15
          · refine z_aload_n (pc := 44) F dX9_sends_44 rfl ?_
            refine z_get (pc := 45) F 21 0 2 (v := .ref (zad K 23 0)) (by decide) (fun _ => rfl) rfl (by decide) inlX9 lk_RX9_13 rfl dX9_sends_45 ?_
            refine z_iload_n (pc := 48) F dX9_sends_48 rfl ?_
            refine z_dup2 (pc := 49) F dX9_sends_49 rfl rfl ?_
            refine z_ix (fun h18 => ?_)
            refine z_iald (pc := 50) F 23 0 (by decide) (fun _ => rfl) h18 dX9_sends_50 ?_
            refine z_iconst (pc := 51) F (v := 1) dX9_sends_51 (by decide) ?_
            refine z_iload (pc := 52) F dX9_sends_52 rfl ?_
            refine z_ishl (pc := 54) F dX9_sends_54 ?_
            refine z_ior (pc := 55) F dX9_sends_55 ?_
            refine z_ix (fun h19 => ?_)
            refine z_iast (pc := 56) F 23 0 (by decide) (fun _ _ => rfl) h19 dX9_sends_56 (fun s20 => ?_)
            refine z_aload_n (pc := 57) F dX9_sends_57 rfl ?_
            refine z_iload (pc := 58) F dX9_sends_58 rfl ?_
            refine z_iload_n (pc := 60) F dX9_sends_60 rfl ?_
            refine z_callVi (pc := 61) (st := []) F 21 0 [.int x16, .int v3_7_2] cl_RX9_86 (tX9_goes (zln K) s20 x16 v3_7_2) rfl (by decide) (fun _ => ⟨_, rfl⟩) rfl (by rw [hR]; exact ⟨rfl, rfl, Nat.le_of_ble_eq_true rfl, Nat.le_of_ble_eq_true rfl⟩) rfl rfl (Nat.le_of_ble_eq_true rfl) dX9_sends_61 (fun x22 s21 => ?_)
            refine z_pop (pc := 64) F dX9_sends_64 rfl ?_
            refine z_iincB (pc := 65) F (lv' := fun x23 => [some (.ref (zad K 21 0)), some (.int a1), some (.int x1), some (.int x23), some (.int x16)]) dX9_sends_65 rfl rfl (fun _ => rfl) (fun x23 => ?_)
            refine z_goto (pc := 68) F 7 dX9_sends_68 (by decide) ?_
            refine z_wk [true, true, true, true, false] (lv' := [some (.ref (zad K 21 0)), some (.int a1), some (.int x1), some (.int x23), none]) rfl ?_
            exact ih7_2 x23 s21
  exact L7_2 zN (0 : Int32) σ
def fX9_send (a1 : Int32) (σ : zS) : Option (Int32 × zS) := zCi (fX9_isSum a1 σ) (fun x2 s1 => if x2 = 0 then some ((-2 : Int32), s1) else zCi (fX9_sends a1 s1) (fun x4 s3 => some (x4, s3)))
abbrev rmX9_send : Room := { frames := 3, cells := 0, slots := 0, locals := 70 }
set_option maxRecDepth 100000 in
set_option maxHeartbeats 4000000 in
theorem tX9_send (l : Launch) (σ : zS) (a1 : Int32) : zMi l yX9_send cX9_send 2 (some .int) rmX9_send (fun ad => [.ref (ad 21 0), .int a1]) σ (fX9_send a1 σ) := by
  refine zMi.of RX9 (by decide +kernel) rfl (fun _ => Nat.le_of_ble_eq_true rfl) (fun _ => zcat rfl) (fun K t F hR hL E => ?_)
  show ZO K t 0 [some (.ref (zad K 21 0)), some (.int a1)] [] σ (zCi (fX9_isSum a1 σ) (fun x2 s1 => if x2 = 0 then some ((-2 : Int32), s1) else zCi (fX9_sends a1 s1) (fun x4 s3 => some (x4, s3))))
  refine z_aload_n (pc := 0) F dX9_send_0 rfl ?_
  refine z_iload_n (pc := 1) F dX9_send_1 rfl ?_
  refine z_callVi (pc := 2) (st := []) F 21 0 [.int a1] cl_RX9_106 (tX9_isSum (zln K) σ a1) rfl (by decide) (fun _ => ⟨_, rfl⟩) rfl (by rw [hR]; exact ⟨rfl, rfl, Nat.le_of_ble_eq_true rfl, Nat.le_of_ble_eq_true rfl⟩) rfl rfl (Nat.le_of_ble_eq_true rfl) dX9_send_2 (fun x2 s1 => ?_)
  refine z_if_eq (pc := 5) F 16 dX9_send_5 (by decide) (fun h5 => ?_) (fun h5 => ?_)
  · refine z_bipush (pc := 16) F (v := -2) dX9_send_16 (by decide) ?_
    exact z_iret (pc := 18) F E dX9_send_18
  · refine z_aload_n (pc := 8) F dX9_send_8 rfl ?_
    refine z_iload_n (pc := 9) F dX9_send_9 rfl ?_
    refine z_callVi (pc := 10) (st := []) F 21 0 [.int a1] cl_RX9_131 (tX9_sends (zln K) s1 a1) rfl (by decide) (fun _ => ⟨_, rfl⟩) rfl (by rw [hR]; exact ⟨rfl, rfl, Nat.le_of_ble_eq_true rfl, Nat.le_of_ble_eq_true rfl⟩) rfl rfl (Nat.le_of_ble_eq_true rfl) dX9_send_10 (fun x4 s3 => ?_)
    refine z_goto (pc := 13) F 18 dX9_send_13 (by decide) ?_
    exact z_iret (pc := 18) F E dX9_send_18
def fX9_serve_20 (a1 : Int32) (k20_5 : Int32 → zS → Option (Int32 × zS)) : Nat → Int32 → Int32 → zS → Option (Int32 × zS)
  | 0, _, _, _ => none
  | (n20_5 + 1), v2_20_5, v3_20_5, w20_5 => if a1 ≤ v2_20_5 then k20_5 v2_20_5 w20_5 else if v3_20_5 = 0 then k20_5 v2_20_5 w20_5 else zCi (fX9_sends v3_20_5 w20_5) (fun x7 s6 => zB (v2_20_5 + 1) (fun x8 => zCi (fX9_bestSum s6) (fun x10 s9 => fX9_serve_20 a1 k20_5 n20_5 x8 x10 s9)))
def fX9_serve (a1 : Int32) (σ : zS) : Option (Int32 × zS) := zCi (fX9_within a1 (0 : Int32) (16 : Int32) σ) (fun x2 s1 => if x2 = 0 then some ((-2 : Int32), s1) else zCi (fX9_bestSum s1) (fun x4 s3 => fX9_serve_20 a1 (fun (u2_20_5 : Int32) (y20_5 : zS) => (some (u2_20_5, y20_5) : Option (Int32 × zS))) zN (0 : Int32) x4 s3))
abbrev rmX9_serve : Room := { frames := 6, cells := 0, slots := 0, locals := 138 }
set_option maxRecDepth 100000 in
set_option maxHeartbeats 4000000 in
theorem tX9_serve (l : Launch) (σ : zS) (a1 : Int32) : zMi l yX9_serve cX9_serve 4 (some .int) rmX9_serve (fun ad => [.ref (ad 21 0), .int a1]) σ (fX9_serve a1 σ) := by
  refine zMi.of RX9 (by decide +kernel) rfl (fun _ => Nat.le_of_ble_eq_true rfl) (fun _ => zcat rfl) (fun K t F hR hL E => ?_)
  show ZO K t 0 [some (.ref (zad K 21 0)), some (.int a1), none, none] [] σ (zCi (fX9_within a1 (0 : Int32) (16 : Int32) σ) (fun x2 s1 => if x2 = 0 then some ((-2 : Int32), s1) else zCi (fX9_bestSum s1) (fun x4 s3 => fX9_serve_20 a1 (fun (u2_20_5 : Int32) (y20_5 : zS) => (some (u2_20_5, y20_5) : Option (Int32 × zS))) zN (0 : Int32) x4 s3)))
  refine z_iload_n (pc := 0) F dX9_serve_0 rfl ?_
  refine z_iconst (pc := 1) F (v := 0) dX9_serve_1 (by decide) ?_
  refine z_bipush (pc := 2) F (v := 16) dX9_serve_2 (by decide) ?_
  refine z_callSi (pc := 4) (st := []) F [.int a1, .int (0 : Int32), .int (16 : Int32)] cl_RX9_68 (tX9_within (zln K) σ a1 (0 : Int32) (16 : Int32)) rfl (by rw [hR]; exact ⟨rfl, rfl, Nat.le_of_ble_eq_true rfl, Nat.le_of_ble_eq_true rfl⟩) rfl rfl (Nat.le_of_ble_eq_true rfl) dX9_serve_4 (fun x2 s1 => ?_)
  refine z_if_ne (pc := 7) F 13 dX9_serve_7 (by decide) (fun h13 => ?_) (fun h13 => ?_)
  · refine z_iconst (pc := 13) F (v := 0) dX9_serve_13 (by decide) ?_
    refine z_istore_n (pc := 14) F (lv' := [some (.ref (zad K 21 0)), some (.int a1), some (.int (0 : Int32)), none]) dX9_serve_14 (zlt rfl) rfl ?_
    refine z_aload_n (pc := 15) F dX9_serve_15 rfl ?_
    refine z_callVi (pc := 16) (st := []) F 21 0 [] cl_RX9_127 (tX9_bestSum (zln K) s1 ) rfl (by decide) (fun _ => ⟨_, rfl⟩) rfl (by rw [hR]; exact ⟨rfl, rfl, Nat.le_of_ble_eq_true rfl, Nat.le_of_ble_eq_true rfl⟩) rfl rfl (Nat.le_of_ble_eq_true rfl) dX9_serve_16 (fun x4 s3 => ?_)
    refine z_istore_n (pc := 19) F (lv' := [some (.ref (zad K 21 0)), some (.int a1), some (.int (0 : Int32)), some (.int x4)]) dX9_serve_19 (zlt rfl) rfl ?_
    have hk20_5 : ∀ (u2_20_5 : Int32) (y20_5 : zS), ZO K t 46 [none, none, some (.int u2_20_5), none] [] y20_5 ((fun (u2_20_5 : Int32) (y20_5 : zS) => (some (u2_20_5, y20_5) : Option (Int32 × zS))) u2_20_5 y20_5) := by
      intro u2_20_5 y20_5
      show ZO K t 46 [none, none, some (.int u2_20_5), none] [] y20_5 (some (u2_20_5, y20_5))
      refine z_iload_n (pc := 46) F dX9_serve_46 rfl ?_
      exact z_iret (pc := 47) F E dX9_serve_47
    have L20_5 : ∀ (n20_5 : Nat) (v2_20_5 : Int32) (v3_20_5 : Int32) (w20_5 : zS), ZO K t 20 [some (.ref (zad K 21 0)), some (.int a1), some (.int v2_20_5), some (.int v3_20_5)] [] w20_5 (fX9_serve_20 a1 (fun (u2_20_5 : Int32) (y20_5 : zS) => (some (u2_20_5, y20_5) : Option (Int32 × zS))) n20_5 v2_20_5 v3_20_5 w20_5) := by
      revert hk20_5; generalize (fun (u2_20_5 : Int32) (y20_5 : zS) => (some (u2_20_5, y20_5) : Option (Int32 × zS))) = k20_5; intro hk20_5
      intro n20_5
      induction n20_5 with
      | zero => intro v2_20_5 v3_20_5 w20_5; exact z_none
      | succ n20_5 ih20_5 =>
        intro v2_20_5 v3_20_5 w20_5
        show ZO K t 20 [some (.ref (zad K 21 0)), some (.int a1), some (.int v2_20_5), some (.int v3_20_5)] [] w20_5 (if a1 ≤ v2_20_5 then k20_5 v2_20_5 w20_5 else if v3_20_5 = 0 then k20_5 v2_20_5 w20_5 else zCi (fX9_sends v3_20_5 w20_5) (fun x7 s6 => zB (v2_20_5 + 1) (fun x8 => zCi (fX9_bestSum s6) (fun x10 s9 => fX9_serve_20 a1 k20_5 n20_5 x8 x10 s9))))
        refine z_iload_n (pc := 20) F dX9_serve_20 rfl ?_
        refine z_iload_n (pc := 21) F dX9_serve_21 rfl ?_
        refine z_icmp_ge (pc := 22) F 46 dX9_serve_22 (by decide) (fun h12 => ?_) (fun h12 => ?_)
        · refine z_wk [false, false, true, false] (lv' := [none, none, some (.int v2_20_5), none]) rfl ?_
          exact hk20_5 v2_20_5 w20_5
        · refine z_iload_n (pc := 25) F dX9_serve_25 rfl ?_
          refine z_if_eq (pc := 26) F 46 dX9_serve_26 (by decide) (fun h11 => ?_) (fun h11 => ?_)
          · refine z_wk [false, false, true, false] (lv' := [none, none, some (.int v2_20_5), none]) rfl ?_
            exact hk20_5 v2_20_5 w20_5
          · refine z_aload_n (pc := 29) F dX9_serve_29 rfl ?_
            refine z_iload_n (pc := 30) F dX9_serve_30 rfl ?_
            refine z_callVi (pc := 31) (st := []) F 21 0 [.int v3_20_5] cl_RX9_131 (tX9_sends (zln K) w20_5 v3_20_5) rfl (by decide) (fun _ => ⟨_, rfl⟩) rfl (by rw [hR]; exact ⟨rfl, rfl, Nat.le_of_ble_eq_true rfl, Nat.le_of_ble_eq_true rfl⟩) rfl rfl (Nat.le_of_ble_eq_true rfl) dX9_serve_31 (fun x7 s6 => ?_)
            refine z_pop (pc := 34) F dX9_serve_34 rfl ?_
            refine z_iincB (pc := 35) F (lv' := fun x8 => [some (.ref (zad K 21 0)), some (.int a1), some (.int x8), some (.int v3_20_5)]) dX9_serve_35 rfl rfl (fun _ => rfl) (fun x8 => ?_)
            refine z_aload_n (pc := 38) F dX9_serve_38 rfl ?_
            refine z_callVi (pc := 39) (st := []) F 21 0 [] cl_RX9_127 (tX9_bestSum (zln K) s6 ) rfl (by decide) (fun _ => ⟨_, rfl⟩) rfl (by rw [hR]; exact ⟨rfl, rfl, Nat.le_of_ble_eq_true rfl, Nat.le_of_ble_eq_true rfl⟩) rfl rfl (Nat.le_of_ble_eq_true rfl) dX9_serve_39 (fun x10 s9 => ?_)
            refine z_istore_n (pc := 42) F (lv' := [some (.ref (zad K 21 0)), some (.int a1), some (.int x8), some (.int x10)]) dX9_serve_42 (zlt rfl) rfl ?_
            refine z_goto (pc := 43) F 20 dX9_serve_43 (by decide) ?_
            exact ih20_5 x8 x10 s9
    exact L20_5 zN (0 : Int32) x4 s3
  · refine z_bipush (pc := 10) F (v := -2) dX9_serve_10 (by decide) ?_
    exact z_iret (pc := 12) F E dX9_serve_12
def fX9_sum (a1 : Int32) (a2 : Int32) (σ : zS) : Option (Int32 × zS) := zCi (fX9_isSum a1 σ) (fun x2 s1 => if x2 = 0 then some ((-2 : Int32), s1) else if a2 = 0 then zCi (fX9_bodyBy a1 s1) (fun x10 s9 => some (x10, s9)) else if a2 = (1 : Int32) then zCi (fX9_manyServed a1 s1) (fun x7 s6 => some (x7, s6)) else if a2 = (2 : Int32) then zCi (fX9_openers a1 s1) (fun x4 s3 => some (x4, s3)) else some ((-2 : Int32), s1))
abbrev rmX9_sum : Room := { frames := 4, cells := 0, slots := 0, locals := 92 }
set_option maxRecDepth 100000 in
set_option maxHeartbeats 4000000 in
theorem tX9_sum (l : Launch) (σ : zS) (a1 : Int32) (a2 : Int32) : zMi l yX9_sum cX9_sum 3 (some .int) rmX9_sum (fun ad => [.ref (ad 21 0), .int a1, .int a2]) σ (fX9_sum a1 a2 σ) := by
  refine zMi.of RX9 (by decide +kernel) rfl (fun _ => Nat.le_of_ble_eq_true rfl) (fun _ => zcat rfl) (fun K t F hR hL E => ?_)
  show ZO K t 0 [some (.ref (zad K 21 0)), some (.int a1), some (.int a2)] [] σ (zCi (fX9_isSum a1 σ) (fun x2 s1 => if x2 = 0 then some ((-2 : Int32), s1) else if a2 = 0 then zCi (fX9_bodyBy a1 s1) (fun x10 s9 => some (x10, s9)) else if a2 = (1 : Int32) then zCi (fX9_manyServed a1 s1) (fun x7 s6 => some (x7, s6)) else if a2 = (2 : Int32) then zCi (fX9_openers a1 s1) (fun x4 s3 => some (x4, s3)) else some ((-2 : Int32), s1)))
  refine z_aload_n (pc := 0) F dX9_sum_0 rfl ?_
  refine z_iload_n (pc := 1) F dX9_sum_1 rfl ?_
  refine z_callVi (pc := 2) (st := []) F 21 0 [.int a1] cl_RX9_106 (tX9_isSum (zln K) σ a1) rfl (by decide) (fun _ => ⟨_, rfl⟩) rfl (by rw [hR]; exact ⟨rfl, rfl, Nat.le_of_ble_eq_true rfl, Nat.le_of_ble_eq_true rfl⟩) rfl rfl (Nat.le_of_ble_eq_true rfl) dX9_sum_2 (fun x2 s1 => ?_)
  refine z_if_ne (pc := 5) F 11 dX9_sum_5 (by decide) (fun h12 => ?_) (fun h12 => ?_)
  · refine z_iload_n (pc := 11) F dX9_sum_11 rfl ?_
    refine z_if_ne (pc := 12) F 23 dX9_sum_12 (by decide) (fun h11 => ?_) (fun h11 => ?_)
    · refine z_iload_n (pc := 23) F dX9_sum_23 rfl ?_
      refine z_iconst (pc := 24) F (v := 1) dX9_sum_24 (by decide) ?_
      refine z_icmp_ne (pc := 25) F 36 dX9_sum_25 (by decide) (fun h8 => ?_) (fun h8 => ?_)
      · refine z_iload_n (pc := 36) F dX9_sum_36 rfl ?_
        refine z_iconst (pc := 37) F (v := 2) dX9_sum_37 (by decide) ?_
        refine z_icmp_ne (pc := 38) F 49 dX9_sum_38 (by decide) (fun h5 => ?_) (fun h5 => ?_)
        · refine z_bipush (pc := 49) F (v := -2) dX9_sum_49 (by decide) ?_
          exact z_iret (pc := 51) F E dX9_sum_51
        · refine z_aload_n (pc := 41) F dX9_sum_41 rfl ?_
          refine z_iload_n (pc := 42) F dX9_sum_42 rfl ?_
          refine z_callVi (pc := 43) (st := []) F 21 0 [.int a1] cl_RX9_121 (tX9_openers (zln K) s1 a1) rfl (by decide) (fun _ => ⟨_, rfl⟩) rfl (by rw [hR]; exact ⟨rfl, rfl, Nat.le_of_ble_eq_true rfl, Nat.le_of_ble_eq_true rfl⟩) rfl rfl (Nat.le_of_ble_eq_true rfl) dX9_sum_43 (fun x4 s3 => ?_)
          refine z_goto (pc := 46) F 51 dX9_sum_46 (by decide) ?_
          exact z_iret (pc := 51) F E dX9_sum_51
      · refine z_aload_n (pc := 28) F dX9_sum_28 rfl ?_
        refine z_iload_n (pc := 29) F dX9_sum_29 rfl ?_
        refine z_callVi (pc := 30) (st := []) F 21 0 [.int a1] cl_RX9_118 (tX9_manyServed (zln K) s1 a1) rfl (by decide) (fun _ => ⟨_, rfl⟩) rfl (by rw [hR]; exact ⟨rfl, rfl, Nat.le_of_ble_eq_true rfl, Nat.le_of_ble_eq_true rfl⟩) rfl rfl (Nat.le_of_ble_eq_true rfl) dX9_sum_30 (fun x7 s6 => ?_)
        refine z_goto (pc := 33) F 51 dX9_sum_33 (by decide) ?_
        exact z_iret (pc := 51) F E dX9_sum_51
    · refine z_aload_n (pc := 15) F dX9_sum_15 rfl ?_
      refine z_iload_n (pc := 16) F dX9_sum_16 rfl ?_
      refine z_callVi (pc := 17) (st := []) F 21 0 [.int a1] cl_RX9_115 (tX9_bodyBy (zln K) s1 a1) rfl (by decide) (fun _ => ⟨_, rfl⟩) rfl (by rw [hR]; exact ⟨rfl, rfl, Nat.le_of_ble_eq_true rfl, Nat.le_of_ble_eq_true rfl⟩) rfl rfl (Nat.le_of_ble_eq_true rfl) dX9_sum_17 (fun x10 s9 => ?_)
      refine z_goto (pc := 20) F 51 dX9_sum_20 (by decide) ?_
      exact z_iret (pc := 51) F E dX9_sum_51
  · refine z_bipush (pc := 8) F (v := -2) dX9_sum_8 (by decide) ?_
    exact z_iret (pc := 10) F E dX9_sum_10
def fX9_sweep_4 (k4_1 : Int32 → zS → Option (Int32 × zS)) : Nat → Int32 → Int32 → zS → Option (Int32 × zS)
  | 0, _, _, _ => none
  | (n4_1 + 1), v1_4_1, v2_4_1, w4_1 => if (w4_1 21 0 14) ≤ v2_4_1 then k4_1 v1_4_1 w4_1 else zCi (fX9_isDone v2_4_1 w4_1) (fun x5 s4 => if x5 = 0 then zCv (fX9_moves v1_4_1 v2_4_1 s4) (fun s7 => zB (v1_4_1 + 1) (fun x8 => zB (v2_4_1 + 1) (fun x9 => fX9_sweep_4 k4_1 n4_1 x8 x9 s7))) else zB (v2_4_1 + 1) (fun x6 => fX9_sweep_4 k4_1 n4_1 v1_4_1 x6 s4))
def fX9_sweep (σ : zS) : Option (Int32 × zS) := fX9_sweep_4 (fun (u1_4_1 : Int32) (y4_1 : zS) => (zB ((y4_1 21 0 14) - u1_4_1) (fun x2 => zB (zU y4_1 21 0 14 u1_4_1) (fun s3 => some (x2, s3))) : Option (Int32 × zS))) zN (0 : Int32) (0 : Int32) σ
abbrev rmX9_sweep : Room := { frames := 2, cells := 0, slots := 0, locals := 45 }
set_option maxRecDepth 100000 in
set_option maxHeartbeats 4000000 in
theorem tX9_sweep (l : Launch) (σ : zS) : zMi l yX9_sweep cX9_sweep 3 (some .int) rmX9_sweep (fun ad => [.ref (ad 21 0)]) σ (fX9_sweep σ) := by
  refine zMi.of RX9 (by decide +kernel) rfl (fun _ => Nat.le_of_ble_eq_true rfl) (fun _ => zcat rfl) (fun K t F hR hL E => ?_)
  show ZO K t 0 [some (.ref (zad K 21 0)), none, none] [] σ (fX9_sweep_4 (fun (u1_4_1 : Int32) (y4_1 : zS) => (zB ((y4_1 21 0 14) - u1_4_1) (fun x2 => zB (zU y4_1 21 0 14 u1_4_1) (fun s3 => some (x2, s3))) : Option (Int32 × zS))) zN (0 : Int32) (0 : Int32) σ)
  refine z_iconst (pc := 0) F (v := 0) dX9_sweep_0 (by decide) ?_
  refine z_istore_n (pc := 1) F (lv' := [some (.ref (zad K 21 0)), some (.int (0 : Int32)), none]) dX9_sweep_1 (zlt rfl) rfl ?_
  refine z_iconst (pc := 2) F (v := 0) dX9_sweep_2 (by decide) ?_
  refine z_istore_n (pc := 3) F (lv' := [some (.ref (zad K 21 0)), some (.int (0 : Int32)), some (.int (0 : Int32))]) dX9_sweep_3 (zlt rfl) rfl ?_
  have hk4_1 : ∀ (u1_4_1 : Int32) (y4_1 : zS), ZO K t 35 [some (.ref (zad K 21 0)), some (.int u1_4_1), none] [] y4_1 ((fun (u1_4_1 : Int32) (y4_1 : zS) => (zB ((y4_1 21 0 14) - u1_4_1) (fun x2 => zB (zU y4_1 21 0 14 u1_4_1) (fun s3 => some (x2, s3))) : Option (Int32 × zS))) u1_4_1 y4_1) := by
    intro u1_4_1 y4_1
    show ZO K t 35 [some (.ref (zad K 21 0)), some (.int u1_4_1), none] [] y4_1 (zB ((y4_1 21 0 14) - u1_4_1) (fun x2 => zB (zU y4_1 21 0 14 u1_4_1) (fun s3 => some (x2, s3))))
    refine z_aload_n (pc := 35) F dX9_sweep_35 rfl ?_
    refine z_get (pc := 36) F 21 0 14 (v := .int (y4_1 21 0 14)) (by decide) (fun _ => rfl) rfl (by decide) inlX9 lk_RX9_140 rfl dX9_sweep_36 ?_
    refine z_iload_n (pc := 39) F dX9_sweep_39 rfl ?_
    refine z_isub (pc := 40) F dX9_sweep_40 ?_
    refine z_Bi (fun x2 => ?_)
    refine z_istore_n (pc := 41) F (lv' := [some (.ref (zad K 21 0)), some (.int u1_4_1), some (.int x2)]) dX9_sweep_41 (zlt rfl) rfl ?_
    refine z_aload_n (pc := 42) F dX9_sweep_42 rfl ?_
    refine z_iload_n (pc := 43) F dX9_sweep_43 rfl ?_
    refine z_put (pc := 44) F 21 0 14 tyX9 tyX9_ok nmX9 (by decide) (fun _ => rfl) rfl (by decide) inlX9 lk_RX9_140 rfl (by decide +kernel) (fun _ => Nat.le_of_ble_eq_true rfl) (fun _ => rfl) dX9_sweep_44 (fun s3 => ?_)
    refine z_iload_n (pc := 47) F dX9_sweep_47 rfl ?_
    exact z_iret (pc := 48) F E dX9_sweep_48
  have L4_1 : ∀ (n4_1 : Nat) (v1_4_1 : Int32) (v2_4_1 : Int32) (w4_1 : zS), ZO K t 4 [some (.ref (zad K 21 0)), some (.int v1_4_1), some (.int v2_4_1)] [] w4_1 (fX9_sweep_4 (fun (u1_4_1 : Int32) (y4_1 : zS) => (zB ((y4_1 21 0 14) - u1_4_1) (fun x2 => zB (zU y4_1 21 0 14 u1_4_1) (fun s3 => some (x2, s3))) : Option (Int32 × zS))) n4_1 v1_4_1 v2_4_1 w4_1) := by
    revert hk4_1; generalize (fun (u1_4_1 : Int32) (y4_1 : zS) => (zB ((y4_1 21 0 14) - u1_4_1) (fun x2 => zB (zU y4_1 21 0 14 u1_4_1) (fun s3 => some (x2, s3))) : Option (Int32 × zS))) = k4_1; intro hk4_1
    intro n4_1
    induction n4_1 with
    | zero => intro v1_4_1 v2_4_1 w4_1; exact z_none
    | succ n4_1 ih4_1 =>
      intro v1_4_1 v2_4_1 w4_1
      show ZO K t 4 [some (.ref (zad K 21 0)), some (.int v1_4_1), some (.int v2_4_1)] [] w4_1 (if (w4_1 21 0 14) ≤ v2_4_1 then k4_1 v1_4_1 w4_1 else zCi (fX9_isDone v2_4_1 w4_1) (fun x5 s4 => if x5 = 0 then zCv (fX9_moves v1_4_1 v2_4_1 s4) (fun s7 => zB (v1_4_1 + 1) (fun x8 => zB (v2_4_1 + 1) (fun x9 => fX9_sweep_4 k4_1 n4_1 x8 x9 s7))) else zB (v2_4_1 + 1) (fun x6 => fX9_sweep_4 k4_1 n4_1 v1_4_1 x6 s4)))
      refine z_iload_n (pc := 4) F dX9_sweep_4 rfl ?_
      refine z_aload_n (pc := 5) F dX9_sweep_5 rfl ?_
      refine z_get (pc := 6) F 21 0 14 (v := .int (w4_1 21 0 14)) (by decide) (fun _ => rfl) rfl (by decide) inlX9 lk_RX9_140 rfl dX9_sweep_6 ?_
      refine z_icmp_ge (pc := 9) F 35 dX9_sweep_9 (by decide) (fun h11 => ?_) (fun h11 => ?_)
      · refine z_wk [true, true, false] (lv' := [some (.ref (zad K 21 0)), some (.int v1_4_1), none]) rfl ?_
        exact hk4_1 v1_4_1 w4_1
      · refine z_aload_n (pc := 12) F dX9_sweep_12 rfl ?_
        refine z_iload_n (pc := 13) F dX9_sweep_13 rfl ?_
        refine z_callVi (pc := 14) (st := []) F 21 0 [.int v2_4_1] cl_RX9_192 (tX9_isDone (zln K) w4_1 v2_4_1) rfl (by decide) (fun _ => ⟨_, rfl⟩) rfl (by rw [hR]; exact ⟨rfl, rfl, Nat.le_of_ble_eq_true rfl, Nat.le_of_ble_eq_true rfl⟩) rfl rfl (Nat.le_of_ble_eq_true rfl) dX9_sweep_14 (fun x5 s4 => ?_)
        refine z_if_ne (pc := 17) F 29 dX9_sweep_17 (by decide) (fun h10 => ?_) (fun h10 => ?_)
        · refine z_iincB (pc := 29) F (lv' := fun x6 => [some (.ref (zad K 21 0)), some (.int v1_4_1), some (.int x6)]) dX9_sweep_29 rfl rfl (fun _ => rfl) (fun x6 => ?_)
          refine z_goto (pc := 32) F 4 dX9_sweep_32 (by decide) ?_
          exact ih4_1 v1_4_1 x6 s4
        · refine z_aload_n (pc := 20) F dX9_sweep_20 rfl ?_
          refine z_iload_n (pc := 21) F dX9_sweep_21 rfl ?_
          refine z_iload_n (pc := 22) F dX9_sweep_22 rfl ?_
          refine z_callVv (pc := 23) (st := []) F 21 0 [.int v1_4_1, .int v2_4_1] cl_RX9_195 (tX9_moves (zln K) s4 v1_4_1 v2_4_1) rfl (by decide) (fun _ => ⟨_, rfl⟩) rfl (by rw [hR]; exact ⟨rfl, rfl, Nat.le_of_ble_eq_true rfl, Nat.le_of_ble_eq_true rfl⟩) rfl rfl (Nat.le_of_ble_eq_true rfl) dX9_sweep_23 (fun s7 => ?_)
          refine z_iincB (pc := 26) F (lv' := fun x8 => [some (.ref (zad K 21 0)), some (.int x8), some (.int v2_4_1)]) dX9_sweep_26 rfl rfl (fun _ => rfl) (fun x8 => ?_)
          refine z_iincB (pc := 29) F (lv' := fun x9 => [some (.ref (zad K 21 0)), some (.int x8), some (.int x9)]) dX9_sweep_29 rfl rfl (fun _ => rfl) (fun x9 => ?_)
          refine z_goto (pc := 32) F 4 dX9_sweep_32 (by decide) ?_
          exact ih4_1 x8 x9 s7
  exact L4_1 zN (0 : Int32) (0 : Int32) σ
def fX9_writesNumber_24 (a1 : Int32) (k24_1 : zS → Option (Int32 × zS)) : Nat → Int32 → zS → Option (Int32 × zS)
  | 0, _, _ => none
  | (n24_1 + 1), v2_24_1, w24_1 => if v2_24_1 ≤ 0 then k24_1 w24_1 else zGd (¬ v2_24_1 = 0) (zGd (¬ (10 : Int32) = 0) (zCv (fX9_writes ((48 : Int32) + ((a1 / v2_24_1) - (a1 / v2_24_1) / (10 : Int32) * (10 : Int32))) w24_1) (fun s4 => zGd (¬ (10 : Int32) = 0) (zB (v2_24_1 / (10 : Int32)) (fun x6 => fX9_writesNumber_24 a1 k24_1 n24_1 x6 s4)))))
def fX9_writesNumber_24_8 (a1 : Int32) (k24_8 : zS → Option (Int32 × zS)) : Nat → Int32 → zS → Option (Int32 × zS)
  | 0, _, _ => none
  | (n24_8 + 1), v2_24_8, w24_8 => if v2_24_8 ≤ 0 then k24_8 w24_8 else zGd (¬ v2_24_8 = 0) (zGd (¬ (10 : Int32) = 0) (zCv (fX9_writes ((48 : Int32) + ((a1 / v2_24_8) - (a1 / v2_24_8) / (10 : Int32) * (10 : Int32))) w24_8) (fun s11 => zGd (¬ (10 : Int32) = 0) (zB (v2_24_8 / (10 : Int32)) (fun x13 => fX9_writesNumber_24_8 a1 k24_8 n24_8 x13 s11)))))
def fX9_writesNumber_24_16 (a1 : Int32) (k24_16 : zS → Option (Int32 × zS)) : Nat → Int32 → zS → Option (Int32 × zS)
  | 0, _, _ => none
  | (n24_16 + 1), v2_24_16, w24_16 => if v2_24_16 ≤ 0 then k24_16 w24_16 else zGd (¬ v2_24_16 = 0) (zGd (¬ (10 : Int32) = 0) (zCv (fX9_writes ((48 : Int32) + ((a1 / v2_24_16) - (a1 / v2_24_16) / (10 : Int32) * (10 : Int32))) w24_16) (fun s19 => zGd (¬ (10 : Int32) = 0) (zB (v2_24_16 / (10 : Int32)) (fun x21 => fX9_writesNumber_24_16 a1 k24_16 n24_16 x21 s19)))))
def fX9_writesNumber (a1 : Int32) (σ : zS) : Option (Int32 × zS) := if a1 ≤ (99 : Int32) then if a1 ≤ (9 : Int32) then fX9_writesNumber_24 a1 (fun (y24_1 : zS) => (some ((0 : Int32), y24_1) : Option (Int32 × zS))) zN (1 : Int32) σ else fX9_writesNumber_24_8 a1 (fun (y24_8 : zS) => (some ((0 : Int32), y24_8) : Option (Int32 × zS))) zN (10 : Int32) σ else fX9_writesNumber_24_16 a1 (fun (y24_16 : zS) => (some ((0 : Int32), y24_16) : Option (Int32 × zS))) zN (100 : Int32) σ
abbrev rmX9_writesNumber : Room := { frames := 1, cells := 0, slots := 0, locals := 21 }
set_option maxRecDepth 100000 in
set_option maxHeartbeats 4000000 in
theorem tX9_writesNumber (l : Launch) (σ : zS) (a1 : Int32) : zMv l yX9_writesNumber cX9_writesNumber 3 none rmX9_writesNumber (fun ad => [.ref (ad 21 0), .int a1]) σ (fX9_writesNumber a1 σ) := by
  refine zMv.of RX9 (by decide +kernel) rfl (fun _ => Nat.le_of_ble_eq_true rfl) (fun _ => zcat rfl) (fun K t F hR hL E => ?_)
  show ZO K t 0 [some (.ref (zad K 21 0)), some (.int a1), none] [] σ (if a1 ≤ (99 : Int32) then if a1 ≤ (9 : Int32) then fX9_writesNumber_24 a1 (fun (y24_1 : zS) => (some ((0 : Int32), y24_1) : Option (Int32 × zS))) zN (1 : Int32) σ else fX9_writesNumber_24_8 a1 (fun (y24_8 : zS) => (some ((0 : Int32), y24_8) : Option (Int32 × zS))) zN (10 : Int32) σ else fX9_writesNumber_24_16 a1 (fun (y24_16 : zS) => (some ((0 : Int32), y24_16) : Option (Int32 × zS))) zN (100 : Int32) σ)
  refine z_iload_n (pc := 0) F dX9_writesNumber_0 rfl ?_
  refine z_bipush (pc := 1) F (v := 99) dX9_writesNumber_1 (by decide) ?_
  refine z_icmp_le (pc := 3) F 11 dX9_writesNumber_3 (by decide) (fun h23 => ?_) (fun h23 => ?_)
  · refine z_iload_n (pc := 11) F dX9_writesNumber_11 rfl ?_
    refine z_bipush (pc := 12) F (v := 9) dX9_writesNumber_12 (by decide) ?_
    refine z_icmp_le (pc := 14) F 22 dX9_writesNumber_14 (by decide) (fun h15 => ?_) (fun h15 => ?_)
    · refine z_iconst (pc := 22) F (v := 1) dX9_writesNumber_22 (by decide) ?_
      refine z_istore_n (pc := 23) F (lv' := [some (.ref (zad K 21 0)), some (.int a1), some (.int (1 : Int32))]) dX9_writesNumber_23 (zlt rfl) rfl ?_
      have hk24_1 : ∀ (y24_1 : zS), ZO K t 49 [none, none, none] [] y24_1 ((fun (y24_1 : zS) => (some ((0 : Int32), y24_1) : Option (Int32 × zS))) y24_1) := by
        intro y24_1
        show ZO K t 49 [none, none, none] [] y24_1 (some ((0 : Int32), y24_1))
        exact z_vret (pc := 49) (x := 0) F E dX9_writesNumber_49
      have L24_1 : ∀ (n24_1 : Nat) (v2_24_1 : Int32) (w24_1 : zS), ZO K t 24 [some (.ref (zad K 21 0)), some (.int a1), some (.int v2_24_1)] [] w24_1 (fX9_writesNumber_24 a1 (fun (y24_1 : zS) => (some ((0 : Int32), y24_1) : Option (Int32 × zS))) n24_1 v2_24_1 w24_1) := by
        revert hk24_1; generalize (fun (y24_1 : zS) => (some ((0 : Int32), y24_1) : Option (Int32 × zS))) = k24_1; intro hk24_1
        intro n24_1
        induction n24_1 with
        | zero => intro v2_24_1 w24_1; exact z_none
        | succ n24_1 ih24_1 =>
          intro v2_24_1 w24_1
          show ZO K t 24 [some (.ref (zad K 21 0)), some (.int a1), some (.int v2_24_1)] [] w24_1 (if v2_24_1 ≤ 0 then k24_1 w24_1 else zGd (¬ v2_24_1 = 0) (zGd (¬ (10 : Int32) = 0) (zCv (fX9_writes ((48 : Int32) + ((a1 / v2_24_1) - (a1 / v2_24_1) / (10 : Int32) * (10 : Int32))) w24_1) (fun s4 => zGd (¬ (10 : Int32) = 0) (zB (v2_24_1 / (10 : Int32)) (fun x6 => fX9_writesNumber_24 a1 k24_1 n24_1 x6 s4))))))
          refine z_iload_n (pc := 24) F dX9_writesNumber_24 rfl ?_
          refine z_if_le (pc := 25) F 49 dX9_writesNumber_25 (by decide) (fun h7 => ?_) (fun h7 => ?_)
          · refine z_wk [false, false, false] (lv' := [none, none, none]) rfl ?_
            exact hk24_1  w24_1
          · refine z_aload_n (pc := 28) F dX9_writesNumber_28 rfl ?_
            refine z_bipush (pc := 29) F (v := 48) dX9_writesNumber_29 (by decide) ?_
            refine z_iload_n (pc := 31) F dX9_writesNumber_31 rfl ?_
            refine z_iload_n (pc := 32) F dX9_writesNumber_32 rfl ?_
            refine z_gd (fun h2 => ?_)
            refine z_idiv (pc := 33) F h2 dX9_writesNumber_33 ?_
            refine z_bipush (pc := 34) F (v := 10) dX9_writesNumber_34 (by decide) ?_
            refine z_gd (fun h3 => ?_)
            refine z_irem (pc := 36) F h3 dX9_writesNumber_36 ?_
            refine z_iadd (pc := 37) F dX9_writesNumber_37 ?_
            refine z_callVv (pc := 38) (st := []) F 21 0 [.int ((48 : Int32) + ((a1 / v2_24_1) - (a1 / v2_24_1) / (10 : Int32) * (10 : Int32)))] cl_RX9_202 (tX9_writes (zln K) w24_1 ((48 : Int32) + ((a1 / v2_24_1) - (a1 / v2_24_1) / (10 : Int32) * (10 : Int32)))) rfl (by decide) (fun _ => ⟨_, rfl⟩) rfl (by rw [hR]; exact ⟨rfl, rfl, Nat.le_of_ble_eq_true rfl, Nat.le_of_ble_eq_true rfl⟩) rfl rfl (Nat.le_of_ble_eq_true rfl) dX9_writesNumber_38 (fun s4 => ?_)
            refine z_iload_n (pc := 41) F dX9_writesNumber_41 rfl ?_
            refine z_bipush (pc := 42) F (v := 10) dX9_writesNumber_42 (by decide) ?_
            refine z_gd (fun h5 => ?_)
            refine z_idiv (pc := 44) F h5 dX9_writesNumber_44 ?_
            refine z_Bi (fun x6 => ?_)
            refine z_istore_n (pc := 45) F (lv' := [some (.ref (zad K 21 0)), some (.int a1), some (.int x6)]) dX9_writesNumber_45 (zlt rfl) rfl ?_
            refine z_goto (pc := 46) F 24 dX9_writesNumber_46 (by decide) ?_
            exact ih24_1 x6 s4
      exact L24_1 zN (1 : Int32) σ
    · refine z_bipush (pc := 17) F (v := 10) dX9_writesNumber_17 (by decide) ?_
      refine z_goto (pc := 19) F 23 dX9_writesNumber_19 (by decide) ?_
      refine z_istore_n (pc := 23) F (lv' := [some (.ref (zad K 21 0)), some (.int a1), some (.int (10 : Int32))]) dX9_writesNumber_23 (zlt rfl) rfl ?_
      have hk24_8 : ∀ (y24_8 : zS), ZO K t 49 [none, none, none] [] y24_8 ((fun (y24_8 : zS) => (some ((0 : Int32), y24_8) : Option (Int32 × zS))) y24_8) := by
        intro y24_8
        show ZO K t 49 [none, none, none] [] y24_8 (some ((0 : Int32), y24_8))
        exact z_vret (pc := 49) (x := 0) F E dX9_writesNumber_49
      have L24_8 : ∀ (n24_8 : Nat) (v2_24_8 : Int32) (w24_8 : zS), ZO K t 24 [some (.ref (zad K 21 0)), some (.int a1), some (.int v2_24_8)] [] w24_8 (fX9_writesNumber_24_8 a1 (fun (y24_8 : zS) => (some ((0 : Int32), y24_8) : Option (Int32 × zS))) n24_8 v2_24_8 w24_8) := by
        revert hk24_8; generalize (fun (y24_8 : zS) => (some ((0 : Int32), y24_8) : Option (Int32 × zS))) = k24_8; intro hk24_8
        intro n24_8
        induction n24_8 with
        | zero => intro v2_24_8 w24_8; exact z_none
        | succ n24_8 ih24_8 =>
          intro v2_24_8 w24_8
          show ZO K t 24 [some (.ref (zad K 21 0)), some (.int a1), some (.int v2_24_8)] [] w24_8 (if v2_24_8 ≤ 0 then k24_8 w24_8 else zGd (¬ v2_24_8 = 0) (zGd (¬ (10 : Int32) = 0) (zCv (fX9_writes ((48 : Int32) + ((a1 / v2_24_8) - (a1 / v2_24_8) / (10 : Int32) * (10 : Int32))) w24_8) (fun s11 => zGd (¬ (10 : Int32) = 0) (zB (v2_24_8 / (10 : Int32)) (fun x13 => fX9_writesNumber_24_8 a1 k24_8 n24_8 x13 s11))))))
          refine z_iload_n (pc := 24) F dX9_writesNumber_24 rfl ?_
          refine z_if_le (pc := 25) F 49 dX9_writesNumber_25 (by decide) (fun h14 => ?_) (fun h14 => ?_)
          · refine z_wk [false, false, false] (lv' := [none, none, none]) rfl ?_
            exact hk24_8  w24_8
          · refine z_aload_n (pc := 28) F dX9_writesNumber_28 rfl ?_
            refine z_bipush (pc := 29) F (v := 48) dX9_writesNumber_29 (by decide) ?_
            refine z_iload_n (pc := 31) F dX9_writesNumber_31 rfl ?_
            refine z_iload_n (pc := 32) F dX9_writesNumber_32 rfl ?_
            refine z_gd (fun h9 => ?_)
            refine z_idiv (pc := 33) F h9 dX9_writesNumber_33 ?_
            refine z_bipush (pc := 34) F (v := 10) dX9_writesNumber_34 (by decide) ?_
            refine z_gd (fun h10 => ?_)
            refine z_irem (pc := 36) F h10 dX9_writesNumber_36 ?_
            refine z_iadd (pc := 37) F dX9_writesNumber_37 ?_
            refine z_callVv (pc := 38) (st := []) F 21 0 [.int ((48 : Int32) + ((a1 / v2_24_8) - (a1 / v2_24_8) / (10 : Int32) * (10 : Int32)))] cl_RX9_202 (tX9_writes (zln K) w24_8 ((48 : Int32) + ((a1 / v2_24_8) - (a1 / v2_24_8) / (10 : Int32) * (10 : Int32)))) rfl (by decide) (fun _ => ⟨_, rfl⟩) rfl (by rw [hR]; exact ⟨rfl, rfl, Nat.le_of_ble_eq_true rfl, Nat.le_of_ble_eq_true rfl⟩) rfl rfl (Nat.le_of_ble_eq_true rfl) dX9_writesNumber_38 (fun s11 => ?_)
            refine z_iload_n (pc := 41) F dX9_writesNumber_41 rfl ?_
            refine z_bipush (pc := 42) F (v := 10) dX9_writesNumber_42 (by decide) ?_
            refine z_gd (fun h12 => ?_)
            refine z_idiv (pc := 44) F h12 dX9_writesNumber_44 ?_
            refine z_Bi (fun x13 => ?_)
            refine z_istore_n (pc := 45) F (lv' := [some (.ref (zad K 21 0)), some (.int a1), some (.int x13)]) dX9_writesNumber_45 (zlt rfl) rfl ?_
            refine z_goto (pc := 46) F 24 dX9_writesNumber_46 (by decide) ?_
            exact ih24_8 x13 s11
      exact L24_8 zN (10 : Int32) σ
  · refine z_bipush (pc := 6) F (v := 100) dX9_writesNumber_6 (by decide) ?_
    refine z_goto (pc := 8) F 23 dX9_writesNumber_8 (by decide) ?_
    refine z_istore_n (pc := 23) F (lv' := [some (.ref (zad K 21 0)), some (.int a1), some (.int (100 : Int32))]) dX9_writesNumber_23 (zlt rfl) rfl ?_
    have hk24_16 : ∀ (y24_16 : zS), ZO K t 49 [none, none, none] [] y24_16 ((fun (y24_16 : zS) => (some ((0 : Int32), y24_16) : Option (Int32 × zS))) y24_16) := by
      intro y24_16
      show ZO K t 49 [none, none, none] [] y24_16 (some ((0 : Int32), y24_16))
      exact z_vret (pc := 49) (x := 0) F E dX9_writesNumber_49
    have L24_16 : ∀ (n24_16 : Nat) (v2_24_16 : Int32) (w24_16 : zS), ZO K t 24 [some (.ref (zad K 21 0)), some (.int a1), some (.int v2_24_16)] [] w24_16 (fX9_writesNumber_24_16 a1 (fun (y24_16 : zS) => (some ((0 : Int32), y24_16) : Option (Int32 × zS))) n24_16 v2_24_16 w24_16) := by
      revert hk24_16; generalize (fun (y24_16 : zS) => (some ((0 : Int32), y24_16) : Option (Int32 × zS))) = k24_16; intro hk24_16
      intro n24_16
      induction n24_16 with
      | zero => intro v2_24_16 w24_16; exact z_none
      | succ n24_16 ih24_16 =>
        intro v2_24_16 w24_16
        show ZO K t 24 [some (.ref (zad K 21 0)), some (.int a1), some (.int v2_24_16)] [] w24_16 (if v2_24_16 ≤ 0 then k24_16 w24_16 else zGd (¬ v2_24_16 = 0) (zGd (¬ (10 : Int32) = 0) (zCv (fX9_writes ((48 : Int32) + ((a1 / v2_24_16) - (a1 / v2_24_16) / (10 : Int32) * (10 : Int32))) w24_16) (fun s19 => zGd (¬ (10 : Int32) = 0) (zB (v2_24_16 / (10 : Int32)) (fun x21 => fX9_writesNumber_24_16 a1 k24_16 n24_16 x21 s19))))))
        refine z_iload_n (pc := 24) F dX9_writesNumber_24 rfl ?_
        refine z_if_le (pc := 25) F 49 dX9_writesNumber_25 (by decide) (fun h22 => ?_) (fun h22 => ?_)
        · refine z_wk [false, false, false] (lv' := [none, none, none]) rfl ?_
          exact hk24_16  w24_16
        · refine z_aload_n (pc := 28) F dX9_writesNumber_28 rfl ?_
          refine z_bipush (pc := 29) F (v := 48) dX9_writesNumber_29 (by decide) ?_
          refine z_iload_n (pc := 31) F dX9_writesNumber_31 rfl ?_
          refine z_iload_n (pc := 32) F dX9_writesNumber_32 rfl ?_
          refine z_gd (fun h17 => ?_)
          refine z_idiv (pc := 33) F h17 dX9_writesNumber_33 ?_
          refine z_bipush (pc := 34) F (v := 10) dX9_writesNumber_34 (by decide) ?_
          refine z_gd (fun h18 => ?_)
          refine z_irem (pc := 36) F h18 dX9_writesNumber_36 ?_
          refine z_iadd (pc := 37) F dX9_writesNumber_37 ?_
          refine z_callVv (pc := 38) (st := []) F 21 0 [.int ((48 : Int32) + ((a1 / v2_24_16) - (a1 / v2_24_16) / (10 : Int32) * (10 : Int32)))] cl_RX9_202 (tX9_writes (zln K) w24_16 ((48 : Int32) + ((a1 / v2_24_16) - (a1 / v2_24_16) / (10 : Int32) * (10 : Int32)))) rfl (by decide) (fun _ => ⟨_, rfl⟩) rfl (by rw [hR]; exact ⟨rfl, rfl, Nat.le_of_ble_eq_true rfl, Nat.le_of_ble_eq_true rfl⟩) rfl rfl (Nat.le_of_ble_eq_true rfl) dX9_writesNumber_38 (fun s19 => ?_)
          refine z_iload_n (pc := 41) F dX9_writesNumber_41 rfl ?_
          refine z_bipush (pc := 42) F (v := 10) dX9_writesNumber_42 (by decide) ?_
          refine z_gd (fun h20 => ?_)
          refine z_idiv (pc := 44) F h20 dX9_writesNumber_44 ?_
          refine z_Bi (fun x21 => ?_)
          refine z_istore_n (pc := 45) F (lv' := [some (.ref (zad K 21 0)), some (.int a1), some (.int x21)]) dX9_writesNumber_45 (zlt rfl) rfl ?_
          refine z_goto (pc := 46) F 24 dX9_writesNumber_46 (by decide) ?_
          exact ih24_16 x21 s19
    exact L24_16 zN (100 : Int32) σ
