def fX9_mixes_62 (a1 : Int32) (a2 : Int32) (v5_30_2 : Int32) (x6 : Int32) (k62_9 : zS → Option (Int32 × zS)) : Nat → Int32 → zS → Option (Int32 × zS)
  | 0, _, _ => none
  | (n62_9 + 1), v7_62_9, w62_9 => zIx a1 3 (if ((w62_9 28 0 a1.toNatClampNeg) + (3 : Int32)) ≤ v7_62_9 then k62_9 w62_9 else zIx v7_62_9 8 (zCi (fX9_at a1 a2 v5_30_2 w62_9) (fun x14 s13 => zIx (x14 + v7_62_9) 480 (zGd (¬ (s13 21 0 12) = 0) (zIx v7_62_9 8 (zB (zU s13 34 0 v7_62_9.toNatClampNeg (((w62_9 34 0 v7_62_9.toNatClampNeg) + (x6 * (s13 30 0 (x14 + v7_62_9).toNatClampNeg))) - ((w62_9 34 0 v7_62_9.toNatClampNeg) + (x6 * (s13 30 0 (x14 + v7_62_9).toNatClampNeg))) / (s13 21 0 12) * (s13 21 0 12))) (fun s18 => zB (v7_62_9 + 1) (fun x19 => fX9_mixes_62 a1 a2 v5_30_2 x6 k62_9 n62_9 x19 s18))))))))
def fX9_mixes_30 (a1 : Int32) (a2 : Int32) (k30_2 : zS → Option (Int32 × zS)) : Nat → Int32 → Int32 → zS → Option (Int32 × zS)
  | 0, _, _, _ => none
  | (n30_2 + 1), v4_30_2, v5_30_2, w30_2 => zCi (fX9_rankOf a1 a2 w30_2) (fun x4 s3 => if x4 ≤ v5_30_2 then k30_2 s3 else zGd (¬ (s3 21 0 12) = 0) (zB (v4_30_2 - v4_30_2 / (s3 21 0 12) * (s3 21 0 12)) (fun x6 => zGd (¬ (s3 21 0 12) = 0) (zB (v4_30_2 / (s3 21 0 12)) (fun x8 => fX9_mixes_62 a1 a2 v5_30_2 x6 (fun (y62_9 : zS) => (zB (v5_30_2 + 1) (fun x10 => fX9_mixes_30 a1 a2 k30_2 n30_2 x8 x10 y62_9) : Option (Int32 × zS))) zN (0 : Int32) s3)))))
def fX9_mixes_3 (k3_1 : zS → Option (Int32 × zS)) : Nat → Int32 → zS → Option (Int32 × zS)
  | 0, _, _ => none
  | (n3_1 + 1), v4_3_1, w3_1 => if (8 : Int32) ≤ v4_3_1 then k3_1 w3_1 else zIx v4_3_1 8 (zB (zU w3_1 34 0 v4_3_1.toNatClampNeg (0 : Int32)) (fun s23 => zB (v4_3_1 + 1) (fun x24 => fX9_mixes_3 k3_1 n3_1 x24 s23)))
def fX9_mixes (a1 : Int32) (a2 : Int32) (a3 : Int32) (σ : zS) : Option (Int32 × zS) := fX9_mixes_3 (fun (y3_1 : zS) => (fX9_mixes_30 a1 a2 (fun (y30_2 : zS) => (some ((0 : Int32), y30_2) : Option (Int32 × zS))) zN a3 (0 : Int32) y3_1 : Option (Int32 × zS))) zN (0 : Int32) σ
abbrev rmX9_mixes : Room := { frames := 1, cells := 0, slots := 0, locals := 22 }
set_option maxRecDepth 100000 in
set_option maxHeartbeats 4000000 in
theorem tX9_mixes (l : Launch) (σ : zS) (a1 : Int32) (a2 : Int32) (a3 : Int32) : zMv l yX9_mixes cX9_mixes 8 none rmX9_mixes (fun ad => [.ref (ad 21 0), .int a1, .int a2, .int a3]) σ (fX9_mixes a1 a2 a3 σ) := by
  refine zMv.of RX9 (by decide +kernel) rfl (fun _ => Nat.le_of_ble_eq_true rfl) (fun _ => zcat rfl) (fun K t F hR hL E => ?_)
  show ZO K t 0 [some (.ref (zad K 21 0)), some (.int a1), some (.int a2), some (.int a3), none, none, none, none] [] σ (fX9_mixes_3 (fun (y3_1 : zS) => (fX9_mixes_30 a1 a2 (fun (y30_2 : zS) => (some ((0 : Int32), y30_2) : Option (Int32 × zS))) zN a3 (0 : Int32) y3_1 : Option (Int32 × zS))) zN (0 : Int32) σ)
  refine z_iconst (pc := 0) F (v := 0) dX9_mixes_0 (by decide) ?_
  refine z_istore (pc := 1) F (lv' := [some (.ref (zad K 21 0)), some (.int a1), some (.int a2), some (.int a3), some (.int (0 : Int32)), none, none, none]) dX9_mixes_1 (zlt rfl) rfl ?_
  have hk3_1 : ∀ (y3_1 : zS), ZO K t 24 [some (.ref (zad K 21 0)), some (.int a1), some (.int a2), some (.int a3), none, none, none, none] [] y3_1 ((fun (y3_1 : zS) => (fX9_mixes_30 a1 a2 (fun (y30_2 : zS) => (some ((0 : Int32), y30_2) : Option (Int32 × zS))) zN a3 (0 : Int32) y3_1 : Option (Int32 × zS))) y3_1) := by
    intro y3_1
    show ZO K t 24 [some (.ref (zad K 21 0)), some (.int a1), some (.int a2), some (.int a3), none, none, none, none] [] y3_1 (fX9_mixes_30 a1 a2 (fun (y30_2 : zS) => (some ((0 : Int32), y30_2) : Option (Int32 × zS))) zN a3 (0 : Int32) y3_1)
    refine z_iload_n (pc := 24) F dX9_mixes_24 rfl ?_
    refine z_istore (pc := 25) F (lv' := [some (.ref (zad K 21 0)), some (.int a1), some (.int a2), some (.int a3), some (.int a3), none, none, none]) dX9_mixes_25 (zlt rfl) rfl ?_
    refine z_iconst (pc := 27) F (v := 0) dX9_mixes_27 (by decide) ?_
    refine z_istore (pc := 28) F (lv' := [some (.ref (zad K 21 0)), some (.int a1), some (.int a2), some (.int a3), some (.int a3), some (.int (0 : Int32)), none, none]) dX9_mixes_28 (zlt rfl) rfl ?_
    refine z_wk [true, true, true, false, true, true, true, true] (lv' := [some (.ref (zad K 21 0)), some (.int a1), some (.int a2), none, some (.int a3), some (.int (0 : Int32)), none, none]) rfl ?_
    have hk30_2 : ∀ (y30_2 : zS), ZO K t 125 [none, none, none, none, none, none, none, none] [] y30_2 ((fun (y30_2 : zS) => (some ((0 : Int32), y30_2) : Option (Int32 × zS))) y30_2) := by
      intro y30_2
      show ZO K t 125 [none, none, none, none, none, none, none, none] [] y30_2 (some ((0 : Int32), y30_2))
      exact z_vret (pc := 125) (x := 0) F E dX9_mixes_125
    have L30_2 : ∀ (n30_2 : Nat) (v4_30_2 : Int32) (v5_30_2 : Int32) (w30_2 : zS), ZO K t 30 [some (.ref (zad K 21 0)), some (.int a1), some (.int a2), none, some (.int v4_30_2), some (.int v5_30_2), none, none] [] w30_2 (fX9_mixes_30 a1 a2 (fun (y30_2 : zS) => (some ((0 : Int32), y30_2) : Option (Int32 × zS))) n30_2 v4_30_2 v5_30_2 w30_2) := by
      revert hk30_2; generalize (fun (y30_2 : zS) => (some ((0 : Int32), y30_2) : Option (Int32 × zS))) = k30_2; intro hk30_2
      intro n30_2
      induction n30_2 with
      | zero => intro v4_30_2 v5_30_2 w30_2; exact z_none
      | succ n30_2 ih30_2 =>
        intro v4_30_2 v5_30_2 w30_2
        show ZO K t 30 [some (.ref (zad K 21 0)), some (.int a1), some (.int a2), none, some (.int v4_30_2), some (.int v5_30_2), none, none] [] w30_2 (zCi (fX9_rankOf a1 a2 w30_2) (fun x4 s3 => if x4 ≤ v5_30_2 then k30_2 s3 else zGd (¬ (s3 21 0 12) = 0) (zB (v4_30_2 - v4_30_2 / (s3 21 0 12) * (s3 21 0 12)) (fun x6 => zGd (¬ (s3 21 0 12) = 0) (zB (v4_30_2 / (s3 21 0 12)) (fun x8 => fX9_mixes_62 a1 a2 v5_30_2 x6 (fun (y62_9 : zS) => (zB (v5_30_2 + 1) (fun x10 => fX9_mixes_30 a1 a2 k30_2 n30_2 x8 x10 y62_9) : Option (Int32 × zS))) zN (0 : Int32) s3))))))
        refine z_iload (pc := 30) F dX9_mixes_30 rfl ?_
        refine z_aload_n (pc := 32) F dX9_mixes_32 rfl ?_
        refine z_iload_n (pc := 33) F dX9_mixes_33 rfl ?_
        refine z_iload_n (pc := 34) F dX9_mixes_34 rfl ?_
        refine z_callVi (pc := 35) (st := [.int v5_30_2]) F 21 0 [.int a1, .int a2] cl_RX9_156 (tX9_rankOf (zln K) w30_2 a1 a2) rfl (by decide) (fun _ => ⟨_, rfl⟩) rfl (by rw [hR]; exact ⟨rfl, rfl, Nat.le_of_ble_eq_true rfl, Nat.le_of_ble_eq_true rfl⟩) rfl rfl (Nat.le_of_ble_eq_true rfl) dX9_mixes_35 (fun x4 s3 => ?_)
        refine z_icmp_ge (pc := 38) F 125 dX9_mixes_38 (by decide) (fun h21 => ?_) (fun h21 => ?_)
        · refine z_wk [false, false, false, true, false, false, true, true] (lv' := [none, none, none, none, none, none, none, none]) rfl ?_
          exact hk30_2  s3
        · refine z_iload (pc := 41) F dX9_mixes_41 rfl ?_
          refine z_aload_n (pc := 43) F dX9_mixes_43 rfl ?_
          refine z_get (pc := 44) F 21 0 12 (v := .int (s3 21 0 12)) (by decide) (fun _ => rfl) rfl (by decide) inlX9 lk_RX9_32 rfl dX9_mixes_44 ?_
          refine z_gd (fun h5 => ?_)
          refine z_irem (pc := 47) F h5 dX9_mixes_47 ?_
          refine z_Bi (fun x6 => ?_)
          refine z_istore (pc := 48) F (lv' := [some (.ref (zad K 21 0)), some (.int a1), some (.int a2), none, some (.int v4_30_2), some (.int v5_30_2), some (.int x6), none]) dX9_mixes_48 (zlt rfl) rfl ?_
          refine z_iload (pc := 50) F dX9_mixes_50 rfl ?_
          refine z_aload_n (pc := 52) F dX9_mixes_52 rfl ?_
          refine z_get (pc := 53) F 21 0 12 (v := .int (s3 21 0 12)) (by decide) (fun _ => rfl) rfl (by decide) inlX9 lk_RX9_32 rfl dX9_mixes_53 ?_
          refine z_gd (fun h7 => ?_)
          refine z_idiv (pc := 56) F h7 dX9_mixes_56 ?_
          refine z_Bi (fun x8 => ?_)
          refine z_istore (pc := 57) F (lv' := [some (.ref (zad K 21 0)), some (.int a1), some (.int a2), none, some (.int x8), some (.int v5_30_2), some (.int x6), none]) dX9_mixes_57 (zlt rfl) rfl ?_
          refine z_iconst (pc := 59) F (v := 0) dX9_mixes_59 (by decide) ?_
          refine z_istore (pc := 60) F (lv' := [some (.ref (zad K 21 0)), some (.int a1), some (.int a2), none, some (.int x8), some (.int v5_30_2), some (.int x6), some (.int (0 : Int32))]) dX9_mixes_60 (zlt rfl) rfl ?_
          have hk62_9 : ∀ (y62_9 : zS), ZO K t 119 [some (.ref (zad K 21 0)), some (.int a1), some (.int a2), none, some (.int x8), some (.int v5_30_2), none, none] [] y62_9 ((fun (y62_9 : zS) => (zB (v5_30_2 + 1) (fun x10 => fX9_mixes_30 a1 a2 k30_2 n30_2 x8 x10 y62_9) : Option (Int32 × zS))) y62_9) := by
            intro y62_9
            show ZO K t 119 [some (.ref (zad K 21 0)), some (.int a1), some (.int a2), none, some (.int x8), some (.int v5_30_2), none, none] [] y62_9 (zB (v5_30_2 + 1) (fun x10 => fX9_mixes_30 a1 a2 k30_2 n30_2 x8 x10 y62_9))
            refine z_iincB (pc := 119) F (lv' := fun x10 => [some (.ref (zad K 21 0)), some (.int a1), some (.int a2), none, some (.int x8), some (.int x10), none, none]) dX9_mixes_119 rfl rfl (fun _ => rfl) (fun x10 => ?_)
            refine z_goto (pc := 122) F 30 dX9_mixes_122 (by decide) ?_
            exact ih30_2 x8 x10 y62_9
          have L62_9 : ∀ (n62_9 : Nat) (v7_62_9 : Int32) (w62_9 : zS), ZO K t 62 [some (.ref (zad K 21 0)), some (.int a1), some (.int a2), none, some (.int x8), some (.int v5_30_2), some (.int x6), some (.int v7_62_9)] [] w62_9 (fX9_mixes_62 a1 a2 v5_30_2 x6 (fun (y62_9 : zS) => (zB (v5_30_2 + 1) (fun x10 => fX9_mixes_30 a1 a2 k30_2 n30_2 x8 x10 y62_9) : Option (Int32 × zS))) n62_9 v7_62_9 w62_9) := by
            revert hk62_9; generalize (fun (y62_9 : zS) => (zB (v5_30_2 + 1) (fun x10 => fX9_mixes_30 a1 a2 k30_2 n30_2 x8 x10 y62_9) : Option (Int32 × zS))) = k62_9; intro hk62_9
            intro n62_9
            induction n62_9 with
            | zero => intro v7_62_9 w62_9; exact z_none
            | succ n62_9 ih62_9 =>
              intro v7_62_9 w62_9
              show ZO K t 62 [some (.ref (zad K 21 0)), some (.int a1), some (.int a2), none, some (.int x8), some (.int v5_30_2), some (.int x6), some (.int v7_62_9)] [] w62_9 (zIx a1 3 (if ((w62_9 28 0 a1.toNatClampNeg) + (3 : Int32)) ≤ v7_62_9 then k62_9 w62_9 else zIx v7_62_9 8 (zCi (fX9_at a1 a2 v5_30_2 w62_9) (fun x14 s13 => zIx (x14 + v7_62_9) 480 (zGd (¬ (s13 21 0 12) = 0) (zIx v7_62_9 8 (zB (zU s13 34 0 v7_62_9.toNatClampNeg (((w62_9 34 0 v7_62_9.toNatClampNeg) + (x6 * (s13 30 0 (x14 + v7_62_9).toNatClampNeg))) - ((w62_9 34 0 v7_62_9.toNatClampNeg) + (x6 * (s13 30 0 (x14 + v7_62_9).toNatClampNeg))) / (s13 21 0 12) * (s13 21 0 12))) (fun s18 => zB (v7_62_9 + 1) (fun x19 => fX9_mixes_62 a1 a2 v5_30_2 x6 k62_9 n62_9 x19 s18)))))))))
              refine z_iload (pc := 62) F dX9_mixes_62 rfl ?_
              refine z_aload_n (pc := 64) F dX9_mixes_64 rfl ?_
              refine z_get (pc := 65) F 21 0 16 (v := .ref (zad K 28 0)) (by decide) (fun _ => rfl) rfl (by decide) inlX9 lk_RX9_38 rfl dX9_mixes_65 ?_
              refine z_iload_n (pc := 68) F dX9_mixes_68 rfl ?_
              refine z_ix (fun h11 => ?_)
              refine z_iald (pc := 69) F 28 0 (by decide) (fun _ => rfl) h11 dX9_mixes_69 ?_
              refine z_iconst (pc := 70) F (v := 3) dX9_mixes_70 (by decide) ?_
              refine z_iadd (pc := 71) F dX9_mixes_71 ?_
              refine z_icmp_ge (pc := 72) F 119 dX9_mixes_72 (by decide) (fun h20 => ?_) (fun h20 => ?_)
              · refine z_wk [true, true, true, true, true, true, false, false] (lv' := [some (.ref (zad K 21 0)), some (.int a1), some (.int a2), none, some (.int x8), some (.int v5_30_2), none, none]) rfl ?_
                exact hk62_9  w62_9
              · refine z_aload_n (pc := 75) F dX9_mixes_75 rfl ?_
                refine z_get (pc := 76) F 21 0 23 (v := .ref (zad K 34 0)) (by decide) (fun _ => rfl) rfl (by decide) inlX9 lk_RX9_59 rfl dX9_mixes_76 ?_
                refine z_iload (pc := 79) F dX9_mixes_79 rfl ?_
                refine z_aload_n (pc := 81) F dX9_mixes_81 rfl ?_
                refine z_get (pc := 82) F 21 0 23 (v := .ref (zad K 34 0)) (by decide) (fun _ => rfl) rfl (by decide) inlX9 lk_RX9_59 rfl dX9_mixes_82 ?_
                refine z_iload (pc := 85) F dX9_mixes_85 rfl ?_
                refine z_ix (fun h12 => ?_)
                refine z_iald (pc := 87) F 34 0 (by decide) (fun _ => rfl) h12 dX9_mixes_87 ?_
                refine z_iload (pc := 88) F dX9_mixes_88 rfl ?_
                refine z_aload_n (pc := 90) F dX9_mixes_90 rfl ?_
                refine z_get (pc := 91) F 21 0 18 (v := .ref (zad K 30 0)) (by decide) (fun _ => rfl) rfl (by decide) inlX9 lk_RX9_44 rfl dX9_mixes_91 ?_
                refine z_iload_n (pc := 94) F dX9_mixes_94 rfl ?_
                refine z_iload_n (pc := 95) F dX9_mixes_95 rfl ?_
                refine z_iload (pc := 96) F dX9_mixes_96 rfl ?_
                refine z_callSi (pc := 98) (st := [.ref (zad K 30 0), .int x6, .int (w62_9 34 0 v7_62_9.toNatClampNeg), .int v7_62_9, .ref (zad K 34 0)]) F [.int a1, .int a2, .int v5_30_2] cl_RX9_146 (tX9_at (zln K) w62_9 a1 a2 v5_30_2) rfl (by rw [hR]; exact ⟨rfl, rfl, Nat.le_of_ble_eq_true rfl, Nat.le_of_ble_eq_true rfl⟩) rfl rfl (Nat.le_of_ble_eq_true rfl) dX9_mixes_98 (fun x14 s13 => ?_)
                refine z_iload (pc := 101) F dX9_mixes_101 rfl ?_
                refine z_iadd (pc := 103) F dX9_mixes_103 ?_
                refine z_ix (fun h15 => ?_)
                refine z_iald (pc := 104) F 30 0 (by decide) (fun _ => rfl) h15 dX9_mixes_104 ?_
                refine z_imul (pc := 105) F dX9_mixes_105 ?_
                refine z_iadd (pc := 106) F dX9_mixes_106 ?_
                refine z_aload_n (pc := 107) F dX9_mixes_107 rfl ?_
                refine z_get (pc := 108) F 21 0 12 (v := .int (s13 21 0 12)) (by decide) (fun _ => rfl) rfl (by decide) inlX9 lk_RX9_32 rfl dX9_mixes_108 ?_
                refine z_gd (fun h16 => ?_)
                refine z_irem (pc := 111) F h16 dX9_mixes_111 ?_
                refine z_ix (fun h17 => ?_)
                refine z_iast (pc := 112) F 34 0 (by decide) (fun _ _ => rfl) h17 dX9_mixes_112 (fun s18 => ?_)
                refine z_iincB (pc := 113) F (lv' := fun x19 => [some (.ref (zad K 21 0)), some (.int a1), some (.int a2), none, some (.int x8), some (.int v5_30_2), some (.int x6), some (.int x19)]) dX9_mixes_113 rfl rfl (fun _ => rfl) (fun x19 => ?_)
                refine z_goto (pc := 116) F 62 dX9_mixes_116 (by decide) ?_
                exact ih62_9 x19 s18
          exact L62_9 zN (0 : Int32) s3
    exact L30_2 zN a3 (0 : Int32) y3_1
  have L3_1 : ∀ (n3_1 : Nat) (v4_3_1 : Int32) (w3_1 : zS), ZO K t 3 [some (.ref (zad K 21 0)), some (.int a1), some (.int a2), some (.int a3), some (.int v4_3_1), none, none, none] [] w3_1 (fX9_mixes_3 (fun (y3_1 : zS) => (fX9_mixes_30 a1 a2 (fun (y30_2 : zS) => (some ((0 : Int32), y30_2) : Option (Int32 × zS))) zN a3 (0 : Int32) y3_1 : Option (Int32 × zS))) n3_1 v4_3_1 w3_1) := by
    revert hk3_1; generalize (fun (y3_1 : zS) => (fX9_mixes_30 a1 a2 (fun (y30_2 : zS) => (some ((0 : Int32), y30_2) : Option (Int32 × zS))) zN a3 (0 : Int32) y3_1 : Option (Int32 × zS))) = k3_1; intro hk3_1
    intro n3_1
    induction n3_1 with
    | zero => intro v4_3_1 w3_1; exact z_none
    | succ n3_1 ih3_1 =>
      intro v4_3_1 w3_1
      show ZO K t 3 [some (.ref (zad K 21 0)), some (.int a1), some (.int a2), some (.int a3), some (.int v4_3_1), none, none, none] [] w3_1 (if (8 : Int32) ≤ v4_3_1 then k3_1 w3_1 else zIx v4_3_1 8 (zB (zU w3_1 34 0 v4_3_1.toNatClampNeg (0 : Int32)) (fun s23 => zB (v4_3_1 + 1) (fun x24 => fX9_mixes_3 k3_1 n3_1 x24 s23))))
      refine z_iload (pc := 3) F dX9_mixes_3 rfl ?_
      refine z_bipush (pc := 5) F (v := 8) dX9_mixes_5 (by decide) ?_
      refine z_icmp_ge (pc := 7) F 24 dX9_mixes_7 (by decide) (fun h25 => ?_) (fun h25 => ?_)
      · refine z_wk [true, true, true, true, false, true, true, true] (lv' := [some (.ref (zad K 21 0)), some (.int a1), some (.int a2), some (.int a3), none, none, none, none]) rfl ?_
        exact hk3_1  w3_1
      · refine z_aload_n (pc := 10) F dX9_mixes_10 rfl ?_
        refine z_get (pc := 11) F 21 0 23 (v := .ref (zad K 34 0)) (by decide) (fun _ => rfl) rfl (by decide) inlX9 lk_RX9_59 rfl dX9_mixes_11 ?_
        refine z_iload (pc := 14) F dX9_mixes_14 rfl ?_
        refine z_iconst (pc := 16) F (v := 0) dX9_mixes_16 (by decide) ?_
        refine z_ix (fun h22 => ?_)
        refine z_iast (pc := 17) F 34 0 (by decide) (fun _ _ => rfl) h22 dX9_mixes_17 (fun s23 => ?_)
        refine z_iincB (pc := 18) F (lv' := fun x24 => [some (.ref (zad K 21 0)), some (.int a1), some (.int a2), some (.int a3), some (.int x24), none, none, none]) dX9_mixes_18 rfl rfl (fun _ => rfl) (fun x24 => ?_)
        refine z_goto (pc := 21) F 3 dX9_mixes_21 (by decide) ?_
        exact ih3_1 x24 s23
  exact L3_1 zN (0 : Int32) σ
def fX9_draw (a1 : Int32) (a2 : Int32) (a3 : Int32) (σ : zS) : Option (Int32 × zS) := zCi (fX9_againstNodes a1 a2 a3 σ) (fun x2 s1 => if x2 = 0 then zB (zU s1 21 0 19 (((69069 : Int32) * (s1 21 0 19)) + (12345 : Int32))) (fun s3 => zGd (¬ (16807 : Int32) = 0) (zB ((((s3 21 0 19).toUInt32 >>> ((16 : Int32).toUInt32 &&& Int32.toUInt32 31)).toInt32) - (((s3 21 0 19).toUInt32 >>> ((16 : Int32).toUInt32 &&& Int32.toUInt32 31)).toInt32) / (16807 : Int32) * (16807 : Int32)) (fun x5 => zCi (fX9_placeOf a1 s3) (fun x7 s6 => zCv (fX9_mixes x7 a2 x5 s6) (fun s8 => zCi (fX9_comes x7 a3 s8) (fun x10 s9 => some (x5, s9))))))) else some (x2, s1))
abbrev rmX9_draw : Room := { frames := 3, cells := 0, slots := 0, locals := 81 }
set_option maxRecDepth 100000 in
set_option maxHeartbeats 4000000 in
theorem tX9_draw (l : Launch) (σ : zS) (a1 : Int32) (a2 : Int32) (a3 : Int32) : zMi l yX9_draw cX9_draw 7 (some .int) rmX9_draw (fun ad => [.ref (ad 21 0), .int a1, .int a2, .int a3]) σ (fX9_draw a1 a2 a3 σ) := by
  refine zMi.of RX9 (by decide +kernel) rfl (fun _ => Nat.le_of_ble_eq_true rfl) (fun _ => zcat rfl) (fun K t F hR hL E => ?_)
  show ZO K t 0 [some (.ref (zad K 21 0)), some (.int a1), some (.int a2), some (.int a3), none, none, none] [] σ (zCi (fX9_againstNodes a1 a2 a3 σ) (fun x2 s1 => if x2 = 0 then zB (zU s1 21 0 19 (((69069 : Int32) * (s1 21 0 19)) + (12345 : Int32))) (fun s3 => zGd (¬ (16807 : Int32) = 0) (zB ((((s3 21 0 19).toUInt32 >>> ((16 : Int32).toUInt32 &&& Int32.toUInt32 31)).toInt32) - (((s3 21 0 19).toUInt32 >>> ((16 : Int32).toUInt32 &&& Int32.toUInt32 31)).toInt32) / (16807 : Int32) * (16807 : Int32)) (fun x5 => zCi (fX9_placeOf a1 s3) (fun x7 s6 => zCv (fX9_mixes x7 a2 x5 s6) (fun s8 => zCi (fX9_comes x7 a3 s8) (fun x10 s9 => some (x5, s9))))))) else some (x2, s1)))
  refine z_aload_n (pc := 0) F dX9_draw_0 rfl ?_
  refine z_iload_n (pc := 1) F dX9_draw_1 rfl ?_
  refine z_iload_n (pc := 2) F dX9_draw_2 rfl ?_
  refine z_iload_n (pc := 3) F dX9_draw_3 rfl ?_
  refine z_callVi (pc := 4) (st := []) F 21 0 [.int a1, .int a2, .int a3] cl_RX9_172 (tX9_againstNodes (zln K) σ a1 a2 a3) rfl (by decide) (fun _ => ⟨_, rfl⟩) rfl (by rw [hR]; exact ⟨rfl, rfl, Nat.le_of_ble_eq_true rfl, Nat.le_of_ble_eq_true rfl⟩) rfl rfl (Nat.le_of_ble_eq_true rfl) dX9_draw_4 (fun x2 s1 => ?_)
  refine z_istore (pc := 7) F (lv' := [some (.ref (zad K 21 0)), some (.int a1), some (.int a2), some (.int a3), some (.int x2), none, none]) dX9_draw_7 (zlt rfl) rfl ?_
  refine z_iload (pc := 9) F dX9_draw_9 rfl ?_
  refine z_if_eq (pc := 11) F 17 dX9_draw_11 (by decide) (fun h11 => ?_) (fun h11 => ?_)
  · refine z_aload_n (pc := 17) F dX9_draw_17 rfl ?_
    refine z_ldci (pc := 18) F (v := 69069) kc_RX9_182 dX9_draw_18 ?_
    refine z_aload_n (pc := 20) F dX9_draw_20 rfl ?_
    refine z_get (pc := 21) F 21 0 19 (v := .int (s1 21 0 19)) (by decide) (fun _ => rfl) rfl (by decide) inlX9 lk_RX9_47 rfl dX9_draw_21 ?_
    refine z_imul (pc := 24) F dX9_draw_24 ?_
    refine z_sipush (pc := 25) F (v := 12345) dX9_draw_25 (by decide) ?_
    refine z_iadd (pc := 28) F dX9_draw_28 ?_
    refine z_put (pc := 29) F 21 0 19 tyX9 tyX9_ok nmX9 (by decide) (fun _ => rfl) rfl (by decide) inlX9 lk_RX9_47 rfl (by decide +kernel) (fun _ => Nat.le_of_ble_eq_true rfl) (fun _ => rfl) dX9_draw_29 (fun s3 => ?_)
    refine z_aload_n (pc := 32) F dX9_draw_32 rfl ?_
    refine z_get (pc := 33) F 21 0 19 (v := .int (s3 21 0 19)) (by decide) (fun _ => rfl) rfl (by decide) inlX9 lk_RX9_47 rfl dX9_draw_33 ?_
    refine z_bipush (pc := 36) F (v := 16) dX9_draw_36 (by decide) ?_
    refine z_iushr (pc := 38) F dX9_draw_38 ?_
    refine z_sipush (pc := 39) F (v := 16807) dX9_draw_39 (by decide) ?_
    refine z_gd (fun h4 => ?_)
    refine z_irem (pc := 42) F h4 dX9_draw_42 ?_
    refine z_Bi (fun x5 => ?_)
    refine z_istore (pc := 43) F (lv' := [some (.ref (zad K 21 0)), some (.int a1), some (.int a2), some (.int a3), some (.int x2), some (.int x5), none]) dX9_draw_43 (zlt rfl) rfl ?_
    refine z_aload_n (pc := 45) F dX9_draw_45 rfl ?_
    refine z_iload_n (pc := 46) F dX9_draw_46 rfl ?_
    refine z_callVi (pc := 47) (st := []) F 21 0 [.int a1] cl_RX9_150 (tX9_placeOf (zln K) s3 a1) rfl (by decide) (fun _ => ⟨_, rfl⟩) rfl (by rw [hR]; exact ⟨rfl, rfl, Nat.le_of_ble_eq_true rfl, Nat.le_of_ble_eq_true rfl⟩) rfl rfl (Nat.le_of_ble_eq_true rfl) dX9_draw_47 (fun x7 s6 => ?_)
    refine z_istore (pc := 50) F (lv' := [some (.ref (zad K 21 0)), some (.int a1), some (.int a2), some (.int a3), some (.int x2), some (.int x5), some (.int x7)]) dX9_draw_50 (zlt rfl) rfl ?_
    refine z_aload_n (pc := 52) F dX9_draw_52 rfl ?_
    refine z_iload (pc := 53) F dX9_draw_53 rfl ?_
    refine z_iload_n (pc := 55) F dX9_draw_55 rfl ?_
    refine z_iload (pc := 56) F dX9_draw_56 rfl ?_
    refine z_callVv (pc := 58) (st := []) F 21 0 [.int x7, .int a2, .int x5] cl_RX9_175 (tX9_mixes (zln K) s6 x7 a2 x5) rfl (by decide) (fun _ => ⟨_, rfl⟩) rfl (by rw [hR]; exact ⟨rfl, rfl, Nat.le_of_ble_eq_true rfl, Nat.le_of_ble_eq_true rfl⟩) rfl rfl (Nat.le_of_ble_eq_true rfl) dX9_draw_58 (fun s8 => ?_)
    refine z_aload_n (pc := 61) F dX9_draw_61 rfl ?_
    refine z_iload (pc := 62) F dX9_draw_62 rfl ?_
    refine z_iload_n (pc := 64) F dX9_draw_64 rfl ?_
    refine z_callVi (pc := 65) (st := []) F 21 0 [.int x7, .int a3] cl_RX9_179 (tX9_comes (zln K) s8 x7 a3) rfl (by decide) (fun _ => ⟨_, rfl⟩) rfl (by rw [hR]; exact ⟨rfl, rfl, Nat.le_of_ble_eq_true rfl, Nat.le_of_ble_eq_true rfl⟩) rfl rfl (Nat.le_of_ble_eq_true rfl) dX9_draw_65 (fun x10 s9 => ?_)
    refine z_pop (pc := 68) F dX9_draw_68 rfl ?_
    refine z_iload (pc := 69) F dX9_draw_69 rfl ?_
    exact z_iret (pc := 71) F E dX9_draw_71
  · refine z_iload (pc := 14) F dX9_draw_14 rfl ?_
    exact z_iret (pc := 16) F E dX9_draw_16
def fX9_isLetter (a1 : Int32) (σ : zS) : Option (Int32 × zS) := zCi (fX9_within a1 (0 : Int32) (9 : Int32) σ) (fun x2 s1 => if x2 = 0 then some ((0 : Int32), s1) else zCi (fX9_isIn (s1 21 0 0) a1 s1) (fun x4 s3 => if x4 = 0 then some ((0 : Int32), s3) else some ((1 : Int32), s3)))
abbrev rmX9_isLetter : Room := { frames := 1, cells := 0, slots := 0, locals := 22 }
set_option maxRecDepth 100000 in
set_option maxHeartbeats 4000000 in
theorem tX9_isLetter (l : Launch) (σ : zS) (a1 : Int32) : zMi l yX9_isLetter cX9_isLetter 2 (some .boolean) rmX9_isLetter (fun ad => [.ref (ad 21 0), .int a1]) σ (fX9_isLetter a1 σ) := by
  refine zMi.of RX9 (by decide +kernel) rfl (fun _ => Nat.le_of_ble_eq_true rfl) (fun _ => zcat rfl) (fun K t F hR hL E => ?_)
  show ZO K t 0 [some (.ref (zad K 21 0)), some (.int a1)] [] σ (zCi (fX9_within a1 (0 : Int32) (9 : Int32) σ) (fun x2 s1 => if x2 = 0 then some ((0 : Int32), s1) else zCi (fX9_isIn (s1 21 0 0) a1 s1) (fun x4 s3 => if x4 = 0 then some ((0 : Int32), s3) else some ((1 : Int32), s3))))
  refine z_iload_n (pc := 0) F dX9_isLetter_0 rfl ?_
  refine z_iconst (pc := 1) F (v := 0) dX9_isLetter_1 (by decide) ?_
  refine z_bipush (pc := 2) F (v := 9) dX9_isLetter_2 (by decide) ?_
  refine z_callSi (pc := 4) (st := []) F [.int a1, .int (0 : Int32), .int (9 : Int32)] cl_RX9_68 (tX9_within (zln K) σ a1 (0 : Int32) (9 : Int32)) rfl (by rw [hR]; exact ⟨rfl, rfl, Nat.le_of_ble_eq_true rfl, Nat.le_of_ble_eq_true rfl⟩) rfl rfl (Nat.le_of_ble_eq_true rfl) dX9_isLetter_4 (fun x2 s1 => ?_)
  refine z_if_eq (pc := 7) F 25 dX9_isLetter_7 (by decide) (fun h6 => ?_) (fun h6 => ?_)
  · refine z_iconst (pc := 25) F (v := 0) dX9_isLetter_25 (by decide) ?_
    exact z_zret (pc := 26) F E (by decide) dX9_isLetter_26
  · refine z_aload_n (pc := 10) F dX9_isLetter_10 rfl ?_
    refine z_get (pc := 11) F 21 0 0 (v := .int (s1 21 0 0)) (by decide) (fun _ => rfl) rfl (by decide) inlX9 lk_RX9_72 rfl dX9_isLetter_11 ?_
    refine z_iload_n (pc := 14) F dX9_isLetter_14 rfl ?_
    refine z_callSi (pc := 15) (st := []) F [.int (s1 21 0 0), .int a1] cl_RX9_75 (tX9_isIn (zln K) s1 (s1 21 0 0) a1) rfl (by rw [hR]; exact ⟨rfl, rfl, Nat.le_of_ble_eq_true rfl, Nat.le_of_ble_eq_true rfl⟩) rfl rfl (Nat.le_of_ble_eq_true rfl) dX9_isLetter_15 (fun x4 s3 => ?_)
    refine z_if_eq (pc := 18) F 25 dX9_isLetter_18 (by decide) (fun h5 => ?_) (fun h5 => ?_)
    · refine z_iconst (pc := 25) F (v := 0) dX9_isLetter_25 (by decide) ?_
      exact z_zret (pc := 26) F E (by decide) dX9_isLetter_26
    · refine z_iconst (pc := 21) F (v := 1) dX9_isLetter_21 (by decide) ?_
      refine z_goto (pc := 22) F 26 dX9_isLetter_22 (by decide) ?_
      exact z_zret (pc := 26) F E (by decide) dX9_isLetter_26
def fX9_goes_5 (a1 : Int32) (a2 : Int32) (k5_1 : Int32 → zS → Option (Int32 × zS)) : Nat → Int32 → Int32 → zS → Option (Int32 × zS)
  | 0, _, _, _ => none
  | (n5_1 + 1), v3_5_1, v4_5_1, w5_1 => if (w5_1 21 0 3) ≤ v4_5_1 then k5_1 v3_5_1 w5_1 else zIx v4_5_1 16 (zIx v3_5_1 16 (zB (zU w5_1 24 0 v3_5_1.toNatClampNeg (w5_1 24 0 v4_5_1.toNatClampNeg)) (fun s6 => zIx v4_5_1 16 (zIx v3_5_1 16 (zB (zU s6 25 0 v3_5_1.toNatClampNeg (s6 25 0 v4_5_1.toNatClampNeg)) (fun s9 => zIx v4_5_1 16 (if (s9 24 0 v4_5_1.toNatClampNeg) = a1 then if a2 = (-9 : Int32) then zB (v3_5_1 + (0 : Int32)) (fun x13 => zB (v4_5_1 + 1) (fun x14 => fX9_goes_5 a1 a2 k5_1 n5_1 x13 x14 s9)) else zIx v4_5_1 16 (if (s9 25 0 v4_5_1.toNatClampNeg) = a2 then zB (v3_5_1 + (0 : Int32)) (fun x18 => zB (v4_5_1 + 1) (fun x19 => fX9_goes_5 a1 a2 k5_1 n5_1 x18 x19 s9)) else zB (v3_5_1 + (1 : Int32)) (fun x16 => zB (v4_5_1 + 1) (fun x17 => fX9_goes_5 a1 a2 k5_1 n5_1 x16 x17 s9))) else zB (v3_5_1 + (1 : Int32)) (fun x11 => zB (v4_5_1 + 1) (fun x12 => fX9_goes_5 a1 a2 k5_1 n5_1 x11 x12 s9)))))))))
def fX9_goes (a1 : Int32) (a2 : Int32) (σ : zS) : Option (Int32 × zS) := fX9_goes_5 a1 a2 (fun (u3_5_1 : Int32) (y5_1 : zS) => (zB ((y5_1 21 0 3) - u3_5_1) (fun x2 => zB (zU y5_1 21 0 3 u3_5_1) (fun s3 => some (x2, s3))) : Option (Int32 × zS))) zN (0 : Int32) (0 : Int32) σ
abbrev rmX9_goes : Room := { frames := 0, cells := 0, slots := 0, locals := 0 }
set_option maxRecDepth 100000 in
set_option maxHeartbeats 4000000 in
theorem tX9_goes (l : Launch) (σ : zS) (a1 : Int32) (a2 : Int32) : zMi l yX9_goes cX9_goes 5 (some .int) rmX9_goes (fun ad => [.ref (ad 21 0), .int a1, .int a2]) σ (fX9_goes a1 a2 σ) := by
  refine zMi.of RX9 (by decide +kernel) rfl (fun _ => Nat.le_of_ble_eq_true rfl) (fun _ => zcat rfl) (fun K t F hR hL E => ?_)
  show ZO K t 0 [some (.ref (zad K 21 0)), some (.int a1), some (.int a2), none, none] [] σ (fX9_goes_5 a1 a2 (fun (u3_5_1 : Int32) (y5_1 : zS) => (zB ((y5_1 21 0 3) - u3_5_1) (fun x2 => zB (zU y5_1 21 0 3 u3_5_1) (fun s3 => some (x2, s3))) : Option (Int32 × zS))) zN (0 : Int32) (0 : Int32) σ)
  refine z_iconst (pc := 0) F (v := 0) dX9_goes_0 (by decide) ?_
  refine z_istore_n (pc := 1) F (lv' := [some (.ref (zad K 21 0)), some (.int a1), some (.int a2), some (.int (0 : Int32)), none]) dX9_goes_1 (zlt rfl) rfl ?_
  refine z_iconst (pc := 2) F (v := 0) dX9_goes_2 (by decide) ?_
  refine z_istore (pc := 3) F (lv' := [some (.ref (zad K 21 0)), some (.int a1), some (.int a2), some (.int (0 : Int32)), some (.int (0 : Int32))]) dX9_goes_3 (zlt rfl) rfl ?_
  have hk5_1 : ∀ (u3_5_1 : Int32) (y5_1 : zS), ZO K t 82 [some (.ref (zad K 21 0)), none, none, some (.int u3_5_1), none] [] y5_1 ((fun (u3_5_1 : Int32) (y5_1 : zS) => (zB ((y5_1 21 0 3) - u3_5_1) (fun x2 => zB (zU y5_1 21 0 3 u3_5_1) (fun s3 => some (x2, s3))) : Option (Int32 × zS))) u3_5_1 y5_1) := by
    intro u3_5_1 y5_1
    show ZO K t 82 [some (.ref (zad K 21 0)), none, none, some (.int u3_5_1), none] [] y5_1 (zB ((y5_1 21 0 3) - u3_5_1) (fun x2 => zB (zU y5_1 21 0 3 u3_5_1) (fun s3 => some (x2, s3))))
    refine z_aload_n (pc := 82) F dX9_goes_82 rfl ?_
    refine z_get (pc := 83) F 21 0 3 (v := .int (y5_1 21 0 3)) (by decide) (fun _ => rfl) rfl (by decide) inlX9 lk_RX9_79 rfl dX9_goes_83 ?_
    refine z_iload_n (pc := 86) F dX9_goes_86 rfl ?_
    refine z_isub (pc := 87) F dX9_goes_87 ?_
    refine z_Bi (fun x2 => ?_)
    refine z_istore (pc := 88) F (lv' := [some (.ref (zad K 21 0)), none, none, some (.int u3_5_1), some (.int x2)]) dX9_goes_88 (zlt rfl) rfl ?_
    refine z_aload_n (pc := 90) F dX9_goes_90 rfl ?_
    refine z_iload_n (pc := 91) F dX9_goes_91 rfl ?_
    refine z_put (pc := 92) F 21 0 3 tyX9 tyX9_ok nmX9 (by decide) (fun _ => rfl) rfl (by decide) inlX9 lk_RX9_79 rfl (by decide +kernel) (fun _ => Nat.le_of_ble_eq_true rfl) (fun _ => rfl) dX9_goes_92 (fun s3 => ?_)
    refine z_iload (pc := 95) F dX9_goes_95 rfl ?_
    exact z_iret (pc := 97) F E dX9_goes_97
  have L5_1 : ∀ (n5_1 : Nat) (v3_5_1 : Int32) (v4_5_1 : Int32) (w5_1 : zS), ZO K t 5 [some (.ref (zad K 21 0)), some (.int a1), some (.int a2), some (.int v3_5_1), some (.int v4_5_1)] [] w5_1 (fX9_goes_5 a1 a2 (fun (u3_5_1 : Int32) (y5_1 : zS) => (zB ((y5_1 21 0 3) - u3_5_1) (fun x2 => zB (zU y5_1 21 0 3 u3_5_1) (fun s3 => some (x2, s3))) : Option (Int32 × zS))) n5_1 v3_5_1 v4_5_1 w5_1) := by
    revert hk5_1; generalize (fun (u3_5_1 : Int32) (y5_1 : zS) => (zB ((y5_1 21 0 3) - u3_5_1) (fun x2 => zB (zU y5_1 21 0 3 u3_5_1) (fun s3 => some (x2, s3))) : Option (Int32 × zS))) = k5_1; intro hk5_1
    intro n5_1
    induction n5_1 with
    | zero => intro v3_5_1 v4_5_1 w5_1; exact z_none
    | succ n5_1 ih5_1 =>
      intro v3_5_1 v4_5_1 w5_1
      show ZO K t 5 [some (.ref (zad K 21 0)), some (.int a1), some (.int a2), some (.int v3_5_1), some (.int v4_5_1)] [] w5_1 (if (w5_1 21 0 3) ≤ v4_5_1 then k5_1 v3_5_1 w5_1 else zIx v4_5_1 16 (zIx v3_5_1 16 (zB (zU w5_1 24 0 v3_5_1.toNatClampNeg (w5_1 24 0 v4_5_1.toNatClampNeg)) (fun s6 => zIx v4_5_1 16 (zIx v3_5_1 16 (zB (zU s6 25 0 v3_5_1.toNatClampNeg (s6 25 0 v4_5_1.toNatClampNeg)) (fun s9 => zIx v4_5_1 16 (if (s9 24 0 v4_5_1.toNatClampNeg) = a1 then if a2 = (-9 : Int32) then zB (v3_5_1 + (0 : Int32)) (fun x13 => zB (v4_5_1 + 1) (fun x14 => fX9_goes_5 a1 a2 k5_1 n5_1 x13 x14 s9)) else zIx v4_5_1 16 (if (s9 25 0 v4_5_1.toNatClampNeg) = a2 then zB (v3_5_1 + (0 : Int32)) (fun x18 => zB (v4_5_1 + 1) (fun x19 => fX9_goes_5 a1 a2 k5_1 n5_1 x18 x19 s9)) else zB (v3_5_1 + (1 : Int32)) (fun x16 => zB (v4_5_1 + 1) (fun x17 => fX9_goes_5 a1 a2 k5_1 n5_1 x16 x17 s9))) else zB (v3_5_1 + (1 : Int32)) (fun x11 => zB (v4_5_1 + 1) (fun x12 => fX9_goes_5 a1 a2 k5_1 n5_1 x11 x12 s9))))))))))
      refine z_iload (pc := 5) F dX9_goes_5 rfl ?_
      refine z_aload_n (pc := 7) F dX9_goes_7 rfl ?_
      refine z_get (pc := 8) F 21 0 3 (v := .int (w5_1 21 0 3)) (by decide) (fun _ => rfl) rfl (by decide) inlX9 lk_RX9_79 rfl dX9_goes_8 ?_
      refine z_icmp_ge (pc := 11) F 82 dX9_goes_11 (by decide) (fun h23 => ?_) (fun h23 => ?_)
      · refine z_wk [true, false, false, true, false] (lv' := [some (.ref (zad K 21 0)), none, none, some (.int v3_5_1), none]) rfl ?_
        exact hk5_1 v3_5_1 w5_1
      · refine z_aload_n (pc := 14) F dX9_goes_14 rfl ?_
        refine z_get (pc := 15) F 21 0 4 (v := .ref (zad K 24 0)) (by decide) (fun _ => rfl) rfl (by decide) inlX9 lk_RX9_16 rfl dX9_goes_15 ?_
        refine z_iload_n (pc := 18) F dX9_goes_18 rfl ?_
        refine z_aload_n (pc := 19) F dX9_goes_19 rfl ?_
        refine z_get (pc := 20) F 21 0 4 (v := .ref (zad K 24 0)) (by decide) (fun _ => rfl) rfl (by decide) inlX9 lk_RX9_16 rfl dX9_goes_20 ?_
        refine z_iload (pc := 23) F dX9_goes_23 rfl ?_
        refine z_ix (fun h4 => ?_)
        refine z_iald (pc := 25) F 24 0 (by decide) (fun _ => rfl) h4 dX9_goes_25 ?_
        refine z_ix (fun h5 => ?_)
        refine z_iast (pc := 26) F 24 0 (by decide) (fun _ _ => rfl) h5 dX9_goes_26 (fun s6 => ?_)
        refine z_aload_n (pc := 27) F dX9_goes_27 rfl ?_
        refine z_get (pc := 28) F 21 0 5 (v := .ref (zad K 25 0)) (by decide) (fun _ => rfl) rfl (by decide) inlX9 lk_RX9_19 rfl dX9_goes_28 ?_
        refine z_iload_n (pc := 31) F dX9_goes_31 rfl ?_
        refine z_aload_n (pc := 32) F dX9_goes_32 rfl ?_
        refine z_get (pc := 33) F 21 0 5 (v := .ref (zad K 25 0)) (by decide) (fun _ => rfl) rfl (by decide) inlX9 lk_RX9_19 rfl dX9_goes_33 ?_
        refine z_iload (pc := 36) F dX9_goes_36 rfl ?_
        refine z_ix (fun h7 => ?_)
        refine z_iald (pc := 38) F 25 0 (by decide) (fun _ => rfl) h7 dX9_goes_38 ?_
        refine z_ix (fun h8 => ?_)
        refine z_iast (pc := 39) F 25 0 (by decide) (fun _ _ => rfl) h8 dX9_goes_39 (fun s9 => ?_)
        refine z_iload_n (pc := 40) F dX9_goes_40 rfl ?_
        refine z_aload_n (pc := 41) F dX9_goes_41 rfl ?_
        refine z_get (pc := 42) F 21 0 4 (v := .ref (zad K 24 0)) (by decide) (fun _ => rfl) rfl (by decide) inlX9 lk_RX9_16 rfl dX9_goes_42 ?_
        refine z_iload (pc := 45) F dX9_goes_45 rfl ?_
        refine z_ix (fun h10 => ?_)
        refine z_iald (pc := 47) F 24 0 (by decide) (fun _ => rfl) h10 dX9_goes_47 ?_
        refine z_iload_n (pc := 48) F dX9_goes_48 rfl ?_
        refine z_icmp_ne (pc := 49) F 73 dX9_goes_49 (by decide) (fun h22 => ?_) (fun h22 => ?_)
        · refine z_iconst (pc := 73) F (v := 1) dX9_goes_73 (by decide) ?_
          refine z_iadd (pc := 74) F dX9_goes_74 ?_
          refine z_Bi (fun x11 => ?_)
          refine z_istore_n (pc := 75) F (lv' := [some (.ref (zad K 21 0)), some (.int a1), some (.int a2), some (.int x11), some (.int v4_5_1)]) dX9_goes_75 (zlt rfl) rfl ?_
          refine z_iincB (pc := 76) F (lv' := fun x12 => [some (.ref (zad K 21 0)), some (.int a1), some (.int a2), some (.int x11), some (.int x12)]) dX9_goes_76 rfl rfl (fun _ => rfl) (fun x12 => ?_)
          refine z_goto (pc := 79) F 5 dX9_goes_79 (by decide) ?_
          exact ih5_1 x11 x12 s9
        · refine z_iload_n (pc := 52) F dX9_goes_52 rfl ?_
          refine z_bipush (pc := 53) F (v := -9) dX9_goes_53 (by decide) ?_
          refine z_icmp_eq (pc := 55) F 69 dX9_goes_55 (by decide) (fun h21 => ?_) (fun h21 => ?_)
          · refine z_iconst (pc := 69) F (v := 0) dX9_goes_69 (by decide) ?_
            refine z_goto (pc := 70) F 74 dX9_goes_70 (by decide) ?_
            refine z_iadd (pc := 74) F dX9_goes_74 ?_
            refine z_Bi (fun x13 => ?_)
            refine z_istore_n (pc := 75) F (lv' := [some (.ref (zad K 21 0)), some (.int a1), some (.int a2), some (.int x13), some (.int v4_5_1)]) dX9_goes_75 (zlt rfl) rfl ?_
            refine z_iincB (pc := 76) F (lv' := fun x14 => [some (.ref (zad K 21 0)), some (.int a1), some (.int a2), some (.int x13), some (.int x14)]) dX9_goes_76 rfl rfl (fun _ => rfl) (fun x14 => ?_)
            refine z_goto (pc := 79) F 5 dX9_goes_79 (by decide) ?_
            exact ih5_1 x13 x14 s9
          · refine z_aload_n (pc := 58) F dX9_goes_58 rfl ?_
            refine z_get (pc := 59) F 21 0 5 (v := .ref (zad K 25 0)) (by decide) (fun _ => rfl) rfl (by decide) inlX9 lk_RX9_19 rfl dX9_goes_59 ?_
            refine z_iload (pc := 62) F dX9_goes_62 rfl ?_
            refine z_ix (fun h15 => ?_)
            refine z_iald (pc := 64) F 25 0 (by decide) (fun _ => rfl) h15 dX9_goes_64 ?_
            refine z_iload_n (pc := 65) F dX9_goes_65 rfl ?_
            refine z_icmp_ne (pc := 66) F 73 dX9_goes_66 (by decide) (fun h20 => ?_) (fun h20 => ?_)
            · refine z_iconst (pc := 73) F (v := 1) dX9_goes_73 (by decide) ?_
              refine z_iadd (pc := 74) F dX9_goes_74 ?_
              refine z_Bi (fun x16 => ?_)
              refine z_istore_n (pc := 75) F (lv' := [some (.ref (zad K 21 0)), some (.int a1), some (.int a2), some (.int x16), some (.int v4_5_1)]) dX9_goes_75 (zlt rfl) rfl ?_
              refine z_iincB (pc := 76) F (lv' := fun x17 => [some (.ref (zad K 21 0)), some (.int a1), some (.int a2), some (.int x16), some (.int x17)]) dX9_goes_76 rfl rfl (fun _ => rfl) (fun x17 => ?_)
              refine z_goto (pc := 79) F 5 dX9_goes_79 (by decide) ?_
              exact ih5_1 x16 x17 s9
            · refine z_iconst (pc := 69) F (v := 0) dX9_goes_69 (by decide) ?_
              refine z_goto (pc := 70) F 74 dX9_goes_70 (by decide) ?_
              refine z_iadd (pc := 74) F dX9_goes_74 ?_
              refine z_Bi (fun x18 => ?_)
              refine z_istore_n (pc := 75) F (lv' := [some (.ref (zad K 21 0)), some (.int a1), some (.int a2), some (.int x18), some (.int v4_5_1)]) dX9_goes_75 (zlt rfl) rfl ?_
              refine z_iincB (pc := 76) F (lv' := fun x19 => [some (.ref (zad K 21 0)), some (.int a1), some (.int a2), some (.int x18), some (.int x19)]) dX9_goes_76 rfl rfl (fun _ => rfl) (fun x19 => ?_)
              refine z_goto (pc := 79) F 5 dX9_goes_79 (by decide) ?_
              exact ih5_1 x18 x19 s9
  exact L5_1 zN (0 : Int32) (0 : Int32) σ
def fX9_drop_26 (a1 : Int32) (k26_4 : zS → Option (Int32 × zS)) : Nat → Int32 → zS → Option (Int32 × zS)
  | 0, _, _ => none
  | (n26_4 + 1), v2_26_4, w26_4 => if (8 : Int32) ≤ v2_26_4 then k26_4 w26_4 else zIx v2_26_4 8 (zIx v2_26_4 8 (zB (zU w26_4 23 0 v2_26_4.toNatClampNeg ((w26_4 23 0 v2_26_4.toNatClampNeg) &&& (((1 : Int32) <<< (a1 &&& 31)) ^^^ (-1 : Int32)))) (fun s9 => zB (v2_26_4 + 1) (fun x10 => fX9_drop_26 a1 k26_4 n26_4 x10 s9))))
def fX9_drop (a1 : Int32) (σ : zS) : Option (Int32 × zS) := zCi (fX9_isLetter a1 σ) (fun x2 s1 => if x2 = 0 then some ((-1 : Int32), s1) else zB (zU s1 21 0 0 ((s1 21 0 0) &&& (((1 : Int32) <<< (a1 &&& 31)) ^^^ (-1 : Int32)))) (fun s3 => fX9_drop_26 a1 (fun (y26_4 : zS) => (zCi (fX9_goes a1 (-9 : Int32) y26_4) (fun x6 s5 => some (x6, s5)) : Option (Int32 × zS))) zN (0 : Int32) s3))
abbrev rmX9_drop : Room := { frames := 2, cells := 0, slots := 0, locals := 43 }
set_option maxRecDepth 100000 in
set_option maxHeartbeats 4000000 in
theorem tX9_drop (l : Launch) (σ : zS) (a1 : Int32) : zMi l yX9_drop cX9_drop 3 (some .int) rmX9_drop (fun ad => [.ref (ad 21 0), .int a1]) σ (fX9_drop a1 σ) := by
  refine zMi.of RX9 (by decide +kernel) rfl (fun _ => Nat.le_of_ble_eq_true rfl) (fun _ => zcat rfl) (fun K t F hR hL E => ?_)
  show ZO K t 0 [some (.ref (zad K 21 0)), some (.int a1), none] [] σ (zCi (fX9_isLetter a1 σ) (fun x2 s1 => if x2 = 0 then some ((-1 : Int32), s1) else zB (zU s1 21 0 0 ((s1 21 0 0) &&& (((1 : Int32) <<< (a1 &&& 31)) ^^^ (-1 : Int32)))) (fun s3 => fX9_drop_26 a1 (fun (y26_4 : zS) => (zCi (fX9_goes a1 (-9 : Int32) y26_4) (fun x6 s5 => some (x6, s5)) : Option (Int32 × zS))) zN (0 : Int32) s3)))
  refine z_aload_n (pc := 0) F dX9_drop_0 rfl ?_
  refine z_iload_n (pc := 1) F dX9_drop_1 rfl ?_
  refine z_callVi (pc := 2) (st := []) F 21 0 [.int a1] cl_RX9_82 (tX9_isLetter (zln K) σ a1) rfl (by decide) (fun _ => ⟨_, rfl⟩) rfl (by rw [hR]; exact ⟨rfl, rfl, Nat.le_of_ble_eq_true rfl, Nat.le_of_ble_eq_true rfl⟩) rfl rfl (Nat.le_of_ble_eq_true rfl) dX9_drop_2 (fun x2 s1 => ?_)
  refine z_if_ne (pc := 5) F 10 dX9_drop_5 (by decide) (fun h12 => ?_) (fun h12 => ?_)
  · refine z_aload_n (pc := 10) F dX9_drop_10 rfl ?_
    refine z_dup (pc := 11) F dX9_drop_11 rfl ?_
    refine z_get (pc := 12) F 21 0 0 (v := .int (s1 21 0 0)) (by decide) (fun _ => rfl) rfl (by decide) inlX9 lk_RX9_72 rfl dX9_drop_12 ?_
    refine z_iconst (pc := 15) F (v := 1) dX9_drop_15 (by decide) ?_
    refine z_iload_n (pc := 16) F dX9_drop_16 rfl ?_
    refine z_ishl (pc := 17) F dX9_drop_17 ?_
    refine z_iconst (pc := 18) F (v := -1) dX9_drop_18 (by decide) ?_
    refine z_ixor (pc := 19) F dX9_drop_19 ?_
    refine z_iand (pc := 20) F dX9_drop_20 ?_
    refine z_put (pc := 21) F 21 0 0 tyX9 tyX9_ok nmX9 (by decide) (fun _ => rfl) rfl (by decide) inlX9 lk_RX9_72 rfl (by decide +kernel) (fun _ => Nat.le_of_ble_eq_true rfl) (fun _ => rfl) dX9_drop_21 (fun s3 => ?_)
    refine z_iconst (pc := 24) F (v := 0) dX9_drop_24 (by decide) ?_
    refine z_istore_n (pc := 25) F (lv' := [some (.ref (zad K 21 0)), some (.int a1), some (.int (0 : Int32))]) dX9_drop_25 (zlt rfl) rfl ?_
    have hk26_4 : ∀ (y26_4 : zS), ZO K t 52 [some (.ref (zad K 21 0)), some (.int a1), none] [] y26_4 ((fun (y26_4 : zS) => (zCi (fX9_goes a1 (-9 : Int32) y26_4) (fun x6 s5 => some (x6, s5)) : Option (Int32 × zS))) y26_4) := by
      intro y26_4
      show ZO K t 52 [some (.ref (zad K 21 0)), some (.int a1), none] [] y26_4 (zCi (fX9_goes a1 (-9 : Int32) y26_4) (fun x6 s5 => some (x6, s5)))
      refine z_aload_n (pc := 52) F dX9_drop_52 rfl ?_
      refine z_iload_n (pc := 53) F dX9_drop_53 rfl ?_
      refine z_bipush (pc := 54) F (v := -9) dX9_drop_54 (by decide) ?_
      refine z_callVi (pc := 56) (st := []) F 21 0 [.int a1, .int (-9 : Int32)] cl_RX9_86 (tX9_goes (zln K) y26_4 a1 (-9 : Int32)) rfl (by decide) (fun _ => ⟨_, rfl⟩) rfl (by rw [hR]; exact ⟨rfl, rfl, Nat.le_of_ble_eq_true rfl, Nat.le_of_ble_eq_true rfl⟩) rfl rfl (Nat.le_of_ble_eq_true rfl) dX9_drop_56 (fun x6 s5 => ?_)
      exact z_iret (pc := 59) F E dX9_drop_59
    have L26_4 : ∀ (n26_4 : Nat) (v2_26_4 : Int32) (w26_4 : zS), ZO K t 26 [some (.ref (zad K 21 0)), some (.int a1), some (.int v2_26_4)] [] w26_4 (fX9_drop_26 a1 (fun (y26_4 : zS) => (zCi (fX9_goes a1 (-9 : Int32) y26_4) (fun x6 s5 => some (x6, s5)) : Option (Int32 × zS))) n26_4 v2_26_4 w26_4) := by
      revert hk26_4; generalize (fun (y26_4 : zS) => (zCi (fX9_goes a1 (-9 : Int32) y26_4) (fun x6 s5 => some (x6, s5)) : Option (Int32 × zS))) = k26_4; intro hk26_4
      intro n26_4
      induction n26_4 with
      | zero => intro v2_26_4 w26_4; exact z_none
      | succ n26_4 ih26_4 =>
        intro v2_26_4 w26_4
        show ZO K t 26 [some (.ref (zad K 21 0)), some (.int a1), some (.int v2_26_4)] [] w26_4 (if (8 : Int32) ≤ v2_26_4 then k26_4 w26_4 else zIx v2_26_4 8 (zIx v2_26_4 8 (zB (zU w26_4 23 0 v2_26_4.toNatClampNeg ((w26_4 23 0 v2_26_4.toNatClampNeg) &&& (((1 : Int32) <<< (a1 &&& 31)) ^^^ (-1 : Int32)))) (fun s9 => zB (v2_26_4 + 1) (fun x10 => fX9_drop_26 a1 k26_4 n26_4 x10 s9)))))
        refine z_iload_n (pc := 26) F dX9_drop_26 rfl ?_
        refine z_bipush (pc := 27) F (v := 8) dX9_drop_27 (by decide) ?_
        refine z_icmp_ge (pc := 29) F 52 dX9_drop_29 (by decide) (fun h11 => ?_) (fun h11 => ?_)
        · refine z_wk [true, true, false] (lv' := [some (.ref (zad K 21 0)), some (.int a1), none]) rfl ?_
          exact hk26_4  w26_4
        · refine z_aload_n (pc := 32) F dX9_drop_32 rfl ?_
          refine z_get (pc := 33) F 21 0 2 (v := .ref (zad K 23 0)) (by decide) (fun _ => rfl) rfl (by decide) inlX9 lk_RX9_13 rfl dX9_drop_33 ?_
          refine z_iload_n (pc := 36) F dX9_drop_36 rfl ?_
          refine z_dup2 (pc := 37) F dX9_drop_37 rfl rfl ?_
          refine z_ix (fun h7 => ?_)
          refine z_iald (pc := 38) F 23 0 (by decide) (fun _ => rfl) h7 dX9_drop_38 ?_
          refine z_iconst (pc := 39) F (v := 1) dX9_drop_39 (by decide) ?_
          refine z_iload_n (pc := 40) F dX9_drop_40 rfl ?_
          refine z_ishl (pc := 41) F dX9_drop_41 ?_
          refine z_iconst (pc := 42) F (v := -1) dX9_drop_42 (by decide) ?_
          refine z_ixor (pc := 43) F dX9_drop_43 ?_
          refine z_iand (pc := 44) F dX9_drop_44 ?_
          refine z_ix (fun h8 => ?_)
          refine z_iast (pc := 45) F 23 0 (by decide) (fun _ _ => rfl) h8 dX9_drop_45 (fun s9 => ?_)
          refine z_iincB (pc := 46) F (lv' := fun x10 => [some (.ref (zad K 21 0)), some (.int a1), some (.int x10)]) dX9_drop_46 rfl rfl (fun _ => rfl) (fun x10 => ?_)
          refine z_goto (pc := 49) F 26 dX9_drop_49 (by decide) ?_
          exact ih26_4 x10 s9
    exact L26_4 zN (0 : Int32) s3
  · refine z_iconst (pc := 8) F (v := -1) dX9_drop_8 (by decide) ?_
    exact z_iret (pc := 9) F E dX9_drop_9
def fX9_entry (a1 : Int32) (a2 : Int32) (σ : zS) : Option (Int32 × zS) := zCi (fX9_within a1 (0 : Int32) ((σ 21 0 3) - (1 : Int32)) σ) (fun x2 s1 => if x2 = 0 then some ((-1 : Int32), s1) else if a2 = 0 then zIx a1 16 (some (s1 24 0 a1.toNatClampNeg, s1)) else if a2 = (1 : Int32) then zIx a1 16 (some (s1 25 0 a1.toNatClampNeg, s1)) else some ((-2 : Int32), s1))
abbrev rmX9_entry : Room := { frames := 1, cells := 0, slots := 0, locals := 22 }
set_option maxRecDepth 100000 in
set_option maxHeartbeats 4000000 in
theorem tX9_entry (l : Launch) (σ : zS) (a1 : Int32) (a2 : Int32) : zMi l yX9_entry cX9_entry 3 (some .int) rmX9_entry (fun ad => [.ref (ad 21 0), .int a1, .int a2]) σ (fX9_entry a1 a2 σ) := by
  refine zMi.of RX9 (by decide +kernel) rfl (fun _ => Nat.le_of_ble_eq_true rfl) (fun _ => zcat rfl) (fun K t F hR hL E => ?_)
  show ZO K t 0 [some (.ref (zad K 21 0)), some (.int a1), some (.int a2)] [] σ (zCi (fX9_within a1 (0 : Int32) ((σ 21 0 3) - (1 : Int32)) σ) (fun x2 s1 => if x2 = 0 then some ((-1 : Int32), s1) else if a2 = 0 then zIx a1 16 (some (s1 24 0 a1.toNatClampNeg, s1)) else if a2 = (1 : Int32) then zIx a1 16 (some (s1 25 0 a1.toNatClampNeg, s1)) else some ((-2 : Int32), s1)))
  refine z_iload_n (pc := 0) F dX9_entry_0 rfl ?_
  refine z_iconst (pc := 1) F (v := 0) dX9_entry_1 (by decide) ?_
  refine z_aload_n (pc := 2) F dX9_entry_2 rfl ?_
  refine z_get (pc := 3) F 21 0 3 (v := .int (σ 21 0 3)) (by decide) (fun _ => rfl) rfl (by decide) inlX9 lk_RX9_79 rfl dX9_entry_3 ?_
  refine z_iconst (pc := 6) F (v := 1) dX9_entry_6 (by decide) ?_
  refine z_isub (pc := 7) F dX9_entry_7 ?_
  refine z_callSi (pc := 8) (st := []) F [.int a1, .int (0 : Int32), .int ((σ 21 0 3) - (1 : Int32))] cl_RX9_68 (tX9_within (zln K) σ a1 (0 : Int32) ((σ 21 0 3) - (1 : Int32))) rfl (by rw [hR]; exact ⟨rfl, rfl, Nat.le_of_ble_eq_true rfl, Nat.le_of_ble_eq_true rfl⟩) rfl rfl (Nat.le_of_ble_eq_true rfl) dX9_entry_8 (fun x2 s1 => ?_)
  refine z_if_ne (pc := 11) F 16 dX9_entry_11 (by decide) (fun h7 => ?_) (fun h7 => ?_)
  · refine z_iload_n (pc := 16) F dX9_entry_16 rfl ?_
    refine z_if_ne (pc := 17) F 29 dX9_entry_17 (by decide) (fun h6 => ?_) (fun h6 => ?_)
    · refine z_iload_n (pc := 29) F dX9_entry_29 rfl ?_
      refine z_iconst (pc := 30) F (v := 1) dX9_entry_30 (by decide) ?_
      refine z_icmp_ne (pc := 31) F 43 dX9_entry_31 (by decide) (fun h4 => ?_) (fun h4 => ?_)
      · refine z_bipush (pc := 43) F (v := -2) dX9_entry_43 (by decide) ?_
        exact z_iret (pc := 45) F E dX9_entry_45
      · refine z_aload_n (pc := 34) F dX9_entry_34 rfl ?_
        refine z_get (pc := 35) F 21 0 5 (v := .ref (zad K 25 0)) (by decide) (fun _ => rfl) rfl (by decide) inlX9 lk_RX9_19 rfl dX9_entry_35 ?_
        refine z_iload_n (pc := 38) F dX9_entry_38 rfl ?_
        refine z_ix (fun h3 => ?_)
        refine z_iald (pc := 39) F 25 0 (by decide) (fun _ => rfl) h3 dX9_entry_39 ?_
        refine z_goto (pc := 40) F 45 dX9_entry_40 (by decide) ?_
        exact z_iret (pc := 45) F E dX9_entry_45
    · refine z_aload_n (pc := 20) F dX9_entry_20 rfl ?_
      refine z_get (pc := 21) F 21 0 4 (v := .ref (zad K 24 0)) (by decide) (fun _ => rfl) rfl (by decide) inlX9 lk_RX9_16 rfl dX9_entry_21 ?_
      refine z_iload_n (pc := 24) F dX9_entry_24 rfl ?_
      refine z_ix (fun h5 => ?_)
      refine z_iald (pc := 25) F 24 0 (by decide) (fun _ => rfl) h5 dX9_entry_25 ?_
      refine z_goto (pc := 26) F 45 dX9_entry_26 (by decide) ?_
      exact z_iret (pc := 45) F E dX9_entry_45
  · refine z_iconst (pc := 14) F (v := -1) dX9_entry_14 (by decide) ?_
    exact z_iret (pc := 15) F E dX9_entry_15
