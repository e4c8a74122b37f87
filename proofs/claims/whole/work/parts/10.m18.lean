def fX9_text_28 (a1 : Int32) (k28_6 : zS → Option (Int32 × zS)) : Nat → Int32 → zS → Option (Int32 × zS)
  | 0, _, _ => none
  | (n28_6 + 1), v3_28_6, w28_6 => if (10 : Int32) ≤ v3_28_6 then k28_6 w28_6 else zCi (fX9_isIn a1 v3_28_6 w28_6) (fun x14 s13 => if x14 = 0 then zB (v3_28_6 + 1) (fun x15 => fX9_text_28 a1 k28_6 n28_6 x15 s13) else if (s13 21 0 26) ≤ 0 then zCv (fX9_writes ((48 : Int32) + v3_28_6) s13) (fun s16 => zB (v3_28_6 + 1) (fun x17 => fX9_text_28 a1 k28_6 n28_6 x17 s16)) else zCv (fX9_writes (43 : Int32) s13) (fun s18 => zCv (fX9_writes ((48 : Int32) + v3_28_6) s18) (fun s19 => zB (v3_28_6 + 1) (fun x20 => fX9_text_28 a1 k28_6 n28_6 x20 s19))))
def fX9_text (a1 : Int32) (a2 : Int32) (σ : zS) : Option (Int32 × zS) := zCi (fX9_isSum a1 σ) (fun x2 s1 => if x2 = 0 then some ((-2 : Int32), s1) else zCi (fX9_within a2 (-1 : Int32) (39 : Int32) s1) (fun x4 s3 => if x4 = 0 then some ((-2 : Int32), s3) else zB (zU s3 21 0 26 (0 : Int32)) (fun s5 => fX9_text_28 a1 (fun (y28_6 : zS) => (zCv (fX9_writes (32 : Int32) y28_6) (fun s7 => zCi (fX9_bodyBy a1 s7) (fun x9 s8 => zCv (fX9_writesNumber x9 s8) (fun s10 => zCi (fX9_signAt a2 s10) (fun x12 s11 => some (x12, s11))))) : Option (Int32 × zS))) zN (0 : Int32) s5)))
abbrev rmX9_text : Room := { frames := 2, cells := 0, slots := 0, locals := 44 }
set_option maxRecDepth 100000 in
set_option maxHeartbeats 4000000 in
theorem tX9_text (l : Launch) (σ : zS) (a1 : Int32) (a2 : Int32) : zMi l yX9_text cX9_text 4 (some .int) rmX9_text (fun ad => [.ref (ad 21 0), .int a1, .int a2]) σ (fX9_text a1 a2 σ) := by
  refine zMi.of RX9 (by decide +kernel) rfl (fun _ => Nat.le_of_ble_eq_true rfl) (fun _ => zcat rfl) (fun K t F hR hL E => ?_)
  show ZO K t 0 [some (.ref (zad K 21 0)), some (.int a1), some (.int a2), none] [] σ (zCi (fX9_isSum a1 σ) (fun x2 s1 => if x2 = 0 then some ((-2 : Int32), s1) else zCi (fX9_within a2 (-1 : Int32) (39 : Int32) s1) (fun x4 s3 => if x4 = 0 then some ((-2 : Int32), s3) else zB (zU s3 21 0 26 (0 : Int32)) (fun s5 => fX9_text_28 a1 (fun (y28_6 : zS) => (zCv (fX9_writes (32 : Int32) y28_6) (fun s7 => zCi (fX9_bodyBy a1 s7) (fun x9 s8 => zCv (fX9_writesNumber x9 s8) (fun s10 => zCi (fX9_signAt a2 s10) (fun x12 s11 => some (x12, s11))))) : Option (Int32 × zS))) zN (0 : Int32) s5))))
  refine z_aload_n (pc := 0) F dX9_text_0 rfl ?_
  refine z_iload_n (pc := 1) F dX9_text_1 rfl ?_
  refine z_callVi (pc := 2) (st := []) F 21 0 [.int a1] cl_RX9_106 (tX9_isSum (zln K) σ a1) rfl (by decide) (fun _ => ⟨_, rfl⟩) rfl (by rw [hR]; exact ⟨rfl, rfl, Nat.le_of_ble_eq_true rfl, Nat.le_of_ble_eq_true rfl⟩) rfl rfl (Nat.le_of_ble_eq_true rfl) dX9_text_2 (fun x2 s1 => ?_)
  refine z_if_eq (pc := 5) F 18 dX9_text_5 (by decide) (fun h25 => ?_) (fun h25 => ?_)
  · refine z_bipush (pc := 18) F (v := -2) dX9_text_18 (by decide) ?_
    exact z_iret (pc := 20) F E dX9_text_20
  · refine z_iload_n (pc := 8) F dX9_text_8 rfl ?_
    refine z_iconst (pc := 9) F (v := -1) dX9_text_9 (by decide) ?_
    refine z_bipush (pc := 10) F (v := 39) dX9_text_10 (by decide) ?_
    refine z_callSi (pc := 12) (st := []) F [.int a2, .int (-1 : Int32), .int (39 : Int32)] cl_RX9_68 (tX9_within (zln K) s1 a2 (-1 : Int32) (39 : Int32)) rfl (by rw [hR]; exact ⟨rfl, rfl, Nat.le_of_ble_eq_true rfl, Nat.le_of_ble_eq_true rfl⟩) rfl rfl (Nat.le_of_ble_eq_true rfl) dX9_text_12 (fun x4 s3 => ?_)
    refine z_if_ne (pc := 15) F 21 dX9_text_15 (by decide) (fun h24 => ?_) (fun h24 => ?_)
    · refine z_aload_n (pc := 21) F dX9_text_21 rfl ?_
      refine z_iconst (pc := 22) F (v := 0) dX9_text_22 (by decide) ?_
      refine z_put (pc := 23) F 21 0 26 tyX9 tyX9_ok nmX9 (by decide) (fun _ => rfl) rfl (by decide) inlX9 lk_RX9_199 rfl (by decide +kernel) (fun _ => Nat.le_of_ble_eq_true rfl) (fun _ => rfl) dX9_text_23 (fun s5 => ?_)
      refine z_iconst (pc := 26) F (v := 0) dX9_text_26 (by decide) ?_
      refine z_istore_n (pc := 27) F (lv' := [some (.ref (zad K 21 0)), some (.int a1), some (.int a2), some (.int (0 : Int32))]) dX9_text_27 (zlt rfl) rfl ?_
      have hk28_6 : ∀ (y28_6 : zS), ZO K t 69 [some (.ref (zad K 21 0)), some (.int a1), some (.int a2), none] [] y28_6 ((fun (y28_6 : zS) => (zCv (fX9_writes (32 : Int32) y28_6) (fun s7 => zCi (fX9_bodyBy a1 s7) (fun x9 s8 => zCv (fX9_writesNumber x9 s8) (fun s10 => zCi (fX9_signAt a2 s10) (fun x12 s11 => some (x12, s11))))) : Option (Int32 × zS))) y28_6) := by
        intro y28_6
        show ZO K t 69 [some (.ref (zad K 21 0)), some (.int a1), some (.int a2), none] [] y28_6 (zCv (fX9_writes (32 : Int32) y28_6) (fun s7 => zCi (fX9_bodyBy a1 s7) (fun x9 s8 => zCv (fX9_writesNumber x9 s8) (fun s10 => zCi (fX9_signAt a2 s10) (fun x12 s11 => some (x12, s11))))))
        refine z_aload_n (pc := 69) F dX9_text_69 rfl ?_
        refine z_bipush (pc := 70) F (v := 32) dX9_text_70 (by decide) ?_
        refine z_callVv (pc := 72) (st := []) F 21 0 [.int (32 : Int32)] cl_RX9_202 (tX9_writes (zln K) y28_6 (32 : Int32)) rfl (by decide) (fun _ => ⟨_, rfl⟩) rfl (by rw [hR]; exact ⟨rfl, rfl, Nat.le_of_ble_eq_true rfl, Nat.le_of_ble_eq_true rfl⟩) rfl rfl (Nat.le_of_ble_eq_true rfl) dX9_text_72 (fun s7 => ?_)
        refine z_aload_n (pc := 75) F dX9_text_75 rfl ?_
        refine z_aload_n (pc := 76) F dX9_text_76 rfl ?_
        refine z_iload_n (pc := 77) F dX9_text_77 rfl ?_
        refine z_callVi (pc := 78) (st := [.ref (zad K 21 0)]) F 21 0 [.int a1] cl_RX9_115 (tX9_bodyBy (zln K) s7 a1) rfl (by decide) (fun _ => ⟨_, rfl⟩) rfl (by rw [hR]; exact ⟨rfl, rfl, Nat.le_of_ble_eq_true rfl, Nat.le_of_ble_eq_true rfl⟩) rfl rfl (Nat.le_of_ble_eq_true rfl) dX9_text_78 (fun x9 s8 => ?_)
        refine z_callVv (pc := 81) (st := []) F 21 0 [.int x9] cl_RX9_206 (tX9_writesNumber (zln K) s8 x9) rfl (by decide) (fun _ => ⟨_, rfl⟩) rfl (by rw [hR]; exact ⟨rfl, rfl, Nat.le_of_ble_eq_true rfl, Nat.le_of_ble_eq_true rfl⟩) rfl rfl (Nat.le_of_ble_eq_true rfl) dX9_text_81 (fun s10 => ?_)
        refine z_aload_n (pc := 84) F dX9_text_84 rfl ?_
        refine z_iload_n (pc := 85) F dX9_text_85 rfl ?_
        refine z_callVi (pc := 86) (st := []) F 21 0 [.int a2] cl_RX9_209 (tX9_signAt (zln K) s10 a2) rfl (by decide) (fun _ => ⟨_, rfl⟩) rfl (by rw [hR]; exact ⟨rfl, rfl, Nat.le_of_ble_eq_true rfl, Nat.le_of_ble_eq_true rfl⟩) rfl rfl (Nat.le_of_ble_eq_true rfl) dX9_text_86 (fun x12 s11 => ?_)
        exact z_iret (pc := 89) F E dX9_text_89
      have L28_6 : ∀ (n28_6 : Nat) (v3_28_6 : Int32) (w28_6 : zS), ZO K t 28 [some (.ref (zad K 21 0)), some (.int a1), some (.int a2), some (.int v3_28_6)] [] w28_6 (fX9_text_28 a1 (fun (y28_6 : zS) => (zCv (fX9_writes (32 : Int32) y28_6) (fun s7 => zCi (fX9_bodyBy a1 s7) (fun x9 s8 => zCv (fX9_writesNumber x9 s8) (fun s10 => zCi (fX9_signAt a2 s10) (fun x12 s11 => some (x12, s11))))) : Option (Int32 × zS))) n28_6 v3_28_6 w28_6) := by
        revert hk28_6; generalize (fun (y28_6 : zS) => (zCv (fX9_writes (32 : Int32) y28_6) (fun s7 => zCi (fX9_bodyBy a1 s7) (fun x9 s8 => zCv (fX9_writesNumber x9 s8) (fun s10 => zCi (fX9_signAt a2 s10) (fun x12 s11 => some (x12, s11))))) : Option (Int32 × zS))) = k28_6; intro hk28_6
        intro n28_6
        induction n28_6 with
        | zero => intro v3_28_6 w28_6; exact z_none
        | succ n28_6 ih28_6 =>
          intro v3_28_6 w28_6
          show ZO K t 28 [some (.ref (zad K 21 0)), some (.int a1), some (.int a2), some (.int v3_28_6)] [] w28_6 (if (10 : Int32) ≤ v3_28_6 then k28_6 w28_6 else zCi (fX9_isIn a1 v3_28_6 w28_6) (fun x14 s13 => if x14 = 0 then zB (v3_28_6 + 1) (fun x15 => fX9_text_28 a1 k28_6 n28_6 x15 s13) else if (s13 21 0 26) ≤ 0 then zCv (fX9_writes ((48 : Int32) + v3_28_6) s13) (fun s16 => zB (v3_28_6 + 1) (fun x17 => fX9_text_28 a1 k28_6 n28_6 x17 s16)) else zCv (fX9_writes (43 : Int32) s13) (fun s18 => zCv (fX9_writes ((48 : Int32) + v3_28_6) s18) (fun s19 => zB (v3_28_6 + 1) (fun x20 => fX9_text_28 a1 k28_6 n28_6 x20 s19)))))
          refine z_iload_n (pc := 28) F dX9_text_28 rfl ?_
          refine z_bipush (pc := 29) F (v := 10) dX9_text_29 (by decide) ?_
          refine z_icmp_ge (pc := 31) F 69 dX9_text_31 (by decide) (fun h23 => ?_) (fun h23 => ?_)
          · refine z_wk [true, true, true, false] (lv' := [some (.ref (zad K 21 0)), some (.int a1), some (.int a2), none]) rfl ?_
            exact hk28_6  w28_6
          · refine z_iload_n (pc := 34) F dX9_text_34 rfl ?_
            refine z_iload_n (pc := 35) F dX9_text_35 rfl ?_
            refine z_callSi (pc := 36) (st := []) F [.int a1, .int v3_28_6] cl_RX9_75 (tX9_isIn (zln K) w28_6 a1 v3_28_6) rfl (by rw [hR]; exact ⟨rfl, rfl, Nat.le_of_ble_eq_true rfl, Nat.le_of_ble_eq_true rfl⟩) rfl rfl (Nat.le_of_ble_eq_true rfl) dX9_text_36 (fun x14 s13 => ?_)
            refine z_if_eq (pc := 39) F 63 dX9_text_39 (by decide) (fun h22 => ?_) (fun h22 => ?_)
            · refine z_iincB (pc := 63) F (lv' := fun x15 => [some (.ref (zad K 21 0)), some (.int a1), some (.int a2), some (.int x15)]) dX9_text_63 rfl rfl (fun _ => rfl) (fun x15 => ?_)
              refine z_goto (pc := 66) F 28 dX9_text_66 (by decide) ?_
              exact ih28_6 x15 s13
            · refine z_aload_n (pc := 42) F dX9_text_42 rfl ?_
              refine z_get (pc := 43) F 21 0 26 (v := .int (s13 21 0 26)) (by decide) (fun _ => rfl) rfl (by decide) inlX9 lk_RX9_199 rfl dX9_text_43 ?_
              refine z_if_le (pc := 46) F 55 dX9_text_46 (by decide) (fun h21 => ?_) (fun h21 => ?_)
              · refine z_aload_n (pc := 55) F dX9_text_55 rfl ?_
                refine z_bipush (pc := 56) F (v := 48) dX9_text_56 (by decide) ?_
                refine z_iload_n (pc := 58) F dX9_text_58 rfl ?_
                refine z_iadd (pc := 59) F dX9_text_59 ?_
                refine z_callVv (pc := 60) (st := []) F 21 0 [.int ((48 : Int32) + v3_28_6)] cl_RX9_202 (tX9_writes (zln K) s13 ((48 : Int32) + v3_28_6)) rfl (by decide) (fun _ => ⟨_, rfl⟩) rfl (by rw [hR]; exact ⟨rfl, rfl, Nat.le_of_ble_eq_true rfl, Nat.le_of_ble_eq_true rfl⟩) rfl rfl (Nat.le_of_ble_eq_true rfl) dX9_text_60 (fun s16 => ?_)
                refine z_iincB (pc := 63) F (lv' := fun x17 => [some (.ref (zad K 21 0)), some (.int a1), some (.int a2), some (.int x17)]) dX9_text_63 rfl rfl (fun _ => rfl) (fun x17 => ?_)
                refine z_goto (pc := 66) F 28 dX9_text_66 (by decide) ?_
                exact ih28_6 x17 s16
              · refine z_aload_n (pc := 49) F dX9_text_49 rfl ?_
                refine z_bipush (pc := 50) F (v := 43) dX9_text_50 (by decide) ?_
                refine z_callVv (pc := 52) (st := []) F 21 0 [.int (43 : Int32)] cl_RX9_202 (tX9_writes (zln K) s13 (43 : Int32)) rfl (by decide) (fun _ => ⟨_, rfl⟩) rfl (by rw [hR]; exact ⟨rfl, rfl, Nat.le_of_ble_eq_true rfl, Nat.le_of_ble_eq_true rfl⟩) rfl rfl (Nat.le_of_ble_eq_true rfl) dX9_text_52 (fun s18 => ?_)
                refine z_aload_n (pc := 55) F dX9_text_55 rfl ?_
                refine z_bipush (pc := 56) F (v := 48) dX9_text_56 (by decide) ?_
                refine z_iload_n (pc := 58) F dX9_text_58 rfl ?_
                refine z_iadd (pc := 59) F dX9_text_59 ?_
                refine z_callVv (pc := 60) (st := []) F 21 0 [.int ((48 : Int32) + v3_28_6)] cl_RX9_202 (tX9_writes (zln K) s18 ((48 : Int32) + v3_28_6)) rfl (by decide) (fun _ => ⟨_, rfl⟩) rfl (by rw [hR]; exact ⟨rfl, rfl, Nat.le_of_ble_eq_true rfl, Nat.le_of_ble_eq_true rfl⟩) rfl rfl (Nat.le_of_ble_eq_true rfl) dX9_text_60 (fun s19 => ?_)
                refine z_iincB (pc := 63) F (lv' := fun x20 => [some (.ref (zad K 21 0)), some (.int a1), some (.int a2), some (.int x20)]) dX9_text_63 rfl rfl (fun _ => rfl) (fun x20 => ?_)
                refine z_goto (pc := 66) F 28 dX9_text_66 (by decide) ?_
                exact ih28_6 x20 s19
      exact L28_6 zN (0 : Int32) s5
    · refine z_bipush (pc := 18) F (v := -2) dX9_text_18 (by decide) ?_
      exact z_iret (pc := 20) F E dX9_text_20
def fX9_want (a1 : Int32) (a2 : Int32) (σ : zS) : Option (Int32 × zS) := zCi (fX9_isStation a2 σ) (fun x2 s1 => if x2 = 0 then some ((-1 : Int32), s1) else zCi (fX9_isLetter a1 s1) (fun x4 s3 => if x4 = 0 then some ((-1 : Int32), s3) else zIx a2 8 (zCi (fX9_isIn (s3 23 0 a2.toNatClampNeg) a1 s3) (fun x7 s6 => if x7 = 0 then zCi (fX9_isWanted a1 a2 s6) (fun x9 s8 => if x9 = 0 then if (s8 21 0 3) = (16 : Int32) then some ((-4 : Int32), s8) else zIx (s8 21 0 3) 16 (zB (zU s8 24 0 (s8 21 0 3).toNatClampNeg a1) (fun s11 => zIx (s11 21 0 3) 16 (zB (zU s11 25 0 (s11 21 0 3).toNatClampNeg a2) (fun s13 => zB (zU s13 21 0 3 ((s13 21 0 3) + (1 : Int32))) (fun s14 => some (s14 21 0 3, s14)))))) else some ((-3 : Int32), s8)) else some ((-3 : Int32), s6)))))
abbrev rmX9_want : Room := { frames := 2, cells := 0, slots := 0, locals := 43 }
set_option maxRecDepth 100000 in
set_option maxHeartbeats 4000000 in
theorem tX9_want (l : Launch) (σ : zS) (a1 : Int32) (a2 : Int32) : zMi l yX9_want cX9_want 3 (some .int) rmX9_want (fun ad => [.ref (ad 21 0), .int a1, .int a2]) σ (fX9_want a1 a2 σ) := by
  refine zMi.of RX9 (by decide +kernel) rfl (fun _ => Nat.le_of_ble_eq_true rfl) (fun _ => zcat rfl) (fun K t F hR hL E => ?_)
  show ZO K t 0 [some (.ref (zad K 21 0)), some (.int a1), some (.int a2)] [] σ (zCi (fX9_isStation a2 σ) (fun x2 s1 => if x2 = 0 then some ((-1 : Int32), s1) else zCi (fX9_isLetter a1 s1) (fun x4 s3 => if x4 = 0 then some ((-1 : Int32), s3) else zIx a2 8 (zCi (fX9_isIn (s3 23 0 a2.toNatClampNeg) a1 s3) (fun x7 s6 => if x7 = 0 then zCi (fX9_isWanted a1 a2 s6) (fun x9 s8 => if x9 = 0 then if (s8 21 0 3) = (16 : Int32) then some ((-4 : Int32), s8) else zIx (s8 21 0 3) 16 (zB (zU s8 24 0 (s8 21 0 3).toNatClampNeg a1) (fun s11 => zIx (s11 21 0 3) 16 (zB (zU s11 25 0 (s11 21 0 3).toNatClampNeg a2) (fun s13 => zB (zU s13 21 0 3 ((s13 21 0 3) + (1 : Int32))) (fun s14 => some (s14 21 0 3, s14)))))) else some ((-3 : Int32), s8)) else some ((-3 : Int32), s6))))))
  refine z_iload_n (pc := 0) F dX9_want_0 rfl ?_
  refine z_callSi (pc := 1) (st := []) F [.int a2] cl_RX9_90 (tX9_isStation (zln K) σ a2) rfl (by rw [hR]; exact ⟨rfl, rfl, Nat.le_of_ble_eq_true rfl, Nat.le_of_ble_eq_true rfl⟩) rfl rfl (Nat.le_of_ble_eq_true rfl) dX9_want_1 (fun x2 s1 => ?_)
  refine z_if_eq (pc := 4) F 15 dX9_want_4 (by decide) (fun h19 => ?_) (fun h19 => ?_)
  · refine z_iconst (pc := 15) F (v := -1) dX9_want_15 (by decide) ?_
    exact z_iret (pc := 16) F E dX9_want_16
  · refine z_aload_n (pc := 7) F dX9_want_7 rfl ?_
    refine z_iload_n (pc := 8) F dX9_want_8 rfl ?_
    refine z_callVi (pc := 9) (st := []) F 21 0 [.int a1] cl_RX9_82 (tX9_isLetter (zln K) s1 a1) rfl (by decide) (fun _ => ⟨_, rfl⟩) rfl (by rw [hR]; exact ⟨rfl, rfl, Nat.le_of_ble_eq_true rfl, Nat.le_of_ble_eq_true rfl⟩) rfl rfl (Nat.le_of_ble_eq_true rfl) dX9_want_9 (fun x4 s3 => ?_)
    refine z_if_ne (pc := 12) F 17 dX9_want_12 (by decide) (fun h18 => ?_) (fun h18 => ?_)
    · refine z_aload_n (pc := 17) F dX9_want_17 rfl ?_
      refine z_get (pc := 18) F 21 0 2 (v := .ref (zad K 23 0)) (by decide) (fun _ => rfl) rfl (by decide) inlX9 lk_RX9_13 rfl dX9_want_18 ?_
      refine z_iload_n (pc := 21) F dX9_want_21 rfl ?_
      refine z_ix (fun h5 => ?_)
      refine z_iald (pc := 22) F 23 0 (by decide) (fun _ => rfl) h5 dX9_want_22 ?_
      refine z_iload_n (pc := 23) F dX9_want_23 rfl ?_
      refine z_callSi (pc := 24) (st := []) F [.int (s3 23 0 a2.toNatClampNeg), .int a1] cl_RX9_75 (tX9_isIn (zln K) s3 (s3 23 0 a2.toNatClampNeg) a1) rfl (by rw [hR]; exact ⟨rfl, rfl, Nat.le_of_ble_eq_true rfl, Nat.le_of_ble_eq_true rfl⟩) rfl rfl (Nat.le_of_ble_eq_true rfl) dX9_want_24 (fun x7 s6 => ?_)
      refine z_if_ne (pc := 27) F 39 dX9_want_27 (by decide) (fun h17 => ?_) (fun h17 => ?_)
      · refine z_bipush (pc := 39) F (v := -3) dX9_want_39 (by decide) ?_
        exact z_iret (pc := 41) F E dX9_want_41
      · refine z_aload_n (pc := 30) F dX9_want_30 rfl ?_
        refine z_iload_n (pc := 31) F dX9_want_31 rfl ?_
        refine z_iload_n (pc := 32) F dX9_want_32 rfl ?_
        refine z_callVi (pc := 33) (st := []) F 21 0 [.int a1, .int a2] cl_RX9_93 (tX9_isWanted (zln K) s6 a1 a2) rfl (by decide) (fun _ => ⟨_, rfl⟩) rfl (by rw [hR]; exact ⟨rfl, rfl, Nat.le_of_ble_eq_true rfl, Nat.le_of_ble_eq_true rfl⟩) rfl rfl (Nat.le_of_ble_eq_true rfl) dX9_want_33 (fun x9 s8 => ?_)
        refine z_if_eq (pc := 36) F 42 dX9_want_36 (by decide) (fun h16 => ?_) (fun h16 => ?_)
        · refine z_aload_n (pc := 42) F dX9_want_42 rfl ?_
          refine z_get (pc := 43) F 21 0 3 (v := .int (s8 21 0 3)) (by decide) (fun _ => rfl) rfl (by decide) inlX9 lk_RX9_79 rfl dX9_want_43 ?_
          refine z_bipush (pc := 46) F (v := 16) dX9_want_46 (by decide) ?_
          refine z_icmp_ne (pc := 48) F 54 dX9_want_48 (by decide) (fun h15 => ?_) (fun h15 => ?_)
          · refine z_aload_n (pc := 54) F dX9_want_54 rfl ?_
            refine z_get (pc := 55) F 21 0 4 (v := .ref (zad K 24 0)) (by decide) (fun _ => rfl) rfl (by decide) inlX9 lk_RX9_16 rfl dX9_want_55 ?_
            refine z_aload_n (pc := 58) F dX9_want_58 rfl ?_
            refine z_get (pc := 59) F 21 0 3 (v := .int (s8 21 0 3)) (by decide) (fun _ => rfl) rfl (by decide) inlX9 lk_RX9_79 rfl dX9_want_59 ?_
            refine z_iload_n (pc := 62) F dX9_want_62 rfl ?_
            refine z_ix (fun h10 => ?_)
            refine z_iast (pc := 63) F 24 0 (by decide) (fun _ _ => rfl) h10 dX9_want_63 (fun s11 => ?_)
            refine z_aload_n (pc := 64) F dX9_want_64 rfl ?_
            refine z_get (pc := 65) F 21 0 5 (v := .ref (zad K 25 0)) (by decide) (fun _ => rfl) rfl (by decide) inlX9 lk_RX9_19 rfl dX9_want_65 ?_
            refine z_aload_n (pc := 68) F dX9_want_68 rfl ?_
            refine z_get (pc := 69) F 21 0 3 (v := .int (s11 21 0 3)) (by decide) (fun _ => rfl) rfl (by decide) inlX9 lk_RX9_79 rfl dX9_want_69 ?_
            refine z_iload_n (pc := 72) F dX9_want_72 rfl ?_
            refine z_ix (fun h12 => ?_)
            refine z_iast (pc := 73) F 25 0 (by decide) (fun _ _ => rfl) h12 dX9_want_73 (fun s13 => ?_)
            refine z_aload_n (pc := 74) F dX9_want_74 rfl ?_
            refine z_dup (pc := 75) F dX9_want_75 rfl ?_
            refine z_get (pc := 76) F 21 0 3 (v := .int (s13 21 0 3)) (by decide) (fun _ => rfl) rfl (by decide) inlX9 lk_RX9_79 rfl dX9_want_76 ?_
            refine z_iconst (pc := 79) F (v := 1) dX9_want_79 (by decide) ?_
            refine z_iadd (pc := 80) F dX9_want_80 ?_
            refine z_put (pc := 81) F 21 0 3 tyX9 tyX9_ok nmX9 (by decide) (fun _ => rfl) rfl (by decide) inlX9 lk_RX9_79 rfl (by decide +kernel) (fun _ => Nat.le_of_ble_eq_true rfl) (fun _ => rfl) dX9_want_81 (fun s14 => ?_)
            refine z_aload_n (pc := 84) F dX9_want_84 rfl ?_
            refine z_get (pc := 85) F 21 0 3 (v := .int (s14 21 0 3)) (by decide) (fun _ => rfl) rfl (by decide) inlX9 lk_RX9_79 rfl dX9_want_85 ?_
            exact z_iret (pc := 88) F E dX9_want_88
          · refine z_bipush (pc := 51) F (v := -4) dX9_want_51 (by decide) ?_
            exact z_iret (pc := 53) F E dX9_want_53
        · refine z_bipush (pc := 39) F (v := -3) dX9_want_39 (by decide) ?_
          exact z_iret (pc := 41) F E dX9_want_41
    · refine z_iconst (pc := 15) F (v := -1) dX9_want_15 (by decide) ?_
      exact z_iret (pc := 16) F E dX9_want_16
def fX9_wipe (σ : zS) : Option (Int32 × zS) := zB (σ 21 0 11) (fun x1 => zB (zU σ 21 0 11 (0 : Int32)) (fun s2 => some (x1, s2)))
abbrev rmX9_wipe : Room := { frames := 0, cells := 0, slots := 0, locals := 0 }
set_option maxRecDepth 100000 in
set_option maxHeartbeats 4000000 in
theorem tX9_wipe (l : Launch) (σ : zS) : zMi l yX9_wipe cX9_wipe 2 (some .int) rmX9_wipe (fun ad => [.ref (ad 21 0)]) σ (fX9_wipe σ) := by
  refine zMi.of RX9 (by decide +kernel) rfl (fun _ => Nat.le_of_ble_eq_true rfl) (fun _ => zcat rfl) (fun K t F hR hL E => ?_)
  show ZO K t 0 [some (.ref (zad K 21 0)), none] [] σ (zB (σ 21 0 11) (fun x1 => zB (zU σ 21 0 11 (0 : Int32)) (fun s2 => some (x1, s2))))
  refine z_aload_n (pc := 0) F dX9_wipe_0 rfl ?_
  refine z_get (pc := 1) F 21 0 11 (v := .int (σ 21 0 11)) (by decide) (fun _ => rfl) rfl (by decide) inlX9 lk_RX9_134 rfl dX9_wipe_1 ?_
  refine z_Bi (fun x1 => ?_)
  refine z_istore_n (pc := 4) F (lv' := [some (.ref (zad K 21 0)), some (.int x1)]) dX9_wipe_4 (zlt rfl) rfl ?_
  refine z_aload_n (pc := 5) F dX9_wipe_5 rfl ?_
  refine z_iconst (pc := 6) F (v := 0) dX9_wipe_6 (by decide) ?_
  refine z_put (pc := 7) F 21 0 11 tyX9 tyX9_ok nmX9 (by decide) (fun _ => rfl) rfl (by decide) inlX9 lk_RX9_134 rfl (by decide +kernel) (fun _ => Nat.le_of_ble_eq_true rfl) (fun _ => rfl) dX9_wipe_7 (fun s2 => ?_)
  refine z_iload_n (pc := 10) F dX9_wipe_10 rfl ?_
  exact z_iret (pc := 11) F E dX9_wipe_11
def fX9_word (σ : zS) : Option (Int32 × zS) := zCi (fX9_primeOnTape σ) (fun x2 s1 => if x2 = (-9 : Int32) then some ((-1 : Int32), s1) else zB (zU s1 21 0 12 x2) (fun s3 => zB (zU s3 21 0 14 (0 : Int32)) (fun s4 => zB (zU s4 21 0 13 (0 : Int32)) (fun s5 => zB (zU s5 21 0 11 (0 : Int32)) (fun s6 => some (s6 21 0 12, s6))))))
abbrev rmX9_word : Room := { frames := 1, cells := 0, slots := 0, locals := 24 }
set_option maxRecDepth 100000 in
set_option maxHeartbeats 4000000 in
theorem tX9_word (l : Launch) (σ : zS) : zMi l yX9_word cX9_word 2 (some .int) rmX9_word (fun ad => [.ref (ad 21 0)]) σ (fX9_word σ) := by
  refine zMi.of RX9 (by decide +kernel) rfl (fun _ => Nat.le_of_ble_eq_true rfl) (fun _ => zcat rfl) (fun K t F hR hL E => ?_)
  show ZO K t 0 [some (.ref (zad K 21 0)), none] [] σ (zCi (fX9_primeOnTape σ) (fun x2 s1 => if x2 = (-9 : Int32) then some ((-1 : Int32), s1) else zB (zU s1 21 0 12 x2) (fun s3 => zB (zU s3 21 0 14 (0 : Int32)) (fun s4 => zB (zU s4 21 0 13 (0 : Int32)) (fun s5 => zB (zU s5 21 0 11 (0 : Int32)) (fun s6 => some (s6 21 0 12, s6)))))))
  refine z_aload_n (pc := 0) F dX9_word_0 rfl ?_
  refine z_callVi (pc := 1) (st := []) F 21 0 [] cl_RX9_137 (tX9_primeOnTape (zln K) σ ) rfl (by decide) (fun _ => ⟨_, rfl⟩) rfl (by rw [hR]; exact ⟨rfl, rfl, Nat.le_of_ble_eq_true rfl, Nat.le_of_ble_eq_true rfl⟩) rfl rfl (Nat.le_of_ble_eq_true rfl) dX9_word_1 (fun x2 s1 => ?_)
  refine z_istore_n (pc := 4) F (lv' := [some (.ref (zad K 21 0)), some (.int x2)]) dX9_word_4 (zlt rfl) rfl ?_
  refine z_iload_n (pc := 5) F dX9_word_5 rfl ?_
  refine z_bipush (pc := 6) F (v := -9) dX9_word_6 (by decide) ?_
  refine z_icmp_ne (pc := 8) F 13 dX9_word_8 (by decide) (fun h7 => ?_) (fun h7 => ?_)
  · refine z_aload_n (pc := 13) F dX9_word_13 rfl ?_
    refine z_iload_n (pc := 14) F dX9_word_14 rfl ?_
    refine z_put (pc := 15) F 21 0 12 tyX9 tyX9_ok nmX9 (by decide) (fun _ => rfl) rfl (by decide) inlX9 lk_RX9_32 rfl (by decide +kernel) (fun _ => Nat.le_of_ble_eq_true rfl) (fun _ => rfl) dX9_word_15 (fun s3 => ?_)
    refine z_aload_n (pc := 18) F dX9_word_18 rfl ?_
    refine z_iconst (pc := 19) F (v := 0) dX9_word_19 (by decide) ?_
    refine z_put (pc := 20) F 21 0 14 tyX9 tyX9_ok nmX9 (by decide) (fun _ => rfl) rfl (by decide) inlX9 lk_RX9_140 rfl (by decide +kernel) (fun _ => Nat.le_of_ble_eq_true rfl) (fun _ => rfl) dX9_word_20 (fun s4 => ?_)
    refine z_aload_n (pc := 23) F dX9_word_23 rfl ?_
    refine z_iconst (pc := 24) F (v := 0) dX9_word_24 (by decide) ?_
    refine z_put (pc := 25) F 21 0 13 tyX9 tyX9_ok nmX9 (by decide) (fun _ => rfl) rfl (by decide) inlX9 lk_RX9_143 rfl (by decide +kernel) (fun _ => Nat.le_of_ble_eq_true rfl) (fun _ => rfl) dX9_word_25 (fun s5 => ?_)
    refine z_aload_n (pc := 28) F dX9_word_28 rfl ?_
    refine z_iconst (pc := 29) F (v := 0) dX9_word_29 (by decide) ?_
    refine z_put (pc := 30) F 21 0 11 tyX9 tyX9_ok nmX9 (by decide) (fun _ => rfl) rfl (by decide) inlX9 lk_RX9_134 rfl (by decide +kernel) (fun _ => Nat.le_of_ble_eq_true rfl) (fun _ => rfl) dX9_word_30 (fun s6 => ?_)
    refine z_aload_n (pc := 33) F dX9_word_33 rfl ?_
    refine z_get (pc := 34) F 21 0 12 (v := .int (s6 21 0 12)) (by decide) (fun _ => rfl) rfl (by decide) inlX9 lk_RX9_32 rfl dX9_word_34 ?_
    exact z_iret (pc := 37) F E dX9_word_37
  · refine z_iconst (pc := 11) F (v := -1) dX9_word_11 (by decide) ?_
    exact z_iret (pc := 12) F E dX9_word_12
