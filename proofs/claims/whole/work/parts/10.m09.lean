def fX8_row (a1 : Int32) (a2 : Int32) (a3 : Int32) (a4 : Int32) (σ : zS) : Option (Int32 × zS) := zCq (fX2_find a1 σ) (fun s1 => zCq (fX2_nodeOf a1 a2 s1) (fun s4 => some ((-1 : Int32), s4)) (fun i5 s4 => zGd (i5 < 12) (some ((-1 : Int32), s4)))) (fun i2 s1 => zGd (i2 < 3) (zCq (fX2_nodeOf a1 a2 s1) (fun s7 => some ((-1 : Int32), s7)) (fun i8 s7 => zGd (i8 < 12) (zCi (fX3_placeOf i8 a3 s7) (fun x11 s10 => if 0 ≤ x11 then if a4 < 0 then some ((-2 : Int32), s10) else if a4 < ((s10 13 i2 2) + (3 : Int32)) then if (s10 13 i2 2) ≤ a4 then zCi (fX3_cell i8 x11 (((5 : Int32) + a4) - (s10 13 i2 2)) s10) (fun x13 s12 => some (x13, s12)) else zCi (fX3_cell i8 x11 a4 s10) (fun x15 s14 => some (x15, s14)) else some ((-2 : Int32), s10) else some ((-1 : Int32), s10))))))
abbrev rmX8_row : Room := { frames := 2, cells := 0, slots := 0, locals := 45 }
set_option maxRecDepth 100000 in
set_option maxHeartbeats 4000000 in
theorem tX8_row (l : Launch) (σ : zS) (a1 : Int32) (a2 : Int32) (a3 : Int32) (a4 : Int32) : zMi l yX8_row cX8_row 8 (some .int) rmX8_row (fun ad => [.ref (ad 0 0), .int a1, .int a2, .int a3, .int a4]) σ (fX8_row a1 a2 a3 a4 σ) := by
  refine zMi.of RX8 (by decide +kernel) rfl (fun _ => Nat.le_of_ble_eq_true rfl) (fun _ => zcat rfl) (fun K t F hR hL E => ?_)
  show ZO K t 0 [some (.ref (zad K 0 0)), some (.int a1), some (.int a2), some (.int a3), some (.int a4), none, none, none] [] σ (zCq (fX2_find a1 σ) (fun s1 => zCq (fX2_nodeOf a1 a2 s1) (fun s4 => some ((-1 : Int32), s4)) (fun i5 s4 => zGd (i5 < 12) (some ((-1 : Int32), s4)))) (fun i2 s1 => zGd (i2 < 3) (zCq (fX2_nodeOf a1 a2 s1) (fun s7 => some ((-1 : Int32), s7)) (fun i8 s7 => zGd (i8 < 12) (zCi (fX3_placeOf i8 a3 s7) (fun x11 s10 => if 0 ≤ x11 then if a4 < 0 then some ((-2 : Int32), s10) else if a4 < ((s10 13 i2 2) + (3 : Int32)) then if (s10 13 i2 2) ≤ a4 then zCi (fX3_cell i8 x11 (((5 : Int32) + a4) - (s10 13 i2 2)) s10) (fun x13 s12 => some (x13, s12)) else zCi (fX3_cell i8 x11 a4 s10) (fun x15 s14 => some (x15, s14)) else some ((-2 : Int32), s10) else some ((-1 : Int32), s10)))))))
  refine z_aload_n (pc := 0) F dX8_row_0 rfl ?_
  refine z_get (pc := 1) F 0 0 3 (v := .ref (zad K 10 0)) (by decide) (fun _ => rfl) rfl (by decide) inlX8 lk_RX8_35 rfl dX8_row_1 ?_
  refine z_iload_n (pc := 4) F dX8_row_4 rfl ?_
  refine z_callNq (pc := 5) (st := []) F 10 0 [.int a1] cl_RX8_153 (tX2_find (zln K) σ a1) rfl (by decide) (fun _ => ⟨_, rfl⟩) rfl (by rw [hR]; exact ⟨rfl, rfl, Nat.le_of_ble_eq_true rfl, Nat.le_of_ble_eq_true rfl⟩) rfl rfl (Nat.le_of_ble_eq_true rfl) dX8_row_5 (fun s1 => ?_) (fun i2 s1 => ?_)
  · refine z_astoreN (pc := 8) F (lv' := [some (.ref (zad K 0 0)), some (.int a1), some (.int a2), some (.int a3), some (.int a4), some (.null), none, none]) dX8_row_8 (zlt rfl) rfl ?_
    refine z_aload_n (pc := 10) F dX8_row_10 rfl ?_
    refine z_get (pc := 11) F 0 0 3 (v := .ref (zad K 10 0)) (by decide) (fun _ => rfl) rfl (by decide) inlX8 lk_RX8_35 rfl dX8_row_11 ?_
    refine z_iload_n (pc := 14) F dX8_row_14 rfl ?_
    refine z_iload_n (pc := 15) F dX8_row_15 rfl ?_
    refine z_callNq (pc := 16) (st := []) F 10 0 [.int a1, .int a2] cl_RX8_144 (tX2_nodeOf (zln K) s1 a1 a2) rfl (by decide) (fun _ => ⟨_, rfl⟩) rfl (by rw [hR]; exact ⟨rfl, rfl, Nat.le_of_ble_eq_true rfl, Nat.le_of_ble_eq_true rfl⟩) rfl rfl (Nat.le_of_ble_eq_true rfl) dX8_row_16 (fun s4 => ?_) (fun i5 s4 => ?_)
    · refine z_astoreN (pc := 19) F (lv' := [some (.ref (zad K 0 0)), some (.int a1), some (.int a2), some (.int a3), some (.int a4), some (.null), some (.null), none]) dX8_row_19 (zlt rfl) rfl ?_
      refine z_aloadN (pc := 21) F dX8_row_21 rfl ?_
      refine z_ifnullN (pc := 23) F 31 dX8_row_23 (by decide) ?_
      refine z_iconst (pc := 31) F (v := -1) dX8_row_31 (by decide) ?_
      exact z_iret (pc := 32) F E dX8_row_32
    · refine z_gd (fun h6 => ?_)
      refine z_astore (pc := 19) F (lv' := [some (.ref (zad K 0 0)), some (.int a1), some (.int a2), some (.int a3), some (.int a4), some (.null), some (.ref (zad K 15 i5)), none]) dX8_row_19 (zlt rfl) rfl ?_
      refine z_aloadN (pc := 21) F dX8_row_21 rfl ?_
      refine z_ifnullN (pc := 23) F 31 dX8_row_23 (by decide) ?_
      refine z_iconst (pc := 31) F (v := -1) dX8_row_31 (by decide) ?_
      exact z_iret (pc := 32) F E dX8_row_32
  · refine z_gd (fun h3 => ?_)
    refine z_astore (pc := 8) F (lv' := [some (.ref (zad K 0 0)), some (.int a1), some (.int a2), some (.int a3), some (.int a4), some (.ref (zad K 13 i2)), none, none]) dX8_row_8 (zlt rfl) rfl ?_
    refine z_aload_n (pc := 10) F dX8_row_10 rfl ?_
    refine z_get (pc := 11) F 0 0 3 (v := .ref (zad K 10 0)) (by decide) (fun _ => rfl) rfl (by decide) inlX8 lk_RX8_35 rfl dX8_row_11 ?_
    refine z_iload_n (pc := 14) F dX8_row_14 rfl ?_
    refine z_iload_n (pc := 15) F dX8_row_15 rfl ?_
    refine z_callNq (pc := 16) (st := []) F 10 0 [.int a1, .int a2] cl_RX8_144 (tX2_nodeOf (zln K) s1 a1 a2) rfl (by decide) (fun _ => ⟨_, rfl⟩) rfl (by rw [hR]; exact ⟨rfl, rfl, Nat.le_of_ble_eq_true rfl, Nat.le_of_ble_eq_true rfl⟩) rfl rfl (Nat.le_of_ble_eq_true rfl) dX8_row_16 (fun s7 => ?_) (fun i8 s7 => ?_)
    · refine z_astoreN (pc := 19) F (lv' := [some (.ref (zad K 0 0)), some (.int a1), some (.int a2), some (.int a3), some (.int a4), some (.ref (zad K 13 i2)), some (.null), none]) dX8_row_19 (zlt rfl) rfl ?_
      refine z_aload (pc := 21) F dX8_row_21 rfl ?_
      refine z_ifnull (pc := 23) F dX8_row_23 ?_
      refine z_aloadN (pc := 26) F dX8_row_26 rfl ?_
      refine z_ifnonnullN (pc := 28) F dX8_row_28 ?_
      refine z_iconst (pc := 31) F (v := -1) dX8_row_31 (by decide) ?_
      exact z_iret (pc := 32) F E dX8_row_32
    · refine z_gd (fun h9 => ?_)
      refine z_astore (pc := 19) F (lv' := [some (.ref (zad K 0 0)), some (.int a1), some (.int a2), some (.int a3), some (.int a4), some (.ref (zad K 13 i2)), some (.ref (zad K 15 i8)), none]) dX8_row_19 (zlt rfl) rfl ?_
      refine z_aload (pc := 21) F dX8_row_21 rfl ?_
      refine z_ifnull (pc := 23) F dX8_row_23 ?_
      refine z_aload (pc := 26) F dX8_row_26 rfl ?_
      refine z_ifnonnull (pc := 28) F 33 dX8_row_28 (by decide) ?_
      refine z_aload (pc := 33) F dX8_row_33 rfl ?_
      refine z_iload_n (pc := 35) F dX8_row_35 rfl ?_
      refine z_callNi (pc := 36) (st := []) F 15 i8 [.int a3] cl_RX8_157 (tX3_placeOf (zln K) s7 i8 a3 h9) rfl h9 (fun _ => ⟨_, rfl⟩) rfl (by rw [hR]; exact ⟨rfl, rfl, Nat.le_of_ble_eq_true rfl, Nat.le_of_ble_eq_true rfl⟩) rfl rfl (Nat.le_of_ble_eq_true rfl) dX8_row_36 (fun x11 s10 => ?_)
      refine z_istore (pc := 39) F (lv' := [some (.ref (zad K 0 0)), some (.int a1), some (.int a2), some (.int a3), some (.int a4), some (.ref (zad K 13 i2)), some (.ref (zad K 15 i8)), some (.int x11)]) dX8_row_39 (zlt rfl) rfl ?_
      refine z_iload (pc := 41) F dX8_row_41 rfl ?_
      refine z_if_ge (pc := 43) F 48 dX8_row_43 (by decide) (fun h19 => ?_) (fun h19 => ?_)
      · refine z_iload (pc := 48) F dX8_row_48 rfl ?_
        refine z_if_lt (pc := 50) F 65 dX8_row_50 (by decide) (fun h18 => ?_) (fun h18 => ?_)
        · refine z_bipush (pc := 65) F (v := -2) dX8_row_65 (by decide) ?_
          exact z_iret (pc := 67) F E dX8_row_67
        · refine z_iload (pc := 53) F dX8_row_53 rfl ?_
          refine z_aload (pc := 55) F dX8_row_55 rfl ?_
          refine z_getN (pc := 57) F 13 i2 2 (v := .int (s10 13 i2 2)) h3 (fun _ => rfl) rfl (by decide) inlX1 lk_RX8_160 rfl dX8_row_57 ?_
          refine z_iconst (pc := 60) F (v := 3) dX8_row_60 (by decide) ?_
          refine z_iadd (pc := 61) F dX8_row_61 ?_
          refine z_icmp_lt (pc := 62) F 68 dX8_row_62 (by decide) (fun h17 => ?_) (fun h17 => ?_)
          · refine z_aload (pc := 68) F dX8_row_68 rfl ?_
            refine z_iload (pc := 70) F dX8_row_70 rfl ?_
            refine z_iload (pc := 72) F dX8_row_72 rfl ?_
            refine z_aload (pc := 74) F dX8_row_74 rfl ?_
            refine z_getN (pc := 76) F 13 i2 2 (v := .int (s10 13 i2 2)) h3 (fun _ => rfl) rfl (by decide) inlX1 lk_RX8_160 rfl dX8_row_76 ?_
            refine z_icmp_ge (pc := 79) F 87 dX8_row_79 (by decide) (fun h16 => ?_) (fun h16 => ?_)
            · refine z_iconst (pc := 87) F (v := 5) dX8_row_87 (by decide) ?_
              refine z_iload (pc := 88) F dX8_row_88 rfl ?_
              refine z_iadd (pc := 90) F dX8_row_90 ?_
              refine z_aload (pc := 91) F dX8_row_91 rfl ?_
              refine z_getN (pc := 93) F 13 i2 2 (v := .int (s10 13 i2 2)) h3 (fun _ => rfl) rfl (by decide) inlX1 lk_RX8_160 rfl dX8_row_93 ?_
              refine z_isub (pc := 96) F dX8_row_96 ?_
              refine z_callNi (pc := 97) (st := []) F 15 i8 [.int x11, .int (((5 : Int32) + a4) - (s10 13 i2 2))] cl_RX8_165 (tX3_cell (zln K) s10 i8 x11 (((5 : Int32) + a4) - (s10 13 i2 2)) h9) rfl h9 (fun _ => ⟨_, rfl⟩) rfl (by rw [hR]; exact ⟨rfl, rfl, Nat.le_of_ble_eq_true rfl, Nat.le_of_ble_eq_true rfl⟩) rfl rfl (Nat.le_of_ble_eq_true rfl) dX8_row_97 (fun x13 s12 => ?_)
              exact z_iret (pc := 100) F E dX8_row_100
            · refine z_iload (pc := 82) F dX8_row_82 rfl ?_
              refine z_goto (pc := 84) F 97 dX8_row_84 (by decide) ?_
              refine z_callNi (pc := 97) (st := []) F 15 i8 [.int x11, .int a4] cl_RX8_165 (tX3_cell (zln K) s10 i8 x11 a4 h9) rfl h9 (fun _ => ⟨_, rfl⟩) rfl (by rw [hR]; exact ⟨rfl, rfl, Nat.le_of_ble_eq_true rfl, Nat.le_of_ble_eq_true rfl⟩) rfl rfl (Nat.le_of_ble_eq_true rfl) dX8_row_97 (fun x15 s14 => ?_)
              exact z_iret (pc := 100) F E dX8_row_100
          · refine z_bipush (pc := 65) F (v := -2) dX8_row_65 (by decide) ?_
            exact z_iret (pc := 67) F E dX8_row_67
      · refine z_iconst (pc := 46) F (v := -1) dX8_row_46 (by decide) ?_
        exact z_iret (pc := 47) F E dX8_row_47
def fX8_rows (a1 : Int32) (a2 : Int32) (a3 : Int32) (σ : zS) : Option (Int32 × zS) := zCq (fX2_find a1 σ) (fun s1 => zCq (fX2_nodeOf a1 a2 s1) (fun s4 => some ((-1 : Int32), s4)) (fun i5 s4 => zGd (i5 < 12) (some ((-1 : Int32), s4)))) (fun i2 s1 => zGd (i2 < 3) (zCq (fX2_nodeOf a1 a2 s1) (fun s7 => some ((-1 : Int32), s7)) (fun i8 s7 => zGd (i8 < 12) (if a3 < (-1 : Int32) then some ((-2 : Int32), s7) else if a3 ≤ (59 : Int32) then zCv (fX4_writeRows i8 (s7 13 i2 2) s7) (fun s10 => zCi (fX4_answer a3 s10) (fun x12 s11 => some (x12, s11))) else some ((-2 : Int32), s7)))))
abbrev rmX8_rows : Room := { frames := 4, cells := 0, slots := 0, locals := 89 }
set_option maxRecDepth 100000 in
set_option maxHeartbeats 4000000 in
theorem tX8_rows (l : Launch) (σ : zS) (a1 : Int32) (a2 : Int32) (a3 : Int32) : zMi l yX8_rows cX8_rows 6 (some .int) rmX8_rows (fun ad => [.ref (ad 0 0), .int a1, .int a2, .int a3]) σ (fX8_rows a1 a2 a3 σ) := by
  refine zMi.of RX8 (by decide +kernel) rfl (fun _ => Nat.le_of_ble_eq_true rfl) (fun _ => zcat rfl) (fun K t F hR hL E => ?_)
  show ZO K t 0 [some (.ref (zad K 0 0)), some (.int a1), some (.int a2), some (.int a3), none, none] [] σ (zCq (fX2_find a1 σ) (fun s1 => zCq (fX2_nodeOf a1 a2 s1) (fun s4 => some ((-1 : Int32), s4)) (fun i5 s4 => zGd (i5 < 12) (some ((-1 : Int32), s4)))) (fun i2 s1 => zGd (i2 < 3) (zCq (fX2_nodeOf a1 a2 s1) (fun s7 => some ((-1 : Int32), s7)) (fun i8 s7 => zGd (i8 < 12) (if a3 < (-1 : Int32) then some ((-2 : Int32), s7) else if a3 ≤ (59 : Int32) then zCv (fX4_writeRows i8 (s7 13 i2 2) s7) (fun s10 => zCi (fX4_answer a3 s10) (fun x12 s11 => some (x12, s11))) else some ((-2 : Int32), s7))))))
  refine z_aload_n (pc := 0) F dX8_rows_0 rfl ?_
  refine z_get (pc := 1) F 0 0 3 (v := .ref (zad K 10 0)) (by decide) (fun _ => rfl) rfl (by decide) inlX8 lk_RX8_35 rfl dX8_rows_1 ?_
  refine z_iload_n (pc := 4) F dX8_rows_4 rfl ?_
  refine z_callNq (pc := 5) (st := []) F 10 0 [.int a1] cl_RX8_153 (tX2_find (zln K) σ a1) rfl (by decide) (fun _ => ⟨_, rfl⟩) rfl (by rw [hR]; exact ⟨rfl, rfl, Nat.le_of_ble_eq_true rfl, Nat.le_of_ble_eq_true rfl⟩) rfl rfl (Nat.le_of_ble_eq_true rfl) dX8_rows_5 (fun s1 => ?_) (fun i2 s1 => ?_)
  · refine z_astoreN (pc := 8) F (lv' := [some (.ref (zad K 0 0)), some (.int a1), some (.int a2), some (.int a3), some (.null), none]) dX8_rows_8 (zlt rfl) rfl ?_
    refine z_aload_n (pc := 10) F dX8_rows_10 rfl ?_
    refine z_get (pc := 11) F 0 0 3 (v := .ref (zad K 10 0)) (by decide) (fun _ => rfl) rfl (by decide) inlX8 lk_RX8_35 rfl dX8_rows_11 ?_
    refine z_iload_n (pc := 14) F dX8_rows_14 rfl ?_
    refine z_iload_n (pc := 15) F dX8_rows_15 rfl ?_
    refine z_callNq (pc := 16) (st := []) F 10 0 [.int a1, .int a2] cl_RX8_144 (tX2_nodeOf (zln K) s1 a1 a2) rfl (by decide) (fun _ => ⟨_, rfl⟩) rfl (by rw [hR]; exact ⟨rfl, rfl, Nat.le_of_ble_eq_true rfl, Nat.le_of_ble_eq_true rfl⟩) rfl rfl (Nat.le_of_ble_eq_true rfl) dX8_rows_16 (fun s4 => ?_) (fun i5 s4 => ?_)
    · refine z_astoreN (pc := 19) F (lv' := [some (.ref (zad K 0 0)), some (.int a1), some (.int a2), some (.int a3), some (.null), some (.null)]) dX8_rows_19 (zlt rfl) rfl ?_
      refine z_aloadN (pc := 21) F dX8_rows_21 rfl ?_
      refine z_ifnullN (pc := 23) F 31 dX8_rows_23 (by decide) ?_
      refine z_iconst (pc := 31) F (v := -1) dX8_rows_31 (by decide) ?_
      exact z_iret (pc := 32) F E dX8_rows_32
    · refine z_gd (fun h6 => ?_)
      refine z_astore (pc := 19) F (lv' := [some (.ref (zad K 0 0)), some (.int a1), some (.int a2), some (.int a3), some (.null), some (.ref (zad K 15 i5))]) dX8_rows_19 (zlt rfl) rfl ?_
      refine z_aloadN (pc := 21) F dX8_rows_21 rfl ?_
      refine z_ifnullN (pc := 23) F 31 dX8_rows_23 (by decide) ?_
      refine z_iconst (pc := 31) F (v := -1) dX8_rows_31 (by decide) ?_
      exact z_iret (pc := 32) F E dX8_rows_32
  · refine z_gd (fun h3 => ?_)
    refine z_astore (pc := 8) F (lv' := [some (.ref (zad K 0 0)), some (.int a1), some (.int a2), some (.int a3), some (.ref (zad K 13 i2)), none]) dX8_rows_8 (zlt rfl) rfl ?_
    refine z_aload_n (pc := 10) F dX8_rows_10 rfl ?_
    refine z_get (pc := 11) F 0 0 3 (v := .ref (zad K 10 0)) (by decide) (fun _ => rfl) rfl (by decide) inlX8 lk_RX8_35 rfl dX8_rows_11 ?_
    refine z_iload_n (pc := 14) F dX8_rows_14 rfl ?_
    refine z_iload_n (pc := 15) F dX8_rows_15 rfl ?_
    refine z_callNq (pc := 16) (st := []) F 10 0 [.int a1, .int a2] cl_RX8_144 (tX2_nodeOf (zln K) s1 a1 a2) rfl (by decide) (fun _ => ⟨_, rfl⟩) rfl (by rw [hR]; exact ⟨rfl, rfl, Nat.le_of_ble_eq_true rfl, Nat.le_of_ble_eq_true rfl⟩) rfl rfl (Nat.le_of_ble_eq_true rfl) dX8_rows_16 (fun s7 => ?_) (fun i8 s7 => ?_)
    · refine z_astoreN (pc := 19) F (lv' := [some (.ref (zad K 0 0)), some (.int a1), some (.int a2), some (.int a3), some (.ref (zad K 13 i2)), some (.null)]) dX8_rows_19 (zlt rfl) rfl ?_
      refine z_aload (pc := 21) F dX8_rows_21 rfl ?_
      refine z_ifnull (pc := 23) F dX8_rows_23 ?_
      refine z_aloadN (pc := 26) F dX8_rows_26 rfl ?_
      refine z_ifnonnullN (pc := 28) F dX8_rows_28 ?_
      refine z_iconst (pc := 31) F (v := -1) dX8_rows_31 (by decide) ?_
      exact z_iret (pc := 32) F E dX8_rows_32
    · refine z_gd (fun h9 => ?_)
      refine z_astore (pc := 19) F (lv' := [some (.ref (zad K 0 0)), some (.int a1), some (.int a2), some (.int a3), some (.ref (zad K 13 i2)), some (.ref (zad K 15 i8))]) dX8_rows_19 (zlt rfl) rfl ?_
      refine z_aload (pc := 21) F dX8_rows_21 rfl ?_
      refine z_ifnull (pc := 23) F dX8_rows_23 ?_
      refine z_aload (pc := 26) F dX8_rows_26 rfl ?_
      refine z_ifnonnull (pc := 28) F 33 dX8_rows_28 (by decide) ?_
      refine z_iload_n (pc := 33) F dX8_rows_33 rfl ?_
      refine z_iconst (pc := 34) F (v := -1) dX8_rows_34 (by decide) ?_
      refine z_icmp_lt (pc := 35) F 44 dX8_rows_35 (by decide) (fun h14 => ?_) (fun h14 => ?_)
      · refine z_bipush (pc := 44) F (v := -2) dX8_rows_44 (by decide) ?_
        exact z_iret (pc := 46) F E dX8_rows_46
      · refine z_iload_n (pc := 38) F dX8_rows_38 rfl ?_
        refine z_bipush (pc := 39) F (v := 59) dX8_rows_39 (by decide) ?_
        refine z_icmp_le (pc := 41) F 47 dX8_rows_41 (by decide) (fun h13 => ?_) (fun h13 => ?_)
        · refine z_aload_n (pc := 47) F dX8_rows_47 rfl ?_
          refine z_get (pc := 48) F 0 0 4 (v := .ref (zad K 19 0)) (by decide) (fun _ => rfl) rfl (by decide) inlX8 lk_RX8_42 rfl dX8_rows_48 ?_
          refine z_aload (pc := 51) F dX8_rows_51 rfl ?_
          refine z_aload (pc := 53) F dX8_rows_53 rfl ?_
          refine z_getN (pc := 55) F 13 i2 2 (v := .int (s7 13 i2 2)) h3 (fun _ => rfl) rfl (by decide) inlX1 lk_RX8_160 rfl dX8_rows_55 ?_
          refine z_callNv (pc := 58) (st := []) F 19 0 [.ref (zad K 15 i8), .int (s7 13 i2 2)] cl_RX8_205 (tX4_writeRows (zln K) s7 i8 (s7 13 i2 2) h9) rfl (by decide) (fun _ => ⟨_, rfl⟩) rfl (by rw [hR]; exact ⟨rfl, rfl, Nat.le_of_ble_eq_true rfl, Nat.le_of_ble_eq_true rfl⟩) rfl rfl (Nat.le_of_ble_eq_true rfl) dX8_rows_58 (fun s10 => ?_)
          refine z_aload_n (pc := 61) F dX8_rows_61 rfl ?_
          refine z_get (pc := 62) F 0 0 4 (v := .ref (zad K 19 0)) (by decide) (fun _ => rfl) rfl (by decide) inlX8 lk_RX8_42 rfl dX8_rows_62 ?_
          refine z_iload_n (pc := 65) F dX8_rows_65 rfl ?_
          refine z_callNi (pc := 66) (st := []) F 19 0 [.int a3] cl_RX8_202 (tX4_answer (zln K) s10 a3) rfl (by decide) (fun _ => ⟨_, rfl⟩) rfl (by rw [hR]; exact ⟨rfl, rfl, Nat.le_of_ble_eq_true rfl, Nat.le_of_ble_eq_true rfl⟩) rfl rfl (Nat.le_of_ble_eq_true rfl) dX8_rows_66 (fun x12 s11 => ?_)
          exact z_iret (pc := 69) F E dX8_rows_69
        · refine z_bipush (pc := 44) F (v := -2) dX8_rows_44 (by decide) ?_
          exact z_iret (pc := 46) F E dX8_rows_46
def fX8_send (a1 : Int32) (σ : zS) : Option (Int32 × zS) := zCi (fX6_isSum a1 σ) (fun x2 s1 => if x2 = 0 then some ((-2 : Int32), s1) else zCi (fX6_deliver a1 s1) (fun x4 s3 => some (x4, s3)))
abbrev rmX8_send : Room := { frames := 4, cells := 0, slots := 0, locals := 93 }
set_option maxRecDepth 100000 in
set_option maxHeartbeats 4000000 in
theorem tX8_send (l : Launch) (σ : zS) (a1 : Int32) : zMi l yX8_send cX8_send 2 (some .int) rmX8_send (fun ad => [.ref (ad 0 0), .int a1]) σ (fX8_send a1 σ) := by
  refine zMi.of RX8 (by decide +kernel) rfl (fun _ => Nat.le_of_ble_eq_true rfl) (fun _ => zcat rfl) (fun K t F hR hL E => ?_)
  show ZO K t 0 [some (.ref (zad K 0 0)), some (.int a1)] [] σ (zCi (fX6_isSum a1 σ) (fun x2 s1 => if x2 = 0 then some ((-2 : Int32), s1) else zCi (fX6_deliver a1 s1) (fun x4 s3 => some (x4, s3))))
  refine z_aload_n (pc := 0) F dX8_send_0 rfl ?_
  refine z_get (pc := 1) F 0 0 0 (v := .ref (zad K 1 0)) (by decide) (fun _ => rfl) rfl (by decide) inlX8 lk_RX8_12 rfl dX8_send_1 ?_
  refine z_iload_n (pc := 4) F dX8_send_4 rfl ?_
  refine z_callNi (pc := 5) (st := []) F 1 0 [.int a1] cl_RX8_107 (tX6_isSum (zln K) σ a1) rfl (by decide) (fun _ => ⟨_, rfl⟩) rfl (by rw [hR]; exact ⟨rfl, rfl, Nat.le_of_ble_eq_true rfl, Nat.le_of_ble_eq_true rfl⟩) rfl rfl (Nat.le_of_ble_eq_true rfl) dX8_send_5 (fun x2 s1 => ?_)
  refine z_if_eq (pc := 8) F 22 dX8_send_8 (by decide) (fun h5 => ?_) (fun h5 => ?_)
  · refine z_bipush (pc := 22) F (v := -2) dX8_send_22 (by decide) ?_
    exact z_iret (pc := 24) F E dX8_send_24
  · refine z_aload_n (pc := 11) F dX8_send_11 rfl ?_
    refine z_get (pc := 12) F 0 0 0 (v := .ref (zad K 1 0)) (by decide) (fun _ => rfl) rfl (by decide) inlX8 lk_RX8_12 rfl dX8_send_12 ?_
    refine z_iload_n (pc := 15) F dX8_send_15 rfl ?_
    refine z_callNi (pc := 16) (st := []) F 1 0 [.int a1] cl_RX8_126 (tX6_deliver (zln K) s1 a1) rfl (by decide) (fun _ => ⟨_, rfl⟩) rfl (by rw [hR]; exact ⟨rfl, rfl, Nat.le_of_ble_eq_true rfl, Nat.le_of_ble_eq_true rfl⟩) rfl rfl (Nat.le_of_ble_eq_true rfl) dX8_send_16 (fun x4 s3 => ?_)
    refine z_goto (pc := 19) F 24 dX8_send_19 (by decide) ?_
    exact z_iret (pc := 24) F E dX8_send_24
def fX8_serve_15 (a1 : Int32) (k15_1 : zS → Option (Int32 × zS)) : Nat → Int32 → zS → Option (Int32 × zS)
  | 0, _, _ => none
  | (n15_1 + 1), v2_15_1, w15_1 => if a1 ≤ v2_15_1 then k15_1 w15_1 else zCi (fX6_findBest w15_1) (fun x3 s2 => if x3 = 0 then some (v2_15_1, s2) else zCi (fX6_deliver x3 s2) (fun x5 s4 => zB (v2_15_1 + 1) (fun x6 => fX8_serve_15 a1 k15_1 n15_1 x6 s4)))
def fX8_serve (a1 : Int32) (σ : zS) : Option (Int32 × zS) := if a1 < 0 then some ((-2 : Int32), σ) else if a1 ≤ (16 : Int32) then fX8_serve_15 a1 (fun (y15_1 : zS) => (some (a1, y15_1) : Option (Int32 × zS))) zN (0 : Int32) σ else some ((-2 : Int32), σ)
abbrev rmX8_serve : Room := { frames := 4, cells := 0, slots := 0, locals := 95 }
set_option maxRecDepth 100000 in
set_option maxHeartbeats 4000000 in
theorem tX8_serve (l : Launch) (σ : zS) (a1 : Int32) : zMi l yX8_serve cX8_serve 4 (some .int) rmX8_serve (fun ad => [.ref (ad 0 0), .int a1]) σ (fX8_serve a1 σ) := by
  refine zMi.of RX8 (by decide +kernel) rfl (fun _ => Nat.le_of_ble_eq_true rfl) (fun _ => zcat rfl) (fun K t F hR hL E => ?_)
  show ZO K t 0 [some (.ref (zad K 0 0)), some (.int a1), none, none] [] σ (if a1 < 0 then some ((-2 : Int32), σ) else if a1 ≤ (16 : Int32) then fX8_serve_15 a1 (fun (y15_1 : zS) => (some (a1, y15_1) : Option (Int32 × zS))) zN (0 : Int32) σ else some ((-2 : Int32), σ))
  refine z_iload_n (pc := 0) F dX8_serve_0 rfl ?_
  refine z_if_lt (pc := 1) F 10 dX8_serve_1 (by decide) (fun h10 => ?_) (fun h10 => ?_)
  · refine z_bipush (pc := 10) F (v := -2) dX8_serve_10 (by decide) ?_
    exact z_iret (pc := 12) F E dX8_serve_12
  · refine z_iload_n (pc := 4) F dX8_serve_4 rfl ?_
    refine z_bipush (pc := 5) F (v := 16) dX8_serve_5 (by decide) ?_
    refine z_icmp_le (pc := 7) F 13 dX8_serve_7 (by decide) (fun h9 => ?_) (fun h9 => ?_)
    · refine z_iconst (pc := 13) F (v := 0) dX8_serve_13 (by decide) ?_
      refine z_istore_n (pc := 14) F (lv' := [some (.ref (zad K 0 0)), some (.int a1), some (.int (0 : Int32)), none]) dX8_serve_14 (zlt rfl) rfl ?_
      have hk15_1 : ∀ (y15_1 : zS), ZO K t 49 [none, some (.int a1), none, none] [] y15_1 ((fun (y15_1 : zS) => (some (a1, y15_1) : Option (Int32 × zS))) y15_1) := by
        intro y15_1
        show ZO K t 49 [none, some (.int a1), none, none] [] y15_1 (some (a1, y15_1))
        refine z_iload_n (pc := 49) F dX8_serve_49 rfl ?_
        exact z_iret (pc := 50) F E dX8_serve_50
      have L15_1 : ∀ (n15_1 : Nat) (v2_15_1 : Int32) (w15_1 : zS), ZO K t 15 [some (.ref (zad K 0 0)), some (.int a1), some (.int v2_15_1), none] [] w15_1 (fX8_serve_15 a1 (fun (y15_1 : zS) => (some (a1, y15_1) : Option (Int32 × zS))) n15_1 v2_15_1 w15_1) := by
        revert hk15_1; generalize (fun (y15_1 : zS) => (some (a1, y15_1) : Option (Int32 × zS))) = k15_1; intro hk15_1
        intro n15_1
        induction n15_1 with
        | zero => intro v2_15_1 w15_1; exact z_none
        | succ n15_1 ih15_1 =>
          intro v2_15_1 w15_1
          show ZO K t 15 [some (.ref (zad K 0 0)), some (.int a1), some (.int v2_15_1), none] [] w15_1 (if a1 ≤ v2_15_1 then k15_1 w15_1 else zCi (fX6_findBest w15_1) (fun x3 s2 => if x3 = 0 then some (v2_15_1, s2) else zCi (fX6_deliver x3 s2) (fun x5 s4 => zB (v2_15_1 + 1) (fun x6 => fX8_serve_15 a1 k15_1 n15_1 x6 s4))))
          refine z_iload_n (pc := 15) F dX8_serve_15 rfl ?_
          refine z_iload_n (pc := 16) F dX8_serve_16 rfl ?_
          refine z_icmp_ge (pc := 17) F 49 dX8_serve_17 (by decide) (fun h8 => ?_) (fun h8 => ?_)
          · refine z_wk [false, true, false, true] (lv' := [none, some (.int a1), none, none]) rfl ?_
            exact hk15_1  w15_1
          · refine z_aload_n (pc := 20) F dX8_serve_20 rfl ?_
            refine z_get (pc := 21) F 0 0 0 (v := .ref (zad K 1 0)) (by decide) (fun _ => rfl) rfl (by decide) inlX8 lk_RX8_12 rfl dX8_serve_21 ?_
            refine z_callNi (pc := 24) (st := []) F 1 0 [] cl_RX8_122 (tX6_findBest (zln K) w15_1 ) rfl (by decide) (fun _ => ⟨_, rfl⟩) rfl (by rw [hR]; exact ⟨rfl, rfl, Nat.le_of_ble_eq_true rfl, Nat.le_of_ble_eq_true rfl⟩) rfl rfl (Nat.le_of_ble_eq_true rfl) dX8_serve_24 (fun x3 s2 => ?_)
            refine z_istore_n (pc := 27) F (lv' := [some (.ref (zad K 0 0)), some (.int a1), some (.int v2_15_1), some (.int x3)]) dX8_serve_27 (zlt rfl) rfl ?_
            refine z_iload_n (pc := 28) F dX8_serve_28 rfl ?_
            refine z_if_ne (pc := 29) F 34 dX8_serve_29 (by decide) (fun h7 => ?_) (fun h7 => ?_)
            · refine z_aload_n (pc := 34) F dX8_serve_34 rfl ?_
              refine z_get (pc := 35) F 0 0 0 (v := .ref (zad K 1 0)) (by decide) (fun _ => rfl) rfl (by decide) inlX8 lk_RX8_12 rfl dX8_serve_35 ?_
              refine z_iload_n (pc := 38) F dX8_serve_38 rfl ?_
              refine z_callNi (pc := 39) (st := []) F 1 0 [.int x3] cl_RX8_126 (tX6_deliver (zln K) s2 x3) rfl (by decide) (fun _ => ⟨_, rfl⟩) rfl (by rw [hR]; exact ⟨rfl, rfl, Nat.le_of_ble_eq_true rfl, Nat.le_of_ble_eq_true rfl⟩) rfl rfl (Nat.le_of_ble_eq_true rfl) dX8_serve_39 (fun x5 s4 => ?_)
              refine z_pop (pc := 42) F dX8_serve_42 rfl ?_
              refine z_iincB (pc := 43) F (lv' := fun x6 => [some (.ref (zad K 0 0)), some (.int a1), some (.int x6), some (.int x3)]) dX8_serve_43 rfl rfl (fun _ => rfl) (fun x6 => ?_)
              refine z_goto (pc := 46) F 15 dX8_serve_46 (by decide) ?_
              refine z_wk [true, true, true, false] (lv' := [some (.ref (zad K 0 0)), some (.int a1), some (.int x6), none]) rfl ?_
              exact ih15_1 x6 s4
            · refine z_iload_n (pc := 32) F dX8_serve_32 rfl ?_
              exact z_iret (pc := 33) F E dX8_serve_33
      exact L15_1 zN (0 : Int32) σ
    · refine z_bipush (pc := 10) F (v := -2) dX8_serve_10 (by decide) ?_
      exact z_iret (pc := 12) F E dX8_serve_12
def fX8_sum (a1 : Int32) (a2 : Int32) (σ : zS) : Option (Int32 × zS) := zCi (fX6_isSum a1 σ) (fun x2 s1 => if x2 = 0 then some ((-2 : Int32), s1) else if a2 = 0 then zCi (fX6_bodyOf a1 s1) (fun x4 s3 => some (x4, s3)) else if a2 = 1 then zCi (fX6_countServed a1 s1) (fun x6 s5 => some (x6, s5)) else if a2 = 2 then zCi (fX6_openers a1 s1) (fun x8 s7 => some (x8, s7)) else some ((-2 : Int32), s1))
abbrev rmX8_sum : Room := { frames := 3, cells := 0, slots := 0, locals := 67 }
set_option maxRecDepth 100000 in
set_option maxHeartbeats 4000000 in
theorem tX8_sum (l : Launch) (σ : zS) (a1 : Int32) (a2 : Int32) : zMi l yX8_sum cX8_sum 3 (some .int) rmX8_sum (fun ad => [.ref (ad 0 0), .int a1, .int a2]) σ (fX8_sum a1 a2 σ) := by
  refine zMi.of RX8 (by decide +kernel) rfl (fun _ => Nat.le_of_ble_eq_true rfl) (fun _ => zcat rfl) (fun K t F hR hL E => ?_)
  show ZO K t 0 [some (.ref (zad K 0 0)), some (.int a1), some (.int a2)] [] σ (zCi (fX6_isSum a1 σ) (fun x2 s1 => if x2 = 0 then some ((-2 : Int32), s1) else if a2 = 0 then zCi (fX6_bodyOf a1 s1) (fun x4 s3 => some (x4, s3)) else if a2 = 1 then zCi (fX6_countServed a1 s1) (fun x6 s5 => some (x6, s5)) else if a2 = 2 then zCi (fX6_openers a1 s1) (fun x8 s7 => some (x8, s7)) else some ((-2 : Int32), s1)))
  refine z_aload_n (pc := 0) F dX8_sum_0 rfl ?_
  refine z_get (pc := 1) F 0 0 0 (v := .ref (zad K 1 0)) (by decide) (fun _ => rfl) rfl (by decide) inlX8 lk_RX8_12 rfl dX8_sum_1 ?_
  refine z_iload_n (pc := 4) F dX8_sum_4 rfl ?_
  refine z_callNi (pc := 5) (st := []) F 1 0 [.int a1] cl_RX8_107 (tX6_isSum (zln K) σ a1) rfl (by decide) (fun _ => ⟨_, rfl⟩) rfl (by rw [hR]; exact ⟨rfl, rfl, Nat.le_of_ble_eq_true rfl, Nat.le_of_ble_eq_true rfl⟩) rfl rfl (Nat.le_of_ble_eq_true rfl) dX8_sum_5 (fun x2 s1 => ?_)
  refine z_if_ne (pc := 8) F 14 dX8_sum_8 (by decide) (fun h9 => ?_) (fun h9 => ?_)
  · refine z_iload_n (pc := 14) F dX8_sum_14 rfl ?_
    refine z_sp (fun hs15_0 => ?_) (fun hs15_0 => ?_)
    · rw [hs15_0]
      refine z_tabIn (pc := 15) F 40 dX8_sum_15 (by decide) (by decide) rfl (by decide) ?_
      refine z_aload_n (pc := 40) F dX8_sum_40 rfl ?_
      refine z_get (pc := 41) F 0 0 0 (v := .ref (zad K 1 0)) (by decide) (fun _ => rfl) rfl (by decide) inlX8 lk_RX8_12 rfl dX8_sum_41 ?_
      refine z_iload_n (pc := 44) F dX8_sum_44 rfl ?_
      refine z_callNi (pc := 45) (st := []) F 1 0 [.int a1] cl_RX8_113 (tX6_bodyOf (zln K) s1 a1) rfl (by decide) (fun _ => ⟨_, rfl⟩) rfl (by rw [hR]; exact ⟨rfl, rfl, Nat.le_of_ble_eq_true rfl, Nat.le_of_ble_eq_true rfl⟩) rfl rfl (Nat.le_of_ble_eq_true rfl) dX8_sum_45 (fun x4 s3 => ?_)
      exact z_iret (pc := 48) F E dX8_sum_48
    refine z_sp (fun hs15_1 => ?_) (fun hs15_1 => ?_)
    · rw [hs15_1]
      refine z_tabIn (pc := 15) F 49 dX8_sum_15 (by decide) (by decide) rfl (by decide) ?_
      refine z_aload_n (pc := 49) F dX8_sum_49 rfl ?_
      refine z_get (pc := 50) F 0 0 0 (v := .ref (zad K 1 0)) (by decide) (fun _ => rfl) rfl (by decide) inlX8 lk_RX8_12 rfl dX8_sum_50 ?_
      refine z_iload_n (pc := 53) F dX8_sum_53 rfl ?_
      refine z_callNi (pc := 54) (st := []) F 1 0 [.int a1] cl_RX8_116 (tX6_countServed (zln K) s1 a1) rfl (by decide) (fun _ => ⟨_, rfl⟩) rfl (by rw [hR]; exact ⟨rfl, rfl, Nat.le_of_ble_eq_true rfl, Nat.le_of_ble_eq_true rfl⟩) rfl rfl (Nat.le_of_ble_eq_true rfl) dX8_sum_54 (fun x6 s5 => ?_)
      exact z_iret (pc := 57) F E dX8_sum_57
    refine z_sp (fun hs15_2 => ?_) (fun hs15_2 => ?_)
    · rw [hs15_2]
      refine z_tabIn (pc := 15) F 58 dX8_sum_15 (by decide) (by decide) rfl (by decide) ?_
      refine z_aload_n (pc := 58) F dX8_sum_58 rfl ?_
      refine z_get (pc := 59) F 0 0 0 (v := .ref (zad K 1 0)) (by decide) (fun _ => rfl) rfl (by decide) inlX8 lk_RX8_12 rfl dX8_sum_59 ?_
      refine z_iload_n (pc := 62) F dX8_sum_62 rfl ?_
      refine z_callNi (pc := 63) (st := []) F 1 0 [.int a1] cl_RX8_119 (tX6_openers (zln K) s1 a1) rfl (by decide) (fun _ => ⟨_, rfl⟩) rfl (by rw [hR]; exact ⟨rfl, rfl, Nat.le_of_ble_eq_true rfl, Nat.le_of_ble_eq_true rfl⟩) rfl rfl (Nat.le_of_ble_eq_true rfl) dX8_sum_63 (fun x8 s7 => ?_)
      exact z_iret (pc := 66) F E dX8_sum_66
    refine z_tabOut (pc := 15) F 67 dX8_sum_15 (zTab 2 (fun j hj => match j, hj with | 0, _ => hs15_0 | 1, _ => hs15_1 | 2, _ => hs15_2 | (j + 3), hj => absurd hj (by omega))) (by decide) ?_
    refine z_bipush (pc := 67) F (v := -2) dX8_sum_67 (by decide) ?_
    exact z_iret (pc := 69) F E dX8_sum_69
  · refine z_bipush (pc := 11) F (v := -2) dX8_sum_11 (by decide) ?_
    exact z_iret (pc := 13) F E dX8_sum_13
def fX8_sweep (σ : zS) : Option (Int32 × zS) := zCi (fX2_takeOutDone σ) (fun x2 s1 => some (x2, s1))
abbrev rmX8_sweep : Room := { frames := 3, cells := 0, slots := 0, locals := 66 }
set_option maxRecDepth 100000 in
set_option maxHeartbeats 4000000 in
theorem tX8_sweep (l : Launch) (σ : zS) : zMi l yX8_sweep cX8_sweep 1 (some .int) rmX8_sweep (fun ad => [.ref (ad 0 0)]) σ (fX8_sweep σ) := by
  refine zMi.of RX8 (by decide +kernel) rfl (fun _ => Nat.le_of_ble_eq_true rfl) (fun _ => zcat rfl) (fun K t F hR hL E => ?_)
  show ZO K t 0 [some (.ref (zad K 0 0))] [] σ (zCi (fX2_takeOutDone σ) (fun x2 s1 => some (x2, s1)))
  refine z_aload_n (pc := 0) F dX8_sweep_0 rfl ?_
  refine z_get (pc := 1) F 0 0 3 (v := .ref (zad K 10 0)) (by decide) (fun _ => rfl) rfl (by decide) inlX8 lk_RX8_35 rfl dX8_sweep_1 ?_
  refine z_callNi (pc := 4) (st := []) F 10 0 [] cl_RX8_186 (tX2_takeOutDone (zln K) σ ) rfl (by decide) (fun _ => ⟨_, rfl⟩) rfl (by rw [hR]; exact ⟨rfl, rfl, Nat.le_of_ble_eq_true rfl, Nat.le_of_ble_eq_true rfl⟩) rfl rfl (Nat.le_of_ble_eq_true rfl) dX8_sweep_4 (fun x2 s1 => ?_)
  exact z_iret (pc := 7) F E dX8_sweep_7
def fX8_text (a1 : Int32) (a2 : Int32) (σ : zS) : Option (Int32 × zS) := zCi (fX6_isSum a1 σ) (fun x2 s1 => if x2 = 0 then some ((-2 : Int32), s1) else if a2 < (-1 : Int32) then some ((-2 : Int32), s1) else if a2 ≤ (39 : Int32) then zCi (fX6_bodyOf a1 s1) (fun x4 s3 => zCv (fX4_writeSum a1 x4 s3) (fun s5 => zCi (fX4_answer a2 s5) (fun x7 s6 => some (x7, s6)))) else some ((-2 : Int32), s1))
abbrev rmX8_text : Room := { frames := 4, cells := 0, slots := 0, locals := 86 }
set_option maxRecDepth 100000 in
set_option maxHeartbeats 4000000 in
theorem tX8_text (l : Launch) (σ : zS) (a1 : Int32) (a2 : Int32) : zMi l yX8_text cX8_text 3 (some .int) rmX8_text (fun ad => [.ref (ad 0 0), .int a1, .int a2]) σ (fX8_text a1 a2 σ) := by
  refine zMi.of RX8 (by decide +kernel) rfl (fun _ => Nat.le_of_ble_eq_true rfl) (fun _ => zcat rfl) (fun K t F hR hL E => ?_)
  show ZO K t 0 [some (.ref (zad K 0 0)), some (.int a1), some (.int a2)] [] σ (zCi (fX6_isSum a1 σ) (fun x2 s1 => if x2 = 0 then some ((-2 : Int32), s1) else if a2 < (-1 : Int32) then some ((-2 : Int32), s1) else if a2 ≤ (39 : Int32) then zCi (fX6_bodyOf a1 s1) (fun x4 s3 => zCv (fX4_writeSum a1 x4 s3) (fun s5 => zCi (fX4_answer a2 s5) (fun x7 s6 => some (x7, s6)))) else some ((-2 : Int32), s1)))
  refine z_aload_n (pc := 0) F dX8_text_0 rfl ?_
  refine z_get (pc := 1) F 0 0 0 (v := .ref (zad K 1 0)) (by decide) (fun _ => rfl) rfl (by decide) inlX8 lk_RX8_12 rfl dX8_text_1 ?_
  refine z_iload_n (pc := 4) F dX8_text_4 rfl ?_
  refine z_callNi (pc := 5) (st := []) F 1 0 [.int a1] cl_RX8_107 (tX6_isSum (zln K) σ a1) rfl (by decide) (fun _ => ⟨_, rfl⟩) rfl (by rw [hR]; exact ⟨rfl, rfl, Nat.le_of_ble_eq_true rfl, Nat.le_of_ble_eq_true rfl⟩) rfl rfl (Nat.le_of_ble_eq_true rfl) dX8_text_5 (fun x2 s1 => ?_)
  refine z_if_eq (pc := 8) F 22 dX8_text_8 (by decide) (fun h10 => ?_) (fun h10 => ?_)
  · refine z_bipush (pc := 22) F (v := -2) dX8_text_22 (by decide) ?_
    exact z_iret (pc := 24) F E dX8_text_24
  · refine z_iload_n (pc := 11) F dX8_text_11 rfl ?_
    refine z_iconst (pc := 12) F (v := -1) dX8_text_12 (by decide) ?_
    refine z_icmp_lt (pc := 13) F 22 dX8_text_13 (by decide) (fun h9 => ?_) (fun h9 => ?_)
    · refine z_bipush (pc := 22) F (v := -2) dX8_text_22 (by decide) ?_
      exact z_iret (pc := 24) F E dX8_text_24
    · refine z_iload_n (pc := 16) F dX8_text_16 rfl ?_
      refine z_bipush (pc := 17) F (v := 39) dX8_text_17 (by decide) ?_
      refine z_icmp_le (pc := 19) F 25 dX8_text_19 (by decide) (fun h8 => ?_) (fun h8 => ?_)
      · refine z_aload_n (pc := 25) F dX8_text_25 rfl ?_
        refine z_get (pc := 26) F 0 0 4 (v := .ref (zad K 19 0)) (by decide) (fun _ => rfl) rfl (by decide) inlX8 lk_RX8_42 rfl dX8_text_26 ?_
        refine z_iload_n (pc := 29) F dX8_text_29 rfl ?_
        refine z_aload_n (pc := 30) F dX8_text_30 rfl ?_
        refine z_get (pc := 31) F 0 0 0 (v := .ref (zad K 1 0)) (by decide) (fun _ => rfl) rfl (by decide) inlX8 lk_RX8_12 rfl dX8_text_31 ?_
        refine z_iload_n (pc := 34) F dX8_text_34 rfl ?_
        refine z_callNi (pc := 35) (st := [.int a1, .ref (zad K 19 0)]) F 1 0 [.int a1] cl_RX8_113 (tX6_bodyOf (zln K) s1 a1) rfl (by decide) (fun _ => ⟨_, rfl⟩) rfl (by rw [hR]; exact ⟨rfl, rfl, Nat.le_of_ble_eq_true rfl, Nat.le_of_ble_eq_true rfl⟩) rfl rfl (Nat.le_of_ble_eq_true rfl) dX8_text_35 (fun x4 s3 => ?_)
        refine z_callNv (pc := 38) (st := []) F 19 0 [.int a1, .int x4] cl_RX8_199 (tX4_writeSum (zln K) s3 a1 x4) rfl (by decide) (fun _ => ⟨_, rfl⟩) rfl (by rw [hR]; exact ⟨rfl, rfl, Nat.le_of_ble_eq_true rfl, Nat.le_of_ble_eq_true rfl⟩) rfl rfl (Nat.le_of_ble_eq_true rfl) dX8_text_38 (fun s5 => ?_)
        refine z_aload_n (pc := 41) F dX8_text_41 rfl ?_
        refine z_get (pc := 42) F 0 0 4 (v := .ref (zad K 19 0)) (by decide) (fun _ => rfl) rfl (by decide) inlX8 lk_RX8_42 rfl dX8_text_42 ?_
        refine z_iload_n (pc := 45) F dX8_text_45 rfl ?_
        refine z_callNi (pc := 46) (st := []) F 19 0 [.int a2] cl_RX8_202 (tX4_answer (zln K) s5 a2) rfl (by decide) (fun _ => ⟨_, rfl⟩) rfl (by rw [hR]; exact ⟨rfl, rfl, Nat.le_of_ble_eq_true rfl, Nat.le_of_ble_eq_true rfl⟩) rfl rfl (Nat.le_of_ble_eq_true rfl) dX8_text_46 (fun x7 s6 => ?_)
        exact z_iret (pc := 49) F E dX8_text_49
      · refine z_bipush (pc := 22) F (v := -2) dX8_text_22 (by decide) ?_
        exact z_iret (pc := 24) F E dX8_text_24
def fX8_want (a1 : Int32) (a2 : Int32) (σ : zS) : Option (Int32 × zS) := zCi (fX8_isStation a2 σ) (fun x2 s1 => if x2 = 0 then some ((-1 : Int32), s1) else zCi (fX6_isThere a1 s1) (fun x4 s3 => if x4 = 0 then some ((-1 : Int32), s3) else zCi (fX6_holds a2 a1 s3) (fun x6 s5 => if x6 = 0 then zCi (fX5_indexOf a1 a2 s5) (fun x8 s7 => if x8 < 0 then zCi (fX5_add a1 a2 s7) (fun x10 s9 => if x10 = 0 then some ((-4 : Int32), s9) else some (s9 4 0 2, s9)) else some ((-3 : Int32), s7)) else some ((-3 : Int32), s5))))
abbrev rmX8_want : Room := { frames := 1, cells := 0, slots := 0, locals := 23 }
set_option maxRecDepth 100000 in
set_option maxHeartbeats 4000000 in
theorem tX8_want (l : Launch) (σ : zS) (a1 : Int32) (a2 : Int32) : zMi l yX8_want cX8_want 3 (some .int) rmX8_want (fun ad => [.ref (ad 0 0), .int a1, .int a2]) σ (fX8_want a1 a2 σ) := by
  refine zMi.of RX8 (by decide +kernel) rfl (fun _ => Nat.le_of_ble_eq_true rfl) (fun _ => zcat rfl) (fun K t F hR hL E => ?_)
  show ZO K t 0 [some (.ref (zad K 0 0)), some (.int a1), some (.int a2)] [] σ (zCi (fX8_isStation a2 σ) (fun x2 s1 => if x2 = 0 then some ((-1 : Int32), s1) else zCi (fX6_isThere a1 s1) (fun x4 s3 => if x4 = 0 then some ((-1 : Int32), s3) else zCi (fX6_holds a2 a1 s3) (fun x6 s5 => if x6 = 0 then zCi (fX5_indexOf a1 a2 s5) (fun x8 s7 => if x8 < 0 then zCi (fX5_add a1 a2 s7) (fun x10 s9 => if x10 = 0 then some ((-4 : Int32), s9) else some (s9 4 0 2, s9)) else some ((-3 : Int32), s7)) else some ((-3 : Int32), s5)))))
  refine z_iload_n (pc := 0) F dX8_want_0 rfl ?_
  refine z_callSi (pc := 1) (st := []) F [.int a2] cl_RX8_58 (tX8_isStation (zln K) σ a2) rfl (by rw [hR]; exact ⟨rfl, rfl, Nat.le_of_ble_eq_true rfl, Nat.le_of_ble_eq_true rfl⟩) rfl rfl (Nat.le_of_ble_eq_true rfl) dX8_want_1 (fun x2 s1 => ?_)
  refine z_if_eq (pc := 4) F 18 dX8_want_4 (by decide) (fun h15 => ?_) (fun h15 => ?_)
  · refine z_iconst (pc := 18) F (v := -1) dX8_want_18 (by decide) ?_
    exact z_iret (pc := 19) F E dX8_want_19
  · refine z_aload_n (pc := 7) F dX8_want_7 rfl ?_
    refine z_get (pc := 8) F 0 0 0 (v := .ref (zad K 1 0)) (by decide) (fun _ => rfl) rfl (by decide) inlX8 lk_RX8_12 rfl dX8_want_8 ?_
    refine z_iload_n (pc := 11) F dX8_want_11 rfl ?_
    refine z_callNi (pc := 12) (st := []) F 1 0 [.int a1] cl_RX8_50 (tX6_isThere (zln K) s1 a1) rfl (by decide) (fun _ => ⟨_, rfl⟩) rfl (by rw [hR]; exact ⟨rfl, rfl, Nat.le_of_ble_eq_true rfl, Nat.le_of_ble_eq_true rfl⟩) rfl rfl (Nat.le_of_ble_eq_true rfl) dX8_want_12 (fun x4 s3 => ?_)
    refine z_if_ne (pc := 15) F 20 dX8_want_15 (by decide) (fun h14 => ?_) (fun h14 => ?_)
    · refine z_aload_n (pc := 20) F dX8_want_20 rfl ?_
      refine z_get (pc := 21) F 0 0 0 (v := .ref (zad K 1 0)) (by decide) (fun _ => rfl) rfl (by decide) inlX8 lk_RX8_12 rfl dX8_want_21 ?_
      refine z_iload_n (pc := 24) F dX8_want_24 rfl ?_
      refine z_iload_n (pc := 25) F dX8_want_25 rfl ?_
      refine z_callNi (pc := 26) (st := []) F 1 0 [.int a2, .int a1] cl_RX8_61 (tX6_holds (zln K) s3 a2 a1) rfl (by decide) (fun _ => ⟨_, rfl⟩) rfl (by rw [hR]; exact ⟨rfl, rfl, Nat.le_of_ble_eq_true rfl, Nat.le_of_ble_eq_true rfl⟩) rfl rfl (Nat.le_of_ble_eq_true rfl) dX8_want_26 (fun x6 s5 => ?_)
      refine z_if_ne (pc := 29) F 47 dX8_want_29 (by decide) (fun h13 => ?_) (fun h13 => ?_)
      · refine z_bipush (pc := 47) F (v := -3) dX8_want_47 (by decide) ?_
        exact z_iret (pc := 49) F E dX8_want_49
      · refine z_aload_n (pc := 32) F dX8_want_32 rfl ?_
        refine z_get (pc := 33) F 0 0 0 (v := .ref (zad K 1 0)) (by decide) (fun _ => rfl) rfl (by decide) inlX8 lk_RX8_12 rfl dX8_want_33 ?_
        refine z_getN (pc := 36) F 1 0 2 (v := .ref (zad K 4 0)) (by decide) (fun _ => rfl) rfl (by decide) inlX6 lk_RX8_71 rfl dX8_want_36 ?_
        refine z_iload_n (pc := 39) F dX8_want_39 rfl ?_
        refine z_iload_n (pc := 40) F dX8_want_40 rfl ?_
        refine z_callNi (pc := 41) (st := []) F 4 0 [.int a1, .int a2] cl_RX8_75 (tX5_indexOf (zln K) s5 a1 a2) rfl (by decide) (fun _ => ⟨_, rfl⟩) rfl (by rw [hR]; exact ⟨rfl, rfl, Nat.le_of_ble_eq_true rfl, Nat.le_of_ble_eq_true rfl⟩) rfl rfl (Nat.le_of_ble_eq_true rfl) dX8_want_41 (fun x8 s7 => ?_)
        refine z_if_lt (pc := 44) F 50 dX8_want_44 (by decide) (fun h12 => ?_) (fun h12 => ?_)
        · refine z_aload_n (pc := 50) F dX8_want_50 rfl ?_
          refine z_get (pc := 51) F 0 0 0 (v := .ref (zad K 1 0)) (by decide) (fun _ => rfl) rfl (by decide) inlX8 lk_RX8_12 rfl dX8_want_51 ?_
          refine z_getN (pc := 54) F 1 0 2 (v := .ref (zad K 4 0)) (by decide) (fun _ => rfl) rfl (by decide) inlX6 lk_RX8_71 rfl dX8_want_54 ?_
          refine z_iload_n (pc := 57) F dX8_want_57 rfl ?_
          refine z_iload_n (pc := 58) F dX8_want_58 rfl ?_
          refine z_callNi (pc := 59) (st := []) F 4 0 [.int a1, .int a2] cl_RX8_81 (tX5_add (zln K) s7 a1 a2) rfl (by decide) (fun _ => ⟨_, rfl⟩) rfl (by rw [hR]; exact ⟨rfl, rfl, Nat.le_of_ble_eq_true rfl, Nat.le_of_ble_eq_true rfl⟩) rfl rfl (Nat.le_of_ble_eq_true rfl) dX8_want_59 (fun x10 s9 => ?_)
          refine z_if_eq (pc := 62) F 78 dX8_want_62 (by decide) (fun h11 => ?_) (fun h11 => ?_)
          · refine z_bipush (pc := 78) F (v := -4) dX8_want_78 (by decide) ?_
            exact z_iret (pc := 80) F E dX8_want_80
          · refine z_aload_n (pc := 65) F dX8_want_65 rfl ?_
            refine z_get (pc := 66) F 0 0 0 (v := .ref (zad K 1 0)) (by decide) (fun _ => rfl) rfl (by decide) inlX8 lk_RX8_12 rfl dX8_want_66 ?_
            refine z_getN (pc := 69) F 1 0 2 (v := .ref (zad K 4 0)) (by decide) (fun _ => rfl) rfl (by decide) inlX6 lk_RX8_71 rfl dX8_want_69 ?_
            refine z_getN (pc := 72) F 4 0 2 (v := .int (s9 4 0 2)) (by decide) (fun _ => rfl) rfl (by decide) inlX5 lk_RX8_84 rfl dX8_want_72 ?_
            refine z_goto (pc := 75) F 80 dX8_want_75 (by decide) ?_
            exact z_iret (pc := 80) F E dX8_want_80
        · refine z_bipush (pc := 47) F (v := -3) dX8_want_47 (by decide) ?_
          exact z_iret (pc := 49) F E dX8_want_49
    · refine z_iconst (pc := 18) F (v := -1) dX8_want_18 (by decide) ?_
      exact z_iret (pc := 19) F E dX8_want_19
def fX8_wipe (σ : zS) : Option (Int32 × zS) := zB (σ 7 0 1) (fun x1 => zB (zU σ 7 0 1 (0 : Int32)) (fun s2 => some (x1, s2)))
abbrev rmX8_wipe : Room := { frames := 0, cells := 0, slots := 0, locals := 0 }
set_option maxRecDepth 100000 in
set_option maxHeartbeats 4000000 in
theorem tX8_wipe (l : Launch) (σ : zS) : zMi l yX8_wipe cX8_wipe 2 (some .int) rmX8_wipe (fun ad => [.ref (ad 0 0)]) σ (fX8_wipe σ) := by
  refine zMi.of RX8 (by decide +kernel) rfl (fun _ => Nat.le_of_ble_eq_true rfl) (fun _ => zcat rfl) (fun K t F hR hL E => ?_)
  show ZO K t 0 [some (.ref (zad K 0 0)), none] [] σ (zB (σ 7 0 1) (fun x1 => zB (zU σ 7 0 1 (0 : Int32)) (fun s2 => some (x1, s2))))
  refine z_aload_n (pc := 0) F dX8_wipe_0 rfl ?_
  refine z_get (pc := 1) F 0 0 1 (v := .ref (zad K 7 0)) (by decide) (fun _ => rfl) rfl (by decide) inlX8 lk_RX8_19 rfl dX8_wipe_1 ?_
  refine z_getN (pc := 4) F 7 0 1 (v := .int (σ 7 0 1)) (by decide) (fun _ => rfl) rfl (by decide) inlX7 lk_RX8_131 rfl dX8_wipe_4 ?_
  refine z_Bi (fun x1 => ?_)
  refine z_istore_n (pc := 7) F (lv' := [some (.ref (zad K 0 0)), some (.int x1)]) dX8_wipe_7 (zlt rfl) rfl ?_
  refine z_aload_n (pc := 8) F dX8_wipe_8 rfl ?_
  refine z_get (pc := 9) F 0 0 1 (v := .ref (zad K 7 0)) (by decide) (fun _ => rfl) rfl (by decide) inlX8 lk_RX8_19 rfl dX8_wipe_9 ?_
  refine z_iconst (pc := 12) F (v := 0) dX8_wipe_12 (by decide) ?_
  refine z_putN (pc := 13) F 7 0 1 tyX7 tyX7_ok nmX7 (by decide) (fun _ => rfl) rfl (by decide) inlX7 lk_RX8_131 rfl (by decide +kernel) (fun _ => Nat.le_of_ble_eq_true rfl) (fun _ => rfl) dX8_wipe_13 (fun s2 => ?_)
  refine z_iload_n (pc := 16) F dX8_wipe_16 rfl ?_
  exact z_iret (pc := 17) F E dX8_wipe_17
def fX9_placeOf_2 (a1 : Int32) (k2_1 : zS → Option (Int32 × zS)) : Nat → Int32 → zS → Option (Int32 × zS)
  | 0, _, _ => none
  | (n2_1 + 1), v2_2_1, w2_1 => if (w2_1 21 0 14) ≤ v2_2_1 then k2_1 w2_1 else zIx v2_2_1 3 (if (w2_1 27 0 v2_2_1.toNatClampNeg) = a1 then some (v2_2_1, w2_1) else zB (v2_2_1 + 1) (fun x3 => fX9_placeOf_2 a1 k2_1 n2_1 x3 w2_1))
def fX9_placeOf (a1 : Int32) (σ : zS) : Option (Int32 × zS) := fX9_placeOf_2 a1 (fun (y2_1 : zS) => (some ((-9 : Int32), y2_1) : Option (Int32 × zS))) zN (0 : Int32) σ
abbrev rmX9_placeOf : Room := { frames := 0, cells := 0, slots := 0, locals := 0 }
set_option maxRecDepth 100000 in
set_option maxHeartbeats 4000000 in
theorem tX9_placeOf (l : Launch) (σ : zS) (a1 : Int32) : zMi l yX9_placeOf cX9_placeOf 3 (some .int) rmX9_placeOf (fun ad => [.ref (ad 21 0), .int a1]) σ (fX9_placeOf a1 σ) := by
  refine zMi.of RX9 (by decide +kernel) rfl (fun _ => Nat.le_of_ble_eq_true rfl) (fun _ => zcat rfl) (fun K t F hR hL E => ?_)
  show ZO K t 0 [some (.ref (zad K 21 0)), some (.int a1), none] [] σ (fX9_placeOf_2 a1 (fun (y2_1 : zS) => (some ((-9 : Int32), y2_1) : Option (Int32 × zS))) zN (0 : Int32) σ)
  refine z_iconst (pc := 0) F (v := 0) dX9_placeOf_0 (by decide) ?_
  refine z_istore_n (pc := 1) F (lv' := [some (.ref (zad K 21 0)), some (.int a1), some (.int (0 : Int32))]) dX9_placeOf_1 (zlt rfl) rfl ?_
  have hk2_1 : ∀ (y2_1 : zS), ZO K t 28 [none, none, none] [] y2_1 ((fun (y2_1 : zS) => (some ((-9 : Int32), y2_1) : Option (Int32 × zS))) y2_1) := by
    intro y2_1
    show ZO K t 28 [none, none, none] [] y2_1 (some ((-9 : Int32), y2_1))
    refine z_bipush (pc := 28) F (v := -9) dX9_placeOf_28 (by decide) ?_
    exact z_iret (pc := 30) F E dX9_placeOf_30
  have L2_1 : ∀ (n2_1 : Nat) (v2_2_1 : Int32) (w2_1 : zS), ZO K t 2 [some (.ref (zad K 21 0)), some (.int a1), some (.int v2_2_1)] [] w2_1 (fX9_placeOf_2 a1 (fun (y2_1 : zS) => (some ((-9 : Int32), y2_1) : Option (Int32 × zS))) n2_1 v2_2_1 w2_1) := by
    revert hk2_1; generalize (fun (y2_1 : zS) => (some ((-9 : Int32), y2_1) : Option (Int32 × zS))) = k2_1; intro hk2_1
    intro n2_1
    induction n2_1 with
    | zero => intro v2_2_1 w2_1; exact z_none
    | succ n2_1 ih2_1 =>
      intro v2_2_1 w2_1
      show ZO K t 2 [some (.ref (zad K 21 0)), some (.int a1), some (.int v2_2_1)] [] w2_1 (if (w2_1 21 0 14) ≤ v2_2_1 then k2_1 w2_1 else zIx v2_2_1 3 (if (w2_1 27 0 v2_2_1.toNatClampNeg) = a1 then some (v2_2_1, w2_1) else zB (v2_2_1 + 1) (fun x3 => fX9_placeOf_2 a1 k2_1 n2_1 x3 w2_1)))
      refine z_iload_n (pc := 2) F dX9_placeOf_2 rfl ?_
      refine z_aload_n (pc := 3) F dX9_placeOf_3 rfl ?_
      refine z_get (pc := 4) F 21 0 14 (v := .int (w2_1 21 0 14)) (by decide) (fun _ => rfl) rfl (by decide) inlX9 lk_RX9_140 rfl dX9_placeOf_4 ?_
      refine z_icmp_ge (pc := 7) F 28 dX9_placeOf_7 (by decide) (fun h5 => ?_) (fun h5 => ?_)
      · refine z_wk [false, false, false] (lv' := [none, none, none]) rfl ?_
        exact hk2_1  w2_1
      · refine z_aload_n (pc := 10) F dX9_placeOf_10 rfl ?_
        refine z_get (pc := 11) F 21 0 15 (v := .ref (zad K 27 0)) (by decide) (fun _ => rfl) rfl (by decide) inlX9 lk_RX9_35 rfl dX9_placeOf_11 ?_
        refine z_iload_n (pc := 14) F dX9_placeOf_14 rfl ?_
        refine z_ix (fun h2 => ?_)
        refine z_iald (pc := 15) F 27 0 (by decide) (fun _ => rfl) h2 dX9_placeOf_15 ?_
        refine z_iload_n (pc := 16) F dX9_placeOf_16 rfl ?_
        refine z_icmp_ne (pc := 17) F 22 dX9_placeOf_17 (by decide) (fun h4 => ?_) (fun h4 => ?_)
        · refine z_iincB (pc := 22) F (lv' := fun x3 => [some (.ref (zad K 21 0)), some (.int a1), some (.int x3)]) dX9_placeOf_22 rfl rfl (fun _ => rfl) (fun x3 => ?_)
          refine z_goto (pc := 25) F 2 dX9_placeOf_25 (by decide) ?_
          exact ih2_1 x3 w2_1
        · refine z_iload_n (pc := 20) F dX9_placeOf_20 rfl ?_
          exact z_iret (pc := 21) F E dX9_placeOf_21
  exact L2_1 zN (0 : Int32) σ
