def fX8_having (a1 : Int32) (σ : zS) : Option (Int32 × zS) := zCi (fX8_isStation a1 σ) (fun x2 s1 => if x2 = 0 then some ((-1 : Int32), s1) else zIx a1 8 (some (s1 3 0 a1.toNatClampNeg, s1)))
abbrev rmX8_having : Room := { frames := 1, cells := 0, slots := 0, locals := 20 }
set_option maxRecDepth 100000 in
set_option maxHeartbeats 4000000 in
theorem tX8_having (l : Launch) (σ : zS) (a1 : Int32) : zMi l yX8_having cX8_having 2 (some .int) rmX8_having (fun ad => [.ref (ad 0 0), .int a1]) σ (fX8_having a1 σ) := by
  refine zMi.of RX8 (by decide +kernel) rfl (fun _ => Nat.le_of_ble_eq_true rfl) (fun _ => zcat rfl) (fun K t F hR hL E => ?_)
  show ZO K t 0 [some (.ref (zad K 0 0)), some (.int a1)] [] σ (zCi (fX8_isStation a1 σ) (fun x2 s1 => if x2 = 0 then some ((-1 : Int32), s1) else zIx a1 8 (some (s1 3 0 a1.toNatClampNeg, s1))))
  refine z_iload_n (pc := 0) F dX8_having_0 rfl ?_
  refine z_callSi (pc := 1) (st := []) F [.int a1] cl_RX8_58 (tX8_isStation (zln K) σ a1) rfl (by rw [hR]; exact ⟨rfl, rfl, Nat.le_of_ble_eq_true rfl, Nat.le_of_ble_eq_true rfl⟩) rfl rfl (Nat.le_of_ble_eq_true rfl) dX8_having_1 (fun x2 s1 => ?_)
  refine z_if_eq (pc := 4) F 19 dX8_having_4 (by decide) (fun h4 => ?_) (fun h4 => ?_)
  · refine z_iconst (pc := 19) F (v := -1) dX8_having_19 (by decide) ?_
    exact z_iret (pc := 20) F E dX8_having_20
  · refine z_aload_n (pc := 7) F dX8_having_7 rfl ?_
    refine z_get (pc := 8) F 0 0 0 (v := .ref (zad K 1 0)) (by decide) (fun _ => rfl) rfl (by decide) inlX8 lk_RX8_12 rfl dX8_having_8 ?_
    refine z_getN (pc := 11) F 1 0 1 (v := .ref (zad K 3 0)) (by decide) (fun _ => rfl) rfl (by decide) inlX6 lk_RX8_104 rfl dX8_having_11 ?_
    refine z_iload_n (pc := 14) F dX8_having_14 rfl ?_
    refine z_ix (fun h3 => ?_)
    refine z_iald (pc := 15) F 3 0 (by decide) (fun _ => rfl) h3 dX8_having_15 ?_
    refine z_goto (pc := 16) F 20 dX8_having_16 (by decide) ?_
    exact z_iret (pc := 20) F E dX8_having_20
def fX8_key (a1 : Int32) (σ : zS) : Option (Int32 × zS) := if a1 < 0 then some ((-2 : Int32), σ) else if a1 ≤ (127 : Int32) then zCi (fX7_add a1 σ) (fun x2 s1 => if x2 = 0 then some ((-4 : Int32), s1) else some (s1 7 0 1, s1)) else some ((-2 : Int32), σ)
abbrev rmX8_key : Room := { frames := 1, cells := 0, slots := 0, locals := 21 }
set_option maxRecDepth 100000 in
set_option maxHeartbeats 4000000 in
theorem tX8_key (l : Launch) (σ : zS) (a1 : Int32) : zMi l yX8_key cX8_key 2 (some .int) rmX8_key (fun ad => [.ref (ad 0 0), .int a1]) σ (fX8_key a1 σ) := by
  refine zMi.of RX8 (by decide +kernel) rfl (fun _ => Nat.le_of_ble_eq_true rfl) (fun _ => zcat rfl) (fun K t F hR hL E => ?_)
  show ZO K t 0 [some (.ref (zad K 0 0)), some (.int a1)] [] σ (if a1 < 0 then some ((-2 : Int32), σ) else if a1 ≤ (127 : Int32) then zCi (fX7_add a1 σ) (fun x2 s1 => if x2 = 0 then some ((-4 : Int32), s1) else some (s1 7 0 1, s1)) else some ((-2 : Int32), σ))
  refine z_iload_n (pc := 0) F dX8_key_0 rfl ?_
  refine z_if_lt (pc := 1) F 10 dX8_key_1 (by decide) (fun h5 => ?_) (fun h5 => ?_)
  · refine z_bipush (pc := 10) F (v := -2) dX8_key_10 (by decide) ?_
    exact z_iret (pc := 12) F E dX8_key_12
  · refine z_iload_n (pc := 4) F dX8_key_4 rfl ?_
    refine z_bipush (pc := 5) F (v := 127) dX8_key_5 (by decide) ?_
    refine z_icmp_le (pc := 7) F 13 dX8_key_7 (by decide) (fun h4 => ?_) (fun h4 => ?_)
    · refine z_aload_n (pc := 13) F dX8_key_13 rfl ?_
      refine z_get (pc := 14) F 0 0 1 (v := .ref (zad K 7 0)) (by decide) (fun _ => rfl) rfl (by decide) inlX8 lk_RX8_19 rfl dX8_key_14 ?_
      refine z_iload_n (pc := 17) F dX8_key_17 rfl ?_
      refine z_callNi (pc := 18) (st := []) F 7 0 [.int a1] cl_RX8_129 (tX7_add (zln K) σ a1) rfl (by decide) (fun _ => ⟨_, rfl⟩) rfl (by rw [hR]; exact ⟨rfl, rfl, Nat.le_of_ble_eq_true rfl, Nat.le_of_ble_eq_true rfl⟩) rfl rfl (Nat.le_of_ble_eq_true rfl) dX8_key_18 (fun x2 s1 => ?_)
      refine z_if_eq (pc := 21) F 34 dX8_key_21 (by decide) (fun h3 => ?_) (fun h3 => ?_)
      · refine z_bipush (pc := 34) F (v := -4) dX8_key_34 (by decide) ?_
        exact z_iret (pc := 36) F E dX8_key_36
      · refine z_aload_n (pc := 24) F dX8_key_24 rfl ?_
        refine z_get (pc := 25) F 0 0 1 (v := .ref (zad K 7 0)) (by decide) (fun _ => rfl) rfl (by decide) inlX8 lk_RX8_19 rfl dX8_key_25 ?_
        refine z_getN (pc := 28) F 7 0 1 (v := .int (s1 7 0 1)) (by decide) (fun _ => rfl) rfl (by decide) inlX7 lk_RX8_131 rfl dX8_key_28 ?_
        refine z_goto (pc := 31) F 36 dX8_key_31 (by decide) ?_
        exact z_iret (pc := 36) F E dX8_key_36
    · refine z_bipush (pc := 10) F (v := -2) dX8_key_10 (by decide) ?_
      exact z_iret (pc := 12) F E dX8_key_12
def fX8_letter (a1 : Int32) (a2 : Int32) (σ : zS) : Option (Int32 × zS) := if a1 < 0 then some ((-1 : Int32), σ) else if a1 < (10 : Int32) then if a2 < 0 then some ((-2 : Int32), σ) else if a2 ≤ (255 : Int32) then zCi (fX6_putLetter a1 a2 σ) (fun x2 s1 => if x2 = 0 then some ((0 : Int32), s1) else some ((1 : Int32), s1)) else some ((-2 : Int32), σ) else some ((-1 : Int32), σ)
abbrev rmX8_letter : Room := { frames := 2, cells := 0, slots := 0, locals := 44 }
set_option maxRecDepth 100000 in
set_option maxHeartbeats 4000000 in
theorem tX8_letter (l : Launch) (σ : zS) (a1 : Int32) (a2 : Int32) : zMi l yX8_letter cX8_letter 3 (some .int) rmX8_letter (fun ad => [.ref (ad 0 0), .int a1, .int a2]) σ (fX8_letter a1 a2 σ) := by
  refine zMi.of RX8 (by decide +kernel) rfl (fun _ => Nat.le_of_ble_eq_true rfl) (fun _ => zcat rfl) (fun K t F hR hL E => ?_)
  show ZO K t 0 [some (.ref (zad K 0 0)), some (.int a1), some (.int a2)] [] σ (if a1 < 0 then some ((-1 : Int32), σ) else if a1 < (10 : Int32) then if a2 < 0 then some ((-2 : Int32), σ) else if a2 ≤ (255 : Int32) then zCi (fX6_putLetter a1 a2 σ) (fun x2 s1 => if x2 = 0 then some ((0 : Int32), s1) else some ((1 : Int32), s1)) else some ((-2 : Int32), σ) else some ((-1 : Int32), σ))
  refine z_iload_n (pc := 0) F dX8_letter_0 rfl ?_
  refine z_if_lt (pc := 1) F 10 dX8_letter_1 (by decide) (fun h7 => ?_) (fun h7 => ?_)
  · refine z_iconst (pc := 10) F (v := -1) dX8_letter_10 (by decide) ?_
    exact z_iret (pc := 11) F E dX8_letter_11
  · refine z_iload_n (pc := 4) F dX8_letter_4 rfl ?_
    refine z_bipush (pc := 5) F (v := 10) dX8_letter_5 (by decide) ?_
    refine z_icmp_lt (pc := 7) F 12 dX8_letter_7 (by decide) (fun h6 => ?_) (fun h6 => ?_)
    · refine z_iload_n (pc := 12) F dX8_letter_12 rfl ?_
      refine z_if_lt (pc := 13) F 23 dX8_letter_13 (by decide) (fun h5 => ?_) (fun h5 => ?_)
      · refine z_bipush (pc := 23) F (v := -2) dX8_letter_23 (by decide) ?_
        exact z_iret (pc := 25) F E dX8_letter_25
      · refine z_iload_n (pc := 16) F dX8_letter_16 rfl ?_
        refine z_sipush (pc := 17) F (v := 255) dX8_letter_17 (by decide) ?_
        refine z_icmp_le (pc := 20) F 26 dX8_letter_20 (by decide) (fun h4 => ?_) (fun h4 => ?_)
        · refine z_aload_n (pc := 26) F dX8_letter_26 rfl ?_
          refine z_get (pc := 27) F 0 0 0 (v := .ref (zad K 1 0)) (by decide) (fun _ => rfl) rfl (by decide) inlX8 lk_RX8_12 rfl dX8_letter_27 ?_
          refine z_iload_n (pc := 30) F dX8_letter_30 rfl ?_
          refine z_iload_n (pc := 31) F dX8_letter_31 rfl ?_
          refine z_callNi (pc := 32) (st := []) F 1 0 [.int a1, .int a2] cl_RX8_46 (tX6_putLetter (zln K) σ a1 a2) rfl (by decide) (fun _ => ⟨_, rfl⟩) rfl (by rw [hR]; exact ⟨rfl, rfl, Nat.le_of_ble_eq_true rfl, Nat.le_of_ble_eq_true rfl⟩) rfl rfl (Nat.le_of_ble_eq_true rfl) dX8_letter_32 (fun x2 s1 => ?_)
          refine z_if_eq (pc := 35) F 42 dX8_letter_35 (by decide) (fun h3 => ?_) (fun h3 => ?_)
          · refine z_iconst (pc := 42) F (v := 0) dX8_letter_42 (by decide) ?_
            exact z_iret (pc := 43) F E dX8_letter_43
          · refine z_iconst (pc := 38) F (v := 1) dX8_letter_38 (by decide) ?_
            refine z_goto (pc := 39) F 43 dX8_letter_39 (by decide) ?_
            exact z_iret (pc := 43) F E dX8_letter_43
        · refine z_bipush (pc := 23) F (v := -2) dX8_letter_23 (by decide) ?_
          exact z_iret (pc := 25) F E dX8_letter_25
    · refine z_iconst (pc := 10) F (v := -1) dX8_letter_10 (by decide) ?_
      exact z_iret (pc := 11) F E dX8_letter_11
def fX8_many (a1 : Int32) (σ : zS) : Option (Int32 × zS) := if a1 = 0 then zCi (fJ6_bitCount_0f7a4 (σ 1 0 3) σ) (fun x2 s1 => some (x2, s1)) else if a1 = 1 then some (σ 4 0 2, σ) else if a1 = 2 then some (σ 1 0 6, σ) else if a1 = 3 then some (σ 1 0 7, σ) else if a1 = 4 then some (σ 9 0 0, σ) else if a1 = 5 then some (σ 10 0 5, σ) else if a1 = 6 then some (σ 10 0 4, σ) else if a1 = 7 then some (σ 7 0 1, σ) else if a1 = 8 then some ((σ 9 0 1) &&& (65535 : Int32), σ) else some ((-2 : Int32), σ)
abbrev rmX8_many : Room := { frames := 1, cells := 0, slots := 0, locals := 20 }
set_option maxRecDepth 100000 in
set_option maxHeartbeats 4000000 in
theorem tX8_many (l : Launch) (σ : zS) (a1 : Int32) : zMi l yX8_many cX8_many 2 (some .int) rmX8_many (fun ad => [.ref (ad 0 0), .int a1]) σ (fX8_many a1 σ) := by
  refine zMi.of RX8 (by decide +kernel) rfl (fun _ => Nat.le_of_ble_eq_true rfl) (fun _ => zcat rfl) (fun K t F hR hL E => ?_)
  show ZO K t 0 [some (.ref (zad K 0 0)), some (.int a1)] [] σ (if a1 = 0 then zCi (fJ6_bitCount_0f7a4 (σ 1 0 3) σ) (fun x2 s1 => some (x2, s1)) else if a1 = 1 then some (σ 4 0 2, σ) else if a1 = 2 then some (σ 1 0 6, σ) else if a1 = 3 then some (σ 1 0 7, σ) else if a1 = 4 then some (σ 9 0 0, σ) else if a1 = 5 then some (σ 10 0 5, σ) else if a1 = 6 then some (σ 10 0 4, σ) else if a1 = 7 then some (σ 7 0 1, σ) else if a1 = 8 then some ((σ 9 0 1) &&& (65535 : Int32), σ) else some ((-2 : Int32), σ))
  refine z_iload_n (pc := 0) F dX8_many_0 rfl ?_
  refine z_sp (fun hs1_0 => ?_) (fun hs1_0 => ?_)
  · rw [hs1_0]
    refine z_tabIn (pc := 1) F 52 dX8_many_1 (by decide) (by decide) rfl (by decide) ?_
    refine z_aload_n (pc := 52) F dX8_many_52 rfl ?_
    refine z_get (pc := 53) F 0 0 0 (v := .ref (zad K 1 0)) (by decide) (fun _ => rfl) rfl (by decide) inlX8 lk_RX8_12 rfl dX8_many_53 ?_
    refine z_getN (pc := 56) F 1 0 3 (v := .int (σ 1 0 3)) (by decide) (fun _ => rfl) rfl (by decide) inlX6 lk_RX8_209 rfl dX8_many_56 ?_
    refine z_callSi (pc := 59) (st := []) F [.int (σ 1 0 3)] cl_RX8_212 (tJ6_bitCount_0f7a4 (zln K) σ (σ 1 0 3)) rfl (by rw [hR]; exact ⟨rfl, rfl, Nat.le_of_ble_eq_true rfl, Nat.le_of_ble_eq_true rfl⟩) rfl rfl (Nat.le_of_ble_eq_true rfl) dX8_many_59 (fun x2 s1 => ?_)
    exact z_iret (pc := 62) F E dX8_many_62
  refine z_sp (fun hs1_1 => ?_) (fun hs1_1 => ?_)
  · rw [hs1_1]
    refine z_tabIn (pc := 1) F 63 dX8_many_1 (by decide) (by decide) rfl (by decide) ?_
    refine z_aload_n (pc := 63) F dX8_many_63 rfl ?_
    refine z_get (pc := 64) F 0 0 0 (v := .ref (zad K 1 0)) (by decide) (fun _ => rfl) rfl (by decide) inlX8 lk_RX8_12 rfl dX8_many_64 ?_
    refine z_getN (pc := 67) F 1 0 2 (v := .ref (zad K 4 0)) (by decide) (fun _ => rfl) rfl (by decide) inlX6 lk_RX8_71 rfl dX8_many_67 ?_
    refine z_getN (pc := 70) F 4 0 2 (v := .int (σ 4 0 2)) (by decide) (fun _ => rfl) rfl (by decide) inlX5 lk_RX8_84 rfl dX8_many_70 ?_
    exact z_iret (pc := 73) F E dX8_many_73
  refine z_sp (fun hs1_2 => ?_) (fun hs1_2 => ?_)
  · rw [hs1_2]
    refine z_tabIn (pc := 1) F 74 dX8_many_1 (by decide) (by decide) rfl (by decide) ?_
    refine z_aload_n (pc := 74) F dX8_many_74 rfl ?_
    refine z_get (pc := 75) F 0 0 0 (v := .ref (zad K 1 0)) (by decide) (fun _ => rfl) rfl (by decide) inlX8 lk_RX8_12 rfl dX8_many_75 ?_
    refine z_getN (pc := 78) F 1 0 6 (v := .int (σ 1 0 6)) (by decide) (fun _ => rfl) rfl (by decide) inlX6 lk_RX8_217 rfl dX8_many_78 ?_
    exact z_iret (pc := 81) F E dX8_many_81
  refine z_sp (fun hs1_3 => ?_) (fun hs1_3 => ?_)
  · rw [hs1_3]
    refine z_tabIn (pc := 1) F 82 dX8_many_1 (by decide) (by decide) rfl (by decide) ?_
    refine z_aload_n (pc := 82) F dX8_many_82 rfl ?_
    refine z_get (pc := 83) F 0 0 0 (v := .ref (zad K 1 0)) (by decide) (fun _ => rfl) rfl (by decide) inlX8 lk_RX8_12 rfl dX8_many_83 ?_
    refine z_getN (pc := 86) F 1 0 7 (v := .int (σ 1 0 7)) (by decide) (fun _ => rfl) rfl (by decide) inlX6 lk_RX8_220 rfl dX8_many_86 ?_
    exact z_iret (pc := 89) F E dX8_many_89
  refine z_sp (fun hs1_4 => ?_) (fun hs1_4 => ?_)
  · rw [hs1_4]
    refine z_tabIn (pc := 1) F 90 dX8_many_1 (by decide) (by decide) rfl (by decide) ?_
    refine z_aload_n (pc := 90) F dX8_many_90 rfl ?_
    refine z_get (pc := 91) F 0 0 2 (v := .ref (zad K 9 0)) (by decide) (fun _ => rfl) rfl (by decide) inlX8 lk_RX8_26 rfl dX8_many_91 ?_
    refine z_getN (pc := 94) F 9 0 0 (v := .int (σ 9 0 0)) (by decide) (fun _ => rfl) rfl (by decide) inlX0 lk_RX8_135 rfl dX8_many_94 ?_
    exact z_iret (pc := 97) F E dX8_many_97
  refine z_sp (fun hs1_5 => ?_) (fun hs1_5 => ?_)
  · rw [hs1_5]
    refine z_tabIn (pc := 1) F 98 dX8_many_1 (by decide) (by decide) rfl (by decide) ?_
    refine z_aload_n (pc := 98) F dX8_many_98 rfl ?_
    refine z_get (pc := 99) F 0 0 3 (v := .ref (zad K 10 0)) (by decide) (fun _ => rfl) rfl (by decide) inlX8 lk_RX8_35 rfl dX8_many_99 ?_
    refine z_getN (pc := 102) F 10 0 5 (v := .int (σ 10 0 5)) (by decide) (fun _ => rfl) rfl (by decide) inlX2 lk_RX8_223 rfl dX8_many_102 ?_
    exact z_iret (pc := 105) F E dX8_many_105
  refine z_sp (fun hs1_6 => ?_) (fun hs1_6 => ?_)
  · rw [hs1_6]
    refine z_tabIn (pc := 1) F 106 dX8_many_1 (by decide) (by decide) rfl (by decide) ?_
    refine z_aload_n (pc := 106) F dX8_many_106 rfl ?_
    refine z_get (pc := 107) F 0 0 3 (v := .ref (zad K 10 0)) (by decide) (fun _ => rfl) rfl (by decide) inlX8 lk_RX8_35 rfl dX8_many_107 ?_
    refine z_getN (pc := 110) F 10 0 4 (v := .int (σ 10 0 4)) (by decide) (fun _ => rfl) rfl (by decide) inlX2 lk_RX8_189 rfl dX8_many_110 ?_
    exact z_iret (pc := 113) F E dX8_many_113
  refine z_sp (fun hs1_7 => ?_) (fun hs1_7 => ?_)
  · rw [hs1_7]
    refine z_tabIn (pc := 1) F 114 dX8_many_1 (by decide) (by decide) rfl (by decide) ?_
    refine z_aload_n (pc := 114) F dX8_many_114 rfl ?_
    refine z_get (pc := 115) F 0 0 1 (v := .ref (zad K 7 0)) (by decide) (fun _ => rfl) rfl (by decide) inlX8 lk_RX8_19 rfl dX8_many_115 ?_
    refine z_getN (pc := 118) F 7 0 1 (v := .int (σ 7 0 1)) (by decide) (fun _ => rfl) rfl (by decide) inlX7 lk_RX8_131 rfl dX8_many_118 ?_
    exact z_iret (pc := 121) F E dX8_many_121
  refine z_sp (fun hs1_8 => ?_) (fun hs1_8 => ?_)
  · rw [hs1_8]
    refine z_tabIn (pc := 1) F 122 dX8_many_1 (by decide) (by decide) rfl (by decide) ?_
    refine z_aload_n (pc := 122) F dX8_many_122 rfl ?_
    refine z_get (pc := 123) F 0 0 2 (v := .ref (zad K 9 0)) (by decide) (fun _ => rfl) rfl (by decide) inlX8 lk_RX8_26 rfl dX8_many_123 ?_
    refine z_getN (pc := 126) F 9 0 1 (v := .int (σ 9 0 1)) (by decide) (fun _ => rfl) rfl (by decide) inlX0 lk_RX8_226 rfl dX8_many_126 ?_
    refine z_ldci (pc := 129) F (v := 65535) kc_RX8_229 dX8_many_129 ?_
    refine z_iand (pc := 131) F dX8_many_131 ?_
    exact z_iret (pc := 132) F E dX8_many_132
  refine z_tabOut (pc := 1) F 133 dX8_many_1 (zTab 8 (fun j hj => match j, hj with | 0, _ => hs1_0 | 1, _ => hs1_1 | 2, _ => hs1_2 | 3, _ => hs1_3 | 4, _ => hs1_4 | 5, _ => hs1_5 | 6, _ => hs1_6 | 7, _ => hs1_7 | 8, _ => hs1_8 | (j + 9), hj => absurd hj (by omega))) (by decide) ?_
  refine z_bipush (pc := 133) F (v := -2) dX8_many_133 (by decide) ?_
  exact z_iret (pc := 135) F E dX8_many_135
def fX8_mix (a1 : Int32) (a2 : Int32) (a3 : Int32) (a4 : Int32) (σ : zS) : Option (Int32 × zS) := zCq (fX2_nodeOf a1 a2 σ) (fun s1 => zCq (fX2_nodeOf a1 a3 s1) (fun s4 => some ((-1 : Int32), s4)) (fun i5 s4 => zGd (i5 < 12) (some ((-1 : Int32), s4)))) (fun i2 s1 => zGd (i2 < 12) (zCq (fX2_nodeOf a1 a3 s1) (fun s7 => some ((-1 : Int32), s7)) (fun i8 s7 => zGd (i8 < 12) (if a4 < 0 then some ((-2 : Int32), s7) else if a4 < (16807 : Int32) then if a2 = a3 then some ((-3 : Int32), s7) else zCi (fX2_carry i2 i8 a4 s7) (fun x11 s10 => if x11 = 0 then some ((0 : Int32), s10) else some ((1 : Int32), s10)) else some ((-2 : Int32), s7)))))
abbrev rmX8_mix : Room := { frames := 6, cells := 0, slots := 0, locals := 139 }
set_option maxRecDepth 100000 in
set_option maxHeartbeats 4000000 in
theorem tX8_mix (l : Launch) (σ : zS) (a1 : Int32) (a2 : Int32) (a3 : Int32) (a4 : Int32) : zMi l yX8_mix cX8_mix 7 (some .int) rmX8_mix (fun ad => [.ref (ad 0 0), .int a1, .int a2, .int a3, .int a4]) σ (fX8_mix a1 a2 a3 a4 σ) := by
  refine zMi.of RX8 (by decide +kernel) rfl (fun _ => Nat.le_of_ble_eq_true rfl) (fun _ => zcat rfl) (fun K t F hR hL E => ?_)
  show ZO K t 0 [some (.ref (zad K 0 0)), some (.int a1), some (.int a2), some (.int a3), some (.int a4), none, none] [] σ (zCq (fX2_nodeOf a1 a2 σ) (fun s1 => zCq (fX2_nodeOf a1 a3 s1) (fun s4 => some ((-1 : Int32), s4)) (fun i5 s4 => zGd (i5 < 12) (some ((-1 : Int32), s4)))) (fun i2 s1 => zGd (i2 < 12) (zCq (fX2_nodeOf a1 a3 s1) (fun s7 => some ((-1 : Int32), s7)) (fun i8 s7 => zGd (i8 < 12) (if a4 < 0 then some ((-2 : Int32), s7) else if a4 < (16807 : Int32) then if a2 = a3 then some ((-3 : Int32), s7) else zCi (fX2_carry i2 i8 a4 s7) (fun x11 s10 => if x11 = 0 then some ((0 : Int32), s10) else some ((1 : Int32), s10)) else some ((-2 : Int32), s7))))))
  refine z_aload_n (pc := 0) F dX8_mix_0 rfl ?_
  refine z_get (pc := 1) F 0 0 3 (v := .ref (zad K 10 0)) (by decide) (fun _ => rfl) rfl (by decide) inlX8 lk_RX8_35 rfl dX8_mix_1 ?_
  refine z_iload_n (pc := 4) F dX8_mix_4 rfl ?_
  refine z_iload_n (pc := 5) F dX8_mix_5 rfl ?_
  refine z_callNq (pc := 6) (st := []) F 10 0 [.int a1, .int a2] cl_RX8_144 (tX2_nodeOf (zln K) σ a1 a2) rfl (by decide) (fun _ => ⟨_, rfl⟩) rfl (by rw [hR]; exact ⟨rfl, rfl, Nat.le_of_ble_eq_true rfl, Nat.le_of_ble_eq_true rfl⟩) rfl rfl (Nat.le_of_ble_eq_true rfl) dX8_mix_6 (fun s1 => ?_) (fun i2 s1 => ?_)
  · refine z_astoreN (pc := 9) F (lv' := [some (.ref (zad K 0 0)), some (.int a1), some (.int a2), some (.int a3), some (.int a4), some (.null), none]) dX8_mix_9 (zlt rfl) rfl ?_
    refine z_aload_n (pc := 11) F dX8_mix_11 rfl ?_
    refine z_get (pc := 12) F 0 0 3 (v := .ref (zad K 10 0)) (by decide) (fun _ => rfl) rfl (by decide) inlX8 lk_RX8_35 rfl dX8_mix_12 ?_
    refine z_iload_n (pc := 15) F dX8_mix_15 rfl ?_
    refine z_iload_n (pc := 16) F dX8_mix_16 rfl ?_
    refine z_callNq (pc := 17) (st := []) F 10 0 [.int a1, .int a3] cl_RX8_144 (tX2_nodeOf (zln K) s1 a1 a3) rfl (by decide) (fun _ => ⟨_, rfl⟩) rfl (by rw [hR]; exact ⟨rfl, rfl, Nat.le_of_ble_eq_true rfl, Nat.le_of_ble_eq_true rfl⟩) rfl rfl (Nat.le_of_ble_eq_true rfl) dX8_mix_17 (fun s4 => ?_) (fun i5 s4 => ?_)
    · refine z_astoreN (pc := 20) F (lv' := [some (.ref (zad K 0 0)), some (.int a1), some (.int a2), some (.int a3), some (.int a4), some (.null), some (.null)]) dX8_mix_20 (zlt rfl) rfl ?_
      refine z_aloadN (pc := 22) F dX8_mix_22 rfl ?_
      refine z_ifnullN (pc := 24) F 32 dX8_mix_24 (by decide) ?_
      refine z_iconst (pc := 32) F (v := -1) dX8_mix_32 (by decide) ?_
      exact z_iret (pc := 33) F E dX8_mix_33
    · refine z_gd (fun h6 => ?_)
      refine z_astore (pc := 20) F (lv' := [some (.ref (zad K 0 0)), some (.int a1), some (.int a2), some (.int a3), some (.int a4), some (.null), some (.ref (zad K 15 i5))]) dX8_mix_20 (zlt rfl) rfl ?_
      refine z_aloadN (pc := 22) F dX8_mix_22 rfl ?_
      refine z_ifnullN (pc := 24) F 32 dX8_mix_24 (by decide) ?_
      refine z_iconst (pc := 32) F (v := -1) dX8_mix_32 (by decide) ?_
      exact z_iret (pc := 33) F E dX8_mix_33
  · refine z_gd (fun h3 => ?_)
    refine z_astore (pc := 9) F (lv' := [some (.ref (zad K 0 0)), some (.int a1), some (.int a2), some (.int a3), some (.int a4), some (.ref (zad K 15 i2)), none]) dX8_mix_9 (zlt rfl) rfl ?_
    refine z_aload_n (pc := 11) F dX8_mix_11 rfl ?_
    refine z_get (pc := 12) F 0 0 3 (v := .ref (zad K 10 0)) (by decide) (fun _ => rfl) rfl (by decide) inlX8 lk_RX8_35 rfl dX8_mix_12 ?_
    refine z_iload_n (pc := 15) F dX8_mix_15 rfl ?_
    refine z_iload_n (pc := 16) F dX8_mix_16 rfl ?_
    refine z_callNq (pc := 17) (st := []) F 10 0 [.int a1, .int a3] cl_RX8_144 (tX2_nodeOf (zln K) s1 a1 a3) rfl (by decide) (fun _ => ⟨_, rfl⟩) rfl (by rw [hR]; exact ⟨rfl, rfl, Nat.le_of_ble_eq_true rfl, Nat.le_of_ble_eq_true rfl⟩) rfl rfl (Nat.le_of_ble_eq_true rfl) dX8_mix_17 (fun s7 => ?_) (fun i8 s7 => ?_)
    · refine z_astoreN (pc := 20) F (lv' := [some (.ref (zad K 0 0)), some (.int a1), some (.int a2), some (.int a3), some (.int a4), some (.ref (zad K 15 i2)), some (.null)]) dX8_mix_20 (zlt rfl) rfl ?_
      refine z_aload (pc := 22) F dX8_mix_22 rfl ?_
      refine z_ifnull (pc := 24) F dX8_mix_24 ?_
      refine z_aloadN (pc := 27) F dX8_mix_27 rfl ?_
      refine z_ifnonnullN (pc := 29) F dX8_mix_29 ?_
      refine z_iconst (pc := 32) F (v := -1) dX8_mix_32 (by decide) ?_
      exact z_iret (pc := 33) F E dX8_mix_33
    · refine z_gd (fun h9 => ?_)
      refine z_astore (pc := 20) F (lv' := [some (.ref (zad K 0 0)), some (.int a1), some (.int a2), some (.int a3), some (.int a4), some (.ref (zad K 15 i2)), some (.ref (zad K 15 i8))]) dX8_mix_20 (zlt rfl) rfl ?_
      refine z_aload (pc := 22) F dX8_mix_22 rfl ?_
      refine z_ifnull (pc := 24) F dX8_mix_24 ?_
      refine z_aload (pc := 27) F dX8_mix_27 rfl ?_
      refine z_ifnonnull (pc := 29) F 34 dX8_mix_29 (by decide) ?_
      refine z_iload (pc := 34) F dX8_mix_34 rfl ?_
      refine z_if_lt (pc := 36) F 47 dX8_mix_36 (by decide) (fun h15 => ?_) (fun h15 => ?_)
      · refine z_bipush (pc := 47) F (v := -2) dX8_mix_47 (by decide) ?_
        exact z_iret (pc := 49) F E dX8_mix_49
      · refine z_iload (pc := 39) F dX8_mix_39 rfl ?_
        refine z_sipush (pc := 41) F (v := 16807) dX8_mix_41 (by decide) ?_
        refine z_icmp_lt (pc := 44) F 50 dX8_mix_44 (by decide) (fun h14 => ?_) (fun h14 => ?_)
        · refine z_iload_n (pc := 50) F dX8_mix_50 rfl ?_
          refine z_iload_n (pc := 51) F dX8_mix_51 rfl ?_
          refine z_icmp_ne (pc := 52) F 58 dX8_mix_52 (by decide) (fun h13 => ?_) (fun h13 => ?_)
          · refine z_aload_n (pc := 58) F dX8_mix_58 rfl ?_
            refine z_get (pc := 59) F 0 0 3 (v := .ref (zad K 10 0)) (by decide) (fun _ => rfl) rfl (by decide) inlX8 lk_RX8_35 rfl dX8_mix_59 ?_
            refine z_aload (pc := 62) F dX8_mix_62 rfl ?_
            refine z_aload (pc := 64) F dX8_mix_64 rfl ?_
            refine z_iload (pc := 66) F dX8_mix_66 rfl ?_
            refine z_callNi (pc := 68) (st := []) F 10 0 [.ref (zad K 15 i2), .ref (zad K 15 i8), .int a4] cl_RX8_171 (tX2_carry (zln K) s7 i2 i8 a4 h3 h9) rfl (by decide) (fun _ => ⟨_, rfl⟩) rfl (by rw [hR]; exact ⟨rfl, rfl, Nat.le_of_ble_eq_true rfl, Nat.le_of_ble_eq_true rfl⟩) rfl rfl (Nat.le_of_ble_eq_true rfl) dX8_mix_68 (fun x11 s10 => ?_)
            refine z_if_eq (pc := 71) F 78 dX8_mix_71 (by decide) (fun h12 => ?_) (fun h12 => ?_)
            · refine z_iconst (pc := 78) F (v := 0) dX8_mix_78 (by decide) ?_
              exact z_iret (pc := 79) F E dX8_mix_79
            · refine z_iconst (pc := 74) F (v := 1) dX8_mix_74 (by decide) ?_
              refine z_goto (pc := 75) F 79 dX8_mix_75 (by decide) ?_
              exact z_iret (pc := 79) F E dX8_mix_79
          · refine z_bipush (pc := 55) F (v := -3) dX8_mix_55 (by decide) ?_
            exact z_iret (pc := 57) F E dX8_mix_57
        · refine z_bipush (pc := 47) F (v := -2) dX8_mix_47 (by decide) ?_
          exact z_iret (pc := 49) F E dX8_mix_49
def fX8_most (a1 : Int32) (σ : zS) : Option (Int32 × zS) := if a1 < (1 : Int32) then some ((-2 : Int32), σ) else if a1 ≤ (10 : Int32) then zB (σ 1 0 5) (fun x1 => zB (zU σ 1 0 5 a1) (fun s2 => some (x1, s2))) else some ((-2 : Int32), σ)
abbrev rmX8_most : Room := { frames := 0, cells := 0, slots := 0, locals := 0 }
set_option maxRecDepth 100000 in
set_option maxHeartbeats 4000000 in
theorem tX8_most (l : Launch) (σ : zS) (a1 : Int32) : zMi l yX8_most cX8_most 3 (some .int) rmX8_most (fun ad => [.ref (ad 0 0), .int a1]) σ (fX8_most a1 σ) := by
  refine zMi.of RX8 (by decide +kernel) rfl (fun _ => Nat.le_of_ble_eq_true rfl) (fun _ => zcat rfl) (fun K t F hR hL E => ?_)
  show ZO K t 0 [some (.ref (zad K 0 0)), some (.int a1), none] [] σ (if a1 < (1 : Int32) then some ((-2 : Int32), σ) else if a1 ≤ (10 : Int32) then zB (σ 1 0 5) (fun x1 => zB (zU σ 1 0 5 a1) (fun s2 => some (x1, s2))) else some ((-2 : Int32), σ))
  refine z_iload_n (pc := 0) F dX8_most_0 rfl ?_
  refine z_iconst (pc := 1) F (v := 1) dX8_most_1 (by decide) ?_
  refine z_icmp_lt (pc := 2) F 11 dX8_most_2 (by decide) (fun h4 => ?_) (fun h4 => ?_)
  · refine z_bipush (pc := 11) F (v := -2) dX8_most_11 (by decide) ?_
    exact z_iret (pc := 13) F E dX8_most_13
  · refine z_iload_n (pc := 5) F dX8_most_5 rfl ?_
    refine z_bipush (pc := 6) F (v := 10) dX8_most_6 (by decide) ?_
    refine z_icmp_le (pc := 8) F 14 dX8_most_8 (by decide) (fun h3 => ?_) (fun h3 => ?_)
    · refine z_aload_n (pc := 14) F dX8_most_14 rfl ?_
      refine z_get (pc := 15) F 0 0 0 (v := .ref (zad K 1 0)) (by decide) (fun _ => rfl) rfl (by decide) inlX8 lk_RX8_12 rfl dX8_most_15 ?_
      refine z_getN (pc := 18) F 1 0 5 (v := .int (σ 1 0 5)) (by decide) (fun _ => rfl) rfl (by decide) inlX6 lk_RX8_91 rfl dX8_most_18 ?_
      refine z_Bi (fun x1 => ?_)
      refine z_istore_n (pc := 21) F (lv' := [some (.ref (zad K 0 0)), some (.int a1), some (.int x1)]) dX8_most_21 (zlt rfl) rfl ?_
      refine z_aload_n (pc := 22) F dX8_most_22 rfl ?_
      refine z_get (pc := 23) F 0 0 0 (v := .ref (zad K 1 0)) (by decide) (fun _ => rfl) rfl (by decide) inlX8 lk_RX8_12 rfl dX8_most_23 ?_
      refine z_iload_n (pc := 26) F dX8_most_26 rfl ?_
      refine z_putN (pc := 27) F 1 0 5 tyX6 tyX6_ok nmX6 (by decide) (fun _ => rfl) rfl (by decide) inlX6 lk_RX8_91 rfl (by decide +kernel) (fun _ => Nat.le_of_ble_eq_true rfl) (fun _ => rfl) dX8_most_27 (fun s2 => ?_)
      refine z_iload_n (pc := 30) F dX8_most_30 rfl ?_
      exact z_iret (pc := 31) F E dX8_most_31
    · refine z_bipush (pc := 11) F (v := -2) dX8_most_11 (by decide) ?_
      exact z_iret (pc := 13) F E dX8_most_13
def fX8_open (a1 : Int32) (a2 : Int32) (σ : zS) : Option (Int32 × zS) := if a1 < (1 : Int32) then some ((-2 : Int32), σ) else if a1 ≤ (5 : Int32) then zCi (fX2_begin a1 a2 σ) (fun x2 s1 => some (x2, s1)) else some ((-2 : Int32), σ)
abbrev rmX8_open : Room := { frames := 6, cells := 0, slots := 0, locals := 140 }
set_option maxRecDepth 100000 in
set_option maxHeartbeats 4000000 in
theorem tX8_open (l : Launch) (σ : zS) (a1 : Int32) (a2 : Int32) : zMi l yX8_open cX8_open 3 (some .int) rmX8_open (fun ad => [.ref (ad 0 0), .int a1, .int a2]) σ (fX8_open a1 a2 σ) := by
  refine zMi.of RX8 (by decide +kernel) rfl (fun _ => Nat.le_of_ble_eq_true rfl) (fun _ => zcat rfl) (fun K t F hR hL E => ?_)
  show ZO K t 0 [some (.ref (zad K 0 0)), some (.int a1), some (.int a2)] [] σ (if a1 < (1 : Int32) then some ((-2 : Int32), σ) else if a1 ≤ (5 : Int32) then zCi (fX2_begin a1 a2 σ) (fun x2 s1 => some (x2, s1)) else some ((-2 : Int32), σ))
  refine z_iload_n (pc := 0) F dX8_open_0 rfl ?_
  refine z_iconst (pc := 1) F (v := 1) dX8_open_1 (by decide) ?_
  refine z_icmp_lt (pc := 2) F 10 dX8_open_2 (by decide) (fun h4 => ?_) (fun h4 => ?_)
  · refine z_bipush (pc := 10) F (v := -2) dX8_open_10 (by decide) ?_
    exact z_iret (pc := 12) F E dX8_open_12
  · refine z_iload_n (pc := 5) F dX8_open_5 rfl ?_
    refine z_iconst (pc := 6) F (v := 5) dX8_open_6 (by decide) ?_
    refine z_icmp_le (pc := 7) F 13 dX8_open_7 (by decide) (fun h3 => ?_) (fun h3 => ?_)
    · refine z_aload_n (pc := 13) F dX8_open_13 rfl ?_
      refine z_get (pc := 14) F 0 0 3 (v := .ref (zad K 10 0)) (by decide) (fun _ => rfl) rfl (by decide) inlX8 lk_RX8_35 rfl dX8_open_14 ?_
      refine z_iload_n (pc := 17) F dX8_open_17 rfl ?_
      refine z_iload_n (pc := 18) F dX8_open_18 rfl ?_
      refine z_callNi (pc := 19) (st := []) F 10 0 [.int a1, .int a2] cl_RX8_141 (tX2_begin (zln K) σ a1 a2) rfl (by decide) (fun _ => ⟨_, rfl⟩) rfl (by rw [hR]; exact ⟨rfl, rfl, Nat.le_of_ble_eq_true rfl, Nat.le_of_ble_eq_true rfl⟩) rfl rfl (Nat.le_of_ble_eq_true rfl) dX8_open_19 (fun x2 s1 => ?_)
      exact z_iret (pc := 22) F E dX8_open_22
    · refine z_bipush (pc := 10) F (v := -2) dX8_open_10 (by decide) ?_
      exact z_iret (pc := 12) F E dX8_open_12
def fX8_opened (a1 : Int32) (σ : zS) : Option (Int32 × zS) := if a1 < 0 then some ((-1 : Int32), σ) else if a1 < (σ 10 0 4) then zIx a1 3 (zB ((σ 11 0 a1.toNatClampNeg).toNatClampNeg % 3) (fun i2 => zGd (i2 < 3) (some (σ 13 i2 1, σ)))) else some ((-1 : Int32), σ)
abbrev rmX8_opened : Room := { frames := 0, cells := 0, slots := 0, locals := 0 }
set_option maxRecDepth 100000 in
set_option maxHeartbeats 4000000 in
theorem tX8_opened (l : Launch) (σ : zS) (a1 : Int32) : zMi l yX8_opened cX8_opened 2 (some .int) rmX8_opened (fun ad => [.ref (ad 0 0), .int a1]) σ (fX8_opened a1 σ) := by
  refine zMi.of RX8 (by decide +kernel) rfl (fun _ => Nat.le_of_ble_eq_true rfl) (fun _ => zcat rfl) (fun K t F hR hL E => ?_)
  show ZO K t 0 [some (.ref (zad K 0 0)), some (.int a1)] [] σ (if a1 < 0 then some ((-1 : Int32), σ) else if a1 < (σ 10 0 4) then zIx a1 3 (zB ((σ 11 0 a1.toNatClampNeg).toNatClampNeg % 3) (fun i2 => zGd (i2 < 3) (some (σ 13 i2 1, σ)))) else some ((-1 : Int32), σ))
  refine z_iload_n (pc := 0) F dX8_opened_0 rfl ?_
  refine z_if_lt (pc := 1) F 15 dX8_opened_1 (by decide) (fun h5 => ?_) (fun h5 => ?_)
  · refine z_iconst (pc := 15) F (v := -1) dX8_opened_15 (by decide) ?_
    refine z_goto (pc := 16) F 31 dX8_opened_16 (by decide) ?_
    exact z_iret (pc := 31) F E dX8_opened_31
  · refine z_iload_n (pc := 4) F dX8_opened_4 rfl ?_
    refine z_aload_n (pc := 5) F dX8_opened_5 rfl ?_
    refine z_get (pc := 6) F 0 0 3 (v := .ref (zad K 10 0)) (by decide) (fun _ => rfl) rfl (by decide) inlX8 lk_RX8_35 rfl dX8_opened_6 ?_
    refine z_getN (pc := 9) F 10 0 4 (v := .int (σ 10 0 4)) (by decide) (fun _ => rfl) rfl (by decide) inlX2 lk_RX8_189 rfl dX8_opened_9 ?_
    refine z_icmp_lt (pc := 12) F 19 dX8_opened_12 (by decide) (fun h4 => ?_) (fun h4 => ?_)
    · refine z_aload_n (pc := 19) F dX8_opened_19 rfl ?_
      refine z_get (pc := 20) F 0 0 3 (v := .ref (zad K 10 0)) (by decide) (fun _ => rfl) rfl (by decide) inlX8 lk_RX8_35 rfl dX8_opened_20 ?_
      refine z_getN (pc := 23) F 10 0 0 (v := .ref (zad K 11 0)) (by decide) (fun _ => rfl) rfl (by decide) inlX2 lk_RX8_192 rfl dX8_opened_23 ?_
      refine z_iload_n (pc := 26) F dX8_opened_26 rfl ?_
      refine z_ix (fun h1 => ?_)
      refine z_aald (pc := 27) F 11 0 13 ((σ 11 0 a1.toNatClampNeg).toNatClampNeg % 3) 2 (by decide) (fun _ => rfl) (fun _ => rfl) rfl h1 (fun _ => rfl) dX8_opened_27 ?_
      refine z_Br (fun i2 => ?_)
      refine z_gd (fun h3 => ?_)
      refine z_getN (pc := 28) F 13 i2 1 (v := .int (σ 13 i2 1)) h3 (fun _ => rfl) rfl (by decide) inlX1 lk_RX8_196 rfl dX8_opened_28 ?_
      exact z_iret (pc := 31) F E dX8_opened_31
    · refine z_iconst (pc := 15) F (v := -1) dX8_opened_15 (by decide) ?_
      refine z_goto (pc := 16) F 31 dX8_opened_16 (by decide) ?_
      exact z_iret (pc := 31) F E dX8_opened_31
def fX8_rank (a1 : Int32) (a2 : Int32) (σ : zS) : Option (Int32 × zS) := zCq (fX2_nodeOf a1 a2 σ) (fun s1 => some ((-1 : Int32), s1)) (fun i2 s1 => zGd (i2 < 12) (zCi (fX3_height i2 s1) (fun x5 s4 => some (x5, s4))))
abbrev rmX8_rank : Room := { frames := 2, cells := 0, slots := 0, locals := 45 }
set_option maxRecDepth 100000 in
set_option maxHeartbeats 4000000 in
theorem tX8_rank (l : Launch) (σ : zS) (a1 : Int32) (a2 : Int32) : zMi l yX8_rank cX8_rank 4 (some .int) rmX8_rank (fun ad => [.ref (ad 0 0), .int a1, .int a2]) σ (fX8_rank a1 a2 σ) := by
  refine zMi.of RX8 (by decide +kernel) rfl (fun _ => Nat.le_of_ble_eq_true rfl) (fun _ => zcat rfl) (fun K t F hR hL E => ?_)
  show ZO K t 0 [some (.ref (zad K 0 0)), some (.int a1), some (.int a2), none] [] σ (zCq (fX2_nodeOf a1 a2 σ) (fun s1 => some ((-1 : Int32), s1)) (fun i2 s1 => zGd (i2 < 12) (zCi (fX3_height i2 s1) (fun x5 s4 => some (x5, s4)))))
  refine z_aload_n (pc := 0) F dX8_rank_0 rfl ?_
  refine z_get (pc := 1) F 0 0 3 (v := .ref (zad K 10 0)) (by decide) (fun _ => rfl) rfl (by decide) inlX8 lk_RX8_35 rfl dX8_rank_1 ?_
  refine z_iload_n (pc := 4) F dX8_rank_4 rfl ?_
  refine z_iload_n (pc := 5) F dX8_rank_5 rfl ?_
  refine z_callNq (pc := 6) (st := []) F 10 0 [.int a1, .int a2] cl_RX8_144 (tX2_nodeOf (zln K) σ a1 a2) rfl (by decide) (fun _ => ⟨_, rfl⟩) rfl (by rw [hR]; exact ⟨rfl, rfl, Nat.le_of_ble_eq_true rfl, Nat.le_of_ble_eq_true rfl⟩) rfl rfl (Nat.le_of_ble_eq_true rfl) dX8_rank_6 (fun s1 => ?_) (fun i2 s1 => ?_)
  · refine z_astore_nN (pc := 9) F (lv' := [some (.ref (zad K 0 0)), some (.int a1), some (.int a2), some (.null)]) dX8_rank_9 (zlt rfl) rfl ?_
    refine z_aload_nN (pc := 10) F dX8_rank_10 rfl ?_
    refine z_ifnonnullN (pc := 11) F dX8_rank_11 ?_
    refine z_iconst (pc := 14) F (v := -1) dX8_rank_14 (by decide) ?_
    refine z_goto (pc := 15) F 22 dX8_rank_15 (by decide) ?_
    exact z_iret (pc := 22) F E dX8_rank_22
  · refine z_gd (fun h3 => ?_)
    refine z_astore_n (pc := 9) F (lv' := [some (.ref (zad K 0 0)), some (.int a1), some (.int a2), some (.ref (zad K 15 i2))]) dX8_rank_9 (zlt rfl) rfl ?_
    refine z_aload_n (pc := 10) F dX8_rank_10 rfl ?_
    refine z_ifnonnull (pc := 11) F 18 dX8_rank_11 (by decide) ?_
    refine z_aload_n (pc := 18) F dX8_rank_18 rfl ?_
    refine z_callNi (pc := 19) (st := []) F 15 i2 [] cl_RX8_148 (tX3_height (zln K) s1 i2 h3) rfl h3 (fun _ => ⟨_, rfl⟩) rfl (by rw [hR]; exact ⟨rfl, rfl, Nat.le_of_ble_eq_true rfl, Nat.le_of_ble_eq_true rfl⟩) rfl rfl (Nat.le_of_ble_eq_true rfl) dX8_rank_19 (fun x5 s4 => ?_)
    exact z_iret (pc := 22) F E dX8_rank_22
def fX8_read (a1 : Int32) (a2 : Int32) (a3 : Int32) (a4 : Int32) (σ : zS) : Option (Int32 × zS) := zCq (fX2_find a1 σ) (fun s1 => zCq (fX2_nodeOf a1 a2 s1) (fun s4 => some ((-1 : Int32), s4)) (fun i5 s4 => zGd (i5 < 12) (some ((-1 : Int32), s4)))) (fun i2 s1 => zGd (i2 < 3) (zCq (fX2_nodeOf a1 a2 s1) (fun s7 => some ((-1 : Int32), s7)) (fun i8 s7 => zGd (i8 < 12) (if a3 < 0 then some ((-2 : Int32), s7) else if (s7 13 i2 2) ≤ a3 then some ((-2 : Int32), s7) else if a4 < 0 then some ((-2 : Int32), s7) else if a4 < (3 : Int32) then zCi (fX3_knows i8 a3 s7) (fun x11 s10 => if x11 = 0 then some ((-9 : Int32), s10) else zCi (fX3_cell i8 a3 ((5 : Int32) + a4) s10) (fun x13 s12 => some (x13, s12))) else some ((-2 : Int32), s7)))))
abbrev rmX8_read : Room := { frames := 2, cells := 0, slots := 0, locals := 45 }
set_option maxRecDepth 100000 in
set_option maxHeartbeats 4000000 in
theorem tX8_read (l : Launch) (σ : zS) (a1 : Int32) (a2 : Int32) (a3 : Int32) (a4 : Int32) : zMi l yX8_read cX8_read 7 (some .int) rmX8_read (fun ad => [.ref (ad 0 0), .int a1, .int a2, .int a3, .int a4]) σ (fX8_read a1 a2 a3 a4 σ) := by
  refine zMi.of RX8 (by decide +kernel) rfl (fun _ => Nat.le_of_ble_eq_true rfl) (fun _ => zcat rfl) (fun K t F hR hL E => ?_)
  show ZO K t 0 [some (.ref (zad K 0 0)), some (.int a1), some (.int a2), some (.int a3), some (.int a4), none, none] [] σ (zCq (fX2_find a1 σ) (fun s1 => zCq (fX2_nodeOf a1 a2 s1) (fun s4 => some ((-1 : Int32), s4)) (fun i5 s4 => zGd (i5 < 12) (some ((-1 : Int32), s4)))) (fun i2 s1 => zGd (i2 < 3) (zCq (fX2_nodeOf a1 a2 s1) (fun s7 => some ((-1 : Int32), s7)) (fun i8 s7 => zGd (i8 < 12) (if a3 < 0 then some ((-2 : Int32), s7) else if (s7 13 i2 2) ≤ a3 then some ((-2 : Int32), s7) else if a4 < 0 then some ((-2 : Int32), s7) else if a4 < (3 : Int32) then zCi (fX3_knows i8 a3 s7) (fun x11 s10 => if x11 = 0 then some ((-9 : Int32), s10) else zCi (fX3_cell i8 a3 ((5 : Int32) + a4) s10) (fun x13 s12 => some (x13, s12))) else some ((-2 : Int32), s7))))))
  refine z_aload_n (pc := 0) F dX8_read_0 rfl ?_
  refine z_get (pc := 1) F 0 0 3 (v := .ref (zad K 10 0)) (by decide) (fun _ => rfl) rfl (by decide) inlX8 lk_RX8_35 rfl dX8_read_1 ?_
  refine z_iload_n (pc := 4) F dX8_read_4 rfl ?_
  refine z_callNq (pc := 5) (st := []) F 10 0 [.int a1] cl_RX8_153 (tX2_find (zln K) σ a1) rfl (by decide) (fun _ => ⟨_, rfl⟩) rfl (by rw [hR]; exact ⟨rfl, rfl, Nat.le_of_ble_eq_true rfl, Nat.le_of_ble_eq_true rfl⟩) rfl rfl (Nat.le_of_ble_eq_true rfl) dX8_read_5 (fun s1 => ?_) (fun i2 s1 => ?_)
  · refine z_astoreN (pc := 8) F (lv' := [some (.ref (zad K 0 0)), some (.int a1), some (.int a2), some (.int a3), some (.int a4), some (.null), none]) dX8_read_8 (zlt rfl) rfl ?_
    refine z_aload_n (pc := 10) F dX8_read_10 rfl ?_
    refine z_get (pc := 11) F 0 0 3 (v := .ref (zad K 10 0)) (by decide) (fun _ => rfl) rfl (by decide) inlX8 lk_RX8_35 rfl dX8_read_11 ?_
    refine z_iload_n (pc := 14) F dX8_read_14 rfl ?_
    refine z_iload_n (pc := 15) F dX8_read_15 rfl ?_
    refine z_callNq (pc := 16) (st := []) F 10 0 [.int a1, .int a2] cl_RX8_144 (tX2_nodeOf (zln K) s1 a1 a2) rfl (by decide) (fun _ => ⟨_, rfl⟩) rfl (by rw [hR]; exact ⟨rfl, rfl, Nat.le_of_ble_eq_true rfl, Nat.le_of_ble_eq_true rfl⟩) rfl rfl (Nat.le_of_ble_eq_true rfl) dX8_read_16 (fun s4 => ?_) (fun i5 s4 => ?_)
    · refine z_astoreN (pc := 19) F (lv' := [some (.ref (zad K 0 0)), some (.int a1), some (.int a2), some (.int a3), some (.int a4), some (.null), some (.null)]) dX8_read_19 (zlt rfl) rfl ?_
      refine z_aloadN (pc := 21) F dX8_read_21 rfl ?_
      refine z_ifnullN (pc := 23) F 31 dX8_read_23 (by decide) ?_
      refine z_iconst (pc := 31) F (v := -1) dX8_read_31 (by decide) ?_
      exact z_iret (pc := 32) F E dX8_read_32
    · refine z_gd (fun h6 => ?_)
      refine z_astore (pc := 19) F (lv' := [some (.ref (zad K 0 0)), some (.int a1), some (.int a2), some (.int a3), some (.int a4), some (.null), some (.ref (zad K 15 i5))]) dX8_read_19 (zlt rfl) rfl ?_
      refine z_aloadN (pc := 21) F dX8_read_21 rfl ?_
      refine z_ifnullN (pc := 23) F 31 dX8_read_23 (by decide) ?_
      refine z_iconst (pc := 31) F (v := -1) dX8_read_31 (by decide) ?_
      exact z_iret (pc := 32) F E dX8_read_32
  · refine z_gd (fun h3 => ?_)
    refine z_astore (pc := 8) F (lv' := [some (.ref (zad K 0 0)), some (.int a1), some (.int a2), some (.int a3), some (.int a4), some (.ref (zad K 13 i2)), none]) dX8_read_8 (zlt rfl) rfl ?_
    refine z_aload_n (pc := 10) F dX8_read_10 rfl ?_
    refine z_get (pc := 11) F 0 0 3 (v := .ref (zad K 10 0)) (by decide) (fun _ => rfl) rfl (by decide) inlX8 lk_RX8_35 rfl dX8_read_11 ?_
    refine z_iload_n (pc := 14) F dX8_read_14 rfl ?_
    refine z_iload_n (pc := 15) F dX8_read_15 rfl ?_
    refine z_callNq (pc := 16) (st := []) F 10 0 [.int a1, .int a2] cl_RX8_144 (tX2_nodeOf (zln K) s1 a1 a2) rfl (by decide) (fun _ => ⟨_, rfl⟩) rfl (by rw [hR]; exact ⟨rfl, rfl, Nat.le_of_ble_eq_true rfl, Nat.le_of_ble_eq_true rfl⟩) rfl rfl (Nat.le_of_ble_eq_true rfl) dX8_read_16 (fun s7 => ?_) (fun i8 s7 => ?_)
    · refine z_astoreN (pc := 19) F (lv' := [some (.ref (zad K 0 0)), some (.int a1), some (.int a2), some (.int a3), some (.int a4), some (.ref (zad K 13 i2)), some (.null)]) dX8_read_19 (zlt rfl) rfl ?_
      refine z_aload (pc := 21) F dX8_read_21 rfl ?_
      refine z_ifnull (pc := 23) F dX8_read_23 ?_
      refine z_aloadN (pc := 26) F dX8_read_26 rfl ?_
      refine z_ifnonnullN (pc := 28) F dX8_read_28 ?_
      refine z_iconst (pc := 31) F (v := -1) dX8_read_31 (by decide) ?_
      exact z_iret (pc := 32) F E dX8_read_32
    · refine z_gd (fun h9 => ?_)
      refine z_astore (pc := 19) F (lv' := [some (.ref (zad K 0 0)), some (.int a1), some (.int a2), some (.int a3), some (.int a4), some (.ref (zad K 13 i2)), some (.ref (zad K 15 i8))]) dX8_read_19 (zlt rfl) rfl ?_
      refine z_aload (pc := 21) F dX8_read_21 rfl ?_
      refine z_ifnull (pc := 23) F dX8_read_23 ?_
      refine z_aload (pc := 26) F dX8_read_26 rfl ?_
      refine z_ifnonnull (pc := 28) F 33 dX8_read_28 (by decide) ?_
      refine z_iload_n (pc := 33) F dX8_read_33 rfl ?_
      refine z_if_lt (pc := 34) F 57 dX8_read_34 (by decide) (fun h18 => ?_) (fun h18 => ?_)
      · refine z_bipush (pc := 57) F (v := -2) dX8_read_57 (by decide) ?_
        exact z_iret (pc := 59) F E dX8_read_59
      · refine z_iload_n (pc := 37) F dX8_read_37 rfl ?_
        refine z_aload (pc := 38) F dX8_read_38 rfl ?_
        refine z_getN (pc := 40) F 13 i2 2 (v := .int (s7 13 i2 2)) h3 (fun _ => rfl) rfl (by decide) inlX1 lk_RX8_160 rfl dX8_read_40 ?_
        refine z_icmp_ge (pc := 43) F 57 dX8_read_43 (by decide) (fun h17 => ?_) (fun h17 => ?_)
        · refine z_bipush (pc := 57) F (v := -2) dX8_read_57 (by decide) ?_
          exact z_iret (pc := 59) F E dX8_read_59
        · refine z_iload (pc := 46) F dX8_read_46 rfl ?_
          refine z_if_lt (pc := 48) F 57 dX8_read_48 (by decide) (fun h16 => ?_) (fun h16 => ?_)
          · refine z_bipush (pc := 57) F (v := -2) dX8_read_57 (by decide) ?_
            exact z_iret (pc := 59) F E dX8_read_59
          · refine z_iload (pc := 51) F dX8_read_51 rfl ?_
            refine z_iconst (pc := 53) F (v := 3) dX8_read_53 (by decide) ?_
            refine z_icmp_lt (pc := 54) F 60 dX8_read_54 (by decide) (fun h15 => ?_) (fun h15 => ?_)
            · refine z_aload (pc := 60) F dX8_read_60 rfl ?_
              refine z_iload_n (pc := 62) F dX8_read_62 rfl ?_
              refine z_callNi (pc := 63) (st := []) F 15 i8 [.int a3] cl_RX8_168 (tX3_knows (zln K) s7 i8 a3 h9) rfl h9 (fun _ => ⟨_, rfl⟩) rfl (by rw [hR]; exact ⟨rfl, rfl, Nat.le_of_ble_eq_true rfl, Nat.le_of_ble_eq_true rfl⟩) rfl rfl (Nat.le_of_ble_eq_true rfl) dX8_read_63 (fun x11 s10 => ?_)
              refine z_if_eq (pc := 66) F 82 dX8_read_66 (by decide) (fun h14 => ?_) (fun h14 => ?_)
              · refine z_bipush (pc := 82) F (v := -9) dX8_read_82 (by decide) ?_
                exact z_iret (pc := 84) F E dX8_read_84
              · refine z_aload (pc := 69) F dX8_read_69 rfl ?_
                refine z_iload_n (pc := 71) F dX8_read_71 rfl ?_
                refine z_iconst (pc := 72) F (v := 5) dX8_read_72 (by decide) ?_
                refine z_iload (pc := 73) F dX8_read_73 rfl ?_
                refine z_iadd (pc := 75) F dX8_read_75 ?_
                refine z_callNi (pc := 76) (st := []) F 15 i8 [.int a3, .int ((5 : Int32) + a4)] cl_RX8_165 (tX3_cell (zln K) s10 i8 a3 ((5 : Int32) + a4) h9) rfl h9 (fun _ => ⟨_, rfl⟩) rfl (by rw [hR]; exact ⟨rfl, rfl, Nat.le_of_ble_eq_true rfl, Nat.le_of_ble_eq_true rfl⟩) rfl rfl (Nat.le_of_ble_eq_true rfl) dX8_read_76 (fun x13 s12 => ?_)
                refine z_goto (pc := 79) F 84 dX8_read_79 (by decide) ?_
                exact z_iret (pc := 84) F E dX8_read_84
            · refine z_bipush (pc := 57) F (v := -2) dX8_read_57 (by decide) ?_
              exact z_iret (pc := 59) F E dX8_read_59
def fX8_reads (a1 : Int32) (a2 : Int32) (σ : zS) : Option (Int32 × zS) := zCi (fX8_isStation a1 σ) (fun x2 s1 => if x2 = 0 then some ((-1 : Int32), s1) else zCi (fX6_isSum a2 s1) (fun x4 s3 => if x4 = 0 then some ((-2 : Int32), s3) else zCi (fX6_readBy a1 a2 s3) (fun x6 s5 => some (x6, s5))))
abbrev rmX8_reads : Room := { frames := 2, cells := 0, slots := 0, locals := 43 }
set_option maxRecDepth 100000 in
set_option maxHeartbeats 4000000 in
theorem tX8_reads (l : Launch) (σ : zS) (a1 : Int32) (a2 : Int32) : zMi l yX8_reads cX8_reads 3 (some .int) rmX8_reads (fun ad => [.ref (ad 0 0), .int a1, .int a2]) σ (fX8_reads a1 a2 σ) := by
  refine zMi.of RX8 (by decide +kernel) rfl (fun _ => Nat.le_of_ble_eq_true rfl) (fun _ => zcat rfl) (fun K t F hR hL E => ?_)
  show ZO K t 0 [some (.ref (zad K 0 0)), some (.int a1), some (.int a2)] [] σ (zCi (fX8_isStation a1 σ) (fun x2 s1 => if x2 = 0 then some ((-1 : Int32), s1) else zCi (fX6_isSum a2 s1) (fun x4 s3 => if x4 = 0 then some ((-2 : Int32), s3) else zCi (fX6_readBy a1 a2 s3) (fun x6 s5 => some (x6, s5)))))
  refine z_iload_n (pc := 0) F dX8_reads_0 rfl ?_
  refine z_callSi (pc := 1) (st := []) F [.int a1] cl_RX8_58 (tX8_isStation (zln K) σ a1) rfl (by rw [hR]; exact ⟨rfl, rfl, Nat.le_of_ble_eq_true rfl, Nat.le_of_ble_eq_true rfl⟩) rfl rfl (Nat.le_of_ble_eq_true rfl) dX8_reads_1 (fun x2 s1 => ?_)
  refine z_if_ne (pc := 4) F 9 dX8_reads_4 (by decide) (fun h8 => ?_) (fun h8 => ?_)
  · refine z_aload_n (pc := 9) F dX8_reads_9 rfl ?_
    refine z_get (pc := 10) F 0 0 0 (v := .ref (zad K 1 0)) (by decide) (fun _ => rfl) rfl (by decide) inlX8 lk_RX8_12 rfl dX8_reads_10 ?_
    refine z_iload_n (pc := 13) F dX8_reads_13 rfl ?_
    refine z_callNi (pc := 14) (st := []) F 1 0 [.int a2] cl_RX8_107 (tX6_isSum (zln K) s1 a2) rfl (by decide) (fun _ => ⟨_, rfl⟩) rfl (by rw [hR]; exact ⟨rfl, rfl, Nat.le_of_ble_eq_true rfl, Nat.le_of_ble_eq_true rfl⟩) rfl rfl (Nat.le_of_ble_eq_true rfl) dX8_reads_14 (fun x4 s3 => ?_)
    refine z_if_eq (pc := 17) F 32 dX8_reads_17 (by decide) (fun h7 => ?_) (fun h7 => ?_)
    · refine z_bipush (pc := 32) F (v := -2) dX8_reads_32 (by decide) ?_
      exact z_iret (pc := 34) F E dX8_reads_34
    · refine z_aload_n (pc := 20) F dX8_reads_20 rfl ?_
      refine z_get (pc := 21) F 0 0 0 (v := .ref (zad K 1 0)) (by decide) (fun _ => rfl) rfl (by decide) inlX8 lk_RX8_12 rfl dX8_reads_21 ?_
      refine z_iload_n (pc := 24) F dX8_reads_24 rfl ?_
      refine z_iload_n (pc := 25) F dX8_reads_25 rfl ?_
      refine z_callNi (pc := 26) (st := []) F 1 0 [.int a1, .int a2] cl_RX8_110 (tX6_readBy (zln K) s3 a1 a2) rfl (by decide) (fun _ => ⟨_, rfl⟩) rfl (by rw [hR]; exact ⟨rfl, rfl, Nat.le_of_ble_eq_true rfl, Nat.le_of_ble_eq_true rfl⟩) rfl rfl (Nat.le_of_ble_eq_true rfl) dX8_reads_26 (fun x6 s5 => ?_)
      refine z_goto (pc := 29) F 34 dX8_reads_29 (by decide) ?_
      exact z_iret (pc := 34) F E dX8_reads_34
  · refine z_iconst (pc := 7) F (v := -1) dX8_reads_7 (by decide) ?_
    exact z_iret (pc := 8) F E dX8_reads_8
