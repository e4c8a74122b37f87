def fJ0_coder_7d493 (si : Nat) (σ : zS) : Option (Int32 × zS) := if (1 : Int32) = 0 then some ((1 : Int32), σ) else some ((0 : Int32), σ)
abbrev rmJ0_coder_7d493 : Room := { frames := 0, cells := 0, slots := 0, locals := 0 }
set_option maxRecDepth 100000 in
set_option maxHeartbeats 4000000 in
theorem tJ0_coder_7d493 (l : Launch) (σ : zS) (si : Nat) (h_si : si < 4) : zMs l yJ0_coder_7d493 cJ0_coder_7d493 1 (some .byte) rmJ0_coder_7d493 (fun ad => [.ref (ad 40 si)]) σ (fJ0_coder_7d493 si σ) := by
  refine zMs.of RJ0 (by decide +kernel) rfl (fun _ => Nat.le_of_ble_eq_true rfl) (fun _ => zcat rfl) (fun K t F hR hL S E => ?_)
  show ZO K t 0 [some (.ref (zad K 40 si))] [] σ (if (1 : Int32) = 0 then some ((1 : Int32), σ) else some ((0 : Int32), σ))
  refine z_gsC (pc := 0) F S lk_RJ0_38 dJ0_coder_7d493_0 ?_
  refine z_if_eq (pc := 3) F 13 dJ0_coder_7d493_3 (by decide) (fun h1 => ?_) (fun h1 => ?_)
  · refine z_iconst (pc := 13) F (v := 1) dJ0_coder_7d493_13 (by decide) ?_
    exact z_zret (pc := 14) F E (by decide) dJ0_coder_7d493_14
  · refine z_aload_n (pc := 6) F dJ0_coder_7d493_6 rfl ?_
    refine z_sgetC (pc := 7) F S si h_si lk_RJ0_15 dJ0_coder_7d493_7 ?_
    refine z_goto (pc := 10) F 14 dJ0_coder_7d493_10 (by decide) ?_
    exact z_zret (pc := 14) F E (by decide) dJ0_coder_7d493_14
def fJ0_length_8abf5 (si : Nat) (σ : zS) : Option (Int32 × zS) := zCi (fJ0_coder_7d493 si σ) (fun x2 s1 => some ((nI (zLen.getD si 0)) >>> (x2 &&& 31), s1))
abbrev rmJ0_length_8abf5 : Room := { frames := 1, cells := 0, slots := 0, locals := 20 }
set_option maxRecDepth 100000 in
set_option maxHeartbeats 4000000 in
theorem tJ0_length_8abf5 (l : Launch) (σ : zS) (si : Nat) (h_si : si < 4) : zMs l yJ0_length_8abf5 cJ0_length_8abf5 1 (some .int) rmJ0_length_8abf5 (fun ad => [.ref (ad 40 si)]) σ (fJ0_length_8abf5 si σ) := by
  refine zMs.of RJ0 (by decide +kernel) rfl (fun _ => Nat.le_of_ble_eq_true rfl) (fun _ => zcat rfl) (fun K t F hR hL S E => ?_)
  show ZO K t 0 [some (.ref (zad K 40 si))] [] σ (zCi (fJ0_coder_7d493 si σ) (fun x2 s1 => some ((nI (zLen.getD si 0)) >>> (x2 &&& 31), s1)))
  refine z_aload_n (pc := 0) F dJ0_length_8abf5_0 rfl ?_
  refine z_sgetV (pc := 1) F S si h_si lk_RJ0_9 dJ0_length_8abf5_1 ?_
  refine z_slenS (pc := 4) F S si h_si dJ0_length_8abf5_4 ?_
  refine z_aload_n (pc := 5) F dJ0_length_8abf5_5 rfl ?_
  refine z_callTsi (pc := 6) (st := [.int (nI (zLen.getD si 0))]) F S si [] cl_RJ0_335 (tJ0_coder_7d493 (zln K) σ si h_si) rfl h_si rfl (by rw [hR]; exact ⟨rfl, rfl, Nat.le_of_ble_eq_true rfl, Nat.le_of_ble_eq_true rfl⟩) rfl rfl (Nat.le_of_ble_eq_true rfl) dJ0_length_8abf5_6 (fun x2 s1 => ?_)
  refine z_ishr (pc := 9) F dJ0_length_8abf5_9 ?_
  exact z_iret (pc := 10) F E dJ0_length_8abf5_10
def fJ0_isLatin1_aae02 (si : Nat) (σ : zS) : Option (Int32 × zS) := if (1 : Int32) = 0 then some ((0 : Int32), σ) else if (0 : Int32) = 0 then some ((1 : Int32), σ) else some ((0 : Int32), σ)
abbrev rmJ0_isLatin1_aae02 : Room := { frames := 0, cells := 0, slots := 0, locals := 0 }
set_option maxRecDepth 100000 in
set_option maxHeartbeats 4000000 in
theorem tJ0_isLatin1_aae02 (l : Launch) (σ : zS) (si : Nat) (h_si : si < 4) : zMs l yJ0_isLatin1_aae02 cJ0_isLatin1_aae02 1 (some .boolean) rmJ0_isLatin1_aae02 (fun ad => [.ref (ad 40 si)]) σ (fJ0_isLatin1_aae02 si σ) := by
  refine zMs.of RJ0 (by decide +kernel) rfl (fun _ => Nat.le_of_ble_eq_true rfl) (fun _ => zcat rfl) (fun K t F hR hL S E => ?_)
  show ZO K t 0 [some (.ref (zad K 40 si))] [] σ (if (1 : Int32) = 0 then some ((0 : Int32), σ) else if (0 : Int32) = 0 then some ((1 : Int32), σ) else some ((0 : Int32), σ))
  refine z_gsC (pc := 0) F S lk_RJ0_38 dJ0_isLatin1_aae02_0 ?_
  refine z_if_eq (pc := 3) F 17 dJ0_isLatin1_aae02_3 (by decide) (fun h2 => ?_) (fun h2 => ?_)
  · refine z_iconst (pc := 17) F (v := 0) dJ0_isLatin1_aae02_17 (by decide) ?_
    exact z_zret (pc := 18) F E (by decide) dJ0_isLatin1_aae02_18
  · refine z_aload_n (pc := 6) F dJ0_isLatin1_aae02_6 rfl ?_
    refine z_sgetC (pc := 7) F S si h_si lk_RJ0_15 dJ0_isLatin1_aae02_7 ?_
    refine z_if_ne (pc := 10) F 17 dJ0_isLatin1_aae02_10 (by decide) (fun h1 => ?_) (fun h1 => ?_)
    · refine z_iconst (pc := 17) F (v := 0) dJ0_isLatin1_aae02_17 (by decide) ?_
      exact z_zret (pc := 18) F E (by decide) dJ0_isLatin1_aae02_18
    · refine z_iconst (pc := 13) F (v := 1) dJ0_isLatin1_aae02_13 (by decide) ?_
      refine z_goto (pc := 14) F 18 dJ0_isLatin1_aae02_14 (by decide) ?_
      exact z_zret (pc := 18) F E (by decide) dJ0_isLatin1_aae02_18
def fJ3_checkIndex_8e157 (a1 : Int32) (a2 : Int32) (σ : zS) : Option (Int32 × zS) := if a1 < 0 then none else if a1 < a2 then some (a1, σ) else none
abbrev rmJ3_checkIndex_8e157 : Room := { frames := 0, cells := 0, slots := 0, locals := 0 }
set_option maxRecDepth 100000 in
set_option maxHeartbeats 4000000 in
theorem tJ3_checkIndex_8e157 (l : Launch) (σ : zS) (a1 : Int32) (a2 : Int32) : zMs l yJ3_checkIndex_8e157 cJ3_checkIndex_8e157 3 (some .int) rmJ3_checkIndex_8e157 (fun ad => [.int a1, .int a2, if ad 42 0 = 0 then .null else .ref (ad 42 0 - 1)]) σ (fJ3_checkIndex_8e157 a1 a2 σ) := by
  refine zMs.of RJ3 (by decide +kernel) rfl (fun _ => Nat.le_of_ble_eq_true rfl) (fun ad v hv => by simp only [List.mem_cons, List.not_mem_nil, or_false] at hv; rcases hv with rfl | rfl | rfl <;> first | rfl | exact zfo_cat) (fun K t F hR hL S E => ?_)
  show ZO K t 0 [some (.int a1), some (.int a2), some (zfo K)] [] σ (if a1 < 0 then none else if a1 < a2 then some (a1, σ) else none)
  refine z_iload_n (pc := 0) F dJ3_checkIndex_8e157_0 rfl ?_
  refine z_if_lt (pc := 1) F 9 dJ3_checkIndex_8e157_1 (by decide) (fun h2 => ?_) (fun h2 => ?_)
  · exact z_none
  · refine z_iload_n (pc := 4) F dJ3_checkIndex_8e157_4 rfl ?_
    refine z_iload_n (pc := 5) F dJ3_checkIndex_8e157_5 rfl ?_
    refine z_icmp_lt (pc := 6) F 16 dJ3_checkIndex_8e157_6 (by decide) (fun h1 => ?_) (fun h1 => ?_)
    · refine z_iload_n (pc := 16) F dJ3_checkIndex_8e157_16 rfl ?_
      exact z_iret (pc := 17) F E dJ3_checkIndex_8e157_17
    · exact z_none
def fJ0_checkIndex_df160 (a1 : Int32) (a2 : Int32) (σ : zS) : Option (Int32 × zS) := zCi (fJ3_checkIndex_8e157 a1 a2 σ) (fun x2 s1 => some ((0 : Int32), s1))
abbrev rmJ0_checkIndex_df160 : Room := { frames := 1, cells := 0, slots := 0, locals := 22 }
set_option maxRecDepth 100000 in
set_option maxHeartbeats 4000000 in
theorem tJ0_checkIndex_df160 (l : Launch) (σ : zS) (a1 : Int32) (a2 : Int32) : zMw l yJ0_checkIndex_df160 cJ0_checkIndex_df160 2 none rmJ0_checkIndex_df160 (fun _ => [.int a1, .int a2]) σ (fJ0_checkIndex_df160 a1 a2 σ) := by
  refine zMw.of RJ0 (by decide +kernel) rfl (fun _ => Nat.le_of_ble_eq_true rfl) (fun _ => zcat rfl) (fun K t F hR hL S E => ?_)
  show ZO K t 0 [some (.int a1), some (.int a2)] [] σ (zCi (fJ3_checkIndex_8e157 a1 a2 σ) (fun x2 s1 => some ((0 : Int32), s1)))
  refine z_iload_n (pc := 0) F dJ0_checkIndex_df160_0 rfl ?_
  refine z_iload_n (pc := 1) F dJ0_checkIndex_df160_1 rfl ?_
  refine z_gsF (pc := 2) F S lk_RJ0_1053 dJ0_checkIndex_df160_2 ?_
  refine z_callSsi (pc := 5) (st := []) F S [.int a1, .int a2, zfo K] cl_RJ0_1059 (tJ3_checkIndex_8e157 (zln K) σ a1 a2) rfl (by rw [hR]; exact ⟨rfl, rfl, Nat.le_of_ble_eq_true rfl, Nat.le_of_ble_eq_true rfl⟩) rfl rfl (Nat.le_of_ble_eq_true rfl) dJ0_checkIndex_df160_5 (fun x2 s1 => ?_)
  refine z_pop (pc := 8) F dJ0_checkIndex_df160_8 rfl ?_
  exact z_vret (pc := 9) (x := 0) F E dJ0_checkIndex_df160_9
def fJ1_charAt_3b067 (b1 : Nat) (a2 : Int32) (σ : zS) : Option (Int32 × zS) := zCv (fJ0_checkIndex_df160 a2 (nI (zLen.getD b1 0)) σ) (fun s1 => zIx a2 (zLen.getD b1 0) (zGd (((((((zByt.getD b1 []).getD a2.toNatClampNeg 0) &&& (255 : Int32)).toUInt32 % 65536).toInt32).toUInt32 % 65536).toInt32 = (((((zByt.getD b1 []).getD a2.toNatClampNeg 0) &&& (255 : Int32)).toUInt32 % 65536).toInt32)) (some (((((zByt.getD b1 []).getD a2.toNatClampNeg 0) &&& (255 : Int32)).toUInt32 % 65536).toInt32, s1))))
abbrev rmJ1_charAt_3b067 : Room := { frames := 2, cells := 0, slots := 0, locals := 43 }
set_option maxRecDepth 100000 in
set_option maxHeartbeats 4000000 in
theorem tJ1_charAt_3b067 (l : Launch) (σ : zS) (b1 : Nat) (a2 : Int32) (h_b1 : b1 < 4) : zMs l yJ1_charAt_3b067 cJ1_charAt_3b067 2 (some .char) rmJ1_charAt_3b067 (fun ad => [.ref (ad 41 b1), .int a2]) σ (fJ1_charAt_3b067 b1 a2 σ) := by
  refine zMs.of RJ1 (by decide +kernel) rfl (fun _ => Nat.le_of_ble_eq_true rfl) (fun _ => zcat rfl) (fun K t F hR hL S E => ?_)
  show ZO K t 0 [some (.ref (zad K 41 b1)), some (.int a2)] [] σ (zCv (fJ0_checkIndex_df160 a2 (nI (zLen.getD b1 0)) σ) (fun s1 => zIx a2 (zLen.getD b1 0) (zGd (((((((zByt.getD b1 []).getD a2.toNatClampNeg 0) &&& (255 : Int32)).toUInt32 % 65536).toInt32).toUInt32 % 65536).toInt32 = (((((zByt.getD b1 []).getD a2.toNatClampNeg 0) &&& (255 : Int32)).toUInt32 % 65536).toInt32)) (some (((((zByt.getD b1 []).getD a2.toNatClampNeg 0) &&& (255 : Int32)).toUInt32 % 65536).toInt32, s1)))))
  refine z_iload_n (pc := 0) F dJ1_charAt_3b067_0 rfl ?_
  refine z_aload_n (pc := 1) F dJ1_charAt_3b067_1 rfl ?_
  refine z_slenS (pc := 2) F S b1 h_b1 dJ1_charAt_3b067_2 ?_
  refine z_callSsv (pc := 3) (st := []) F S [.int a2, .int (nI (zLen.getD b1 0))] cl_RJ1_9 (tJ0_checkIndex_df160 (zln K) σ a2 (nI (zLen.getD b1 0))) rfl (by rw [hR]; exact ⟨rfl, rfl, Nat.le_of_ble_eq_true rfl, Nat.le_of_ble_eq_true rfl⟩) rfl rfl (Nat.le_of_ble_eq_true rfl) dJ1_charAt_3b067_3 (fun s1 => ?_)
  refine z_aload_n (pc := 6) F dJ1_charAt_3b067_6 rfl ?_
  refine z_iload_n (pc := 7) F dJ1_charAt_3b067_7 rfl ?_
  refine z_ix (fun h2 => ?_)
  refine z_sbyt (pc := 8) F S b1 h_b1 h2 dJ1_charAt_3b067_8 ?_
  refine z_sipush (pc := 9) F (v := 255) dJ1_charAt_3b067_9 (by decide) ?_
  refine z_iand (pc := 12) F dJ1_charAt_3b067_12 ?_
  refine z_i2c (pc := 13) F dJ1_charAt_3b067_13 ?_
  refine z_gd (fun h3 => ?_)
  exact z_zret (pc := 14) F E (zNarC h3) dJ1_charAt_3b067_14
def fJ0_charAt_5068e (si : Nat) (a1 : Int32) (σ : zS) : Option (Int32 × zS) := zCi (fJ0_isLatin1_aae02 si σ) (fun x2 s1 => if x2 = 0 then none else zCi (fJ1_charAt_3b067 si a1 s1) (fun x4 s3 => zGd ((x4.toUInt32 % 65536).toInt32 = x4) (some (x4, s3))))
abbrev rmJ0_charAt_5068e : Room := { frames := 3, cells := 0, slots := 0, locals := 64 }
set_option maxRecDepth 100000 in
set_option maxHeartbeats 4000000 in
theorem tJ0_charAt_5068e (l : Launch) (σ : zS) (si : Nat) (a1 : Int32) (h_si : si < 4) : zMs l yJ0_charAt_5068e cJ0_charAt_5068e 2 (some .char) rmJ0_charAt_5068e (fun ad => [.ref (ad 40 si), .int a1]) σ (fJ0_charAt_5068e si a1 σ) := by
  refine zMs.of RJ0 (by decide +kernel) rfl (fun _ => Nat.le_of_ble_eq_true rfl) (fun _ => zcat rfl) (fun K t F hR hL S E => ?_)
  show ZO K t 0 [some (.ref (zad K 40 si)), some (.int a1)] [] σ (zCi (fJ0_isLatin1_aae02 si σ) (fun x2 s1 => if x2 = 0 then none else zCi (fJ1_charAt_3b067 si a1 s1) (fun x4 s3 => zGd ((x4.toUInt32 % 65536).toInt32 = x4) (some (x4, s3)))))
  refine z_aload_n (pc := 0) F dJ0_charAt_5068e_0 rfl ?_
  refine z_callTsi (pc := 1) (st := []) F S si [] cl_RJ0_492 (tJ0_isLatin1_aae02 (zln K) σ si h_si) rfl h_si rfl (by rw [hR]; exact ⟨rfl, rfl, Nat.le_of_ble_eq_true rfl, Nat.le_of_ble_eq_true rfl⟩) rfl rfl (Nat.le_of_ble_eq_true rfl) dJ0_charAt_5068e_1 (fun x2 s1 => ?_)
  refine z_if_eq (pc := 4) F 16 dJ0_charAt_5068e_4 (by decide) (fun h6 => ?_) (fun h6 => ?_)
  · exact z_none
  · refine z_aload_n (pc := 7) F dJ0_charAt_5068e_7 rfl ?_
    refine z_sgetV (pc := 8) F S si h_si lk_RJ0_9 dJ0_charAt_5068e_8 ?_
    refine z_iload_n (pc := 11) F dJ0_charAt_5068e_11 rfl ?_
    refine z_callSsi (pc := 12) (st := []) F S [.ref (zad K 41 si), .int a1] cl_RJ0_495 (tJ1_charAt_3b067 (zln K) s1 si a1 h_si) rfl (by rw [hR]; exact ⟨rfl, rfl, Nat.le_of_ble_eq_true rfl, Nat.le_of_ble_eq_true rfl⟩) rfl rfl (Nat.le_of_ble_eq_true rfl) dJ0_charAt_5068e_12 (fun x4 s3 => ?_)
    refine z_gd (fun h5 => ?_)
    exact z_zret (pc := 15) F E (zNarC h5) dJ0_charAt_5068e_15
def fX7_spells_15 (n1 : Nat) (k15_3 : zS → Option (Int32 × zS)) : Nat → Int32 → zS → Option (Int32 × zS)
  | 0, _, _ => none
  | (n15_3 + 1), v2_15_3, w15_3 => if (w15_3 7 0 1) ≤ v2_15_3 then k15_3 w15_3 else zCi (fJ0_charAt_5068e n1 v2_15_3 w15_3) (fun x5 s4 => zIx v2_15_3 12 (if x5 = (s4 8 0 v2_15_3.toNatClampNeg) then zB (v2_15_3 + 1) (fun x7 => fX7_spells_15 n1 k15_3 n15_3 x7 s4) else some ((0 : Int32), s4)))
def fX7_spells (n1 : Nat) (σ : zS) : Option (Int32 × zS) := zCi (fJ0_length_8abf5 n1 σ) (fun x2 s1 => if x2 = (s1 7 0 1) then fX7_spells_15 n1 (fun (y15_3 : zS) => (some ((1 : Int32), y15_3) : Option (Int32 × zS))) zN (0 : Int32) s1 else some ((0 : Int32), s1))
abbrev rmX7_spells : Room := { frames := 4, cells := 0, slots := 0, locals := 85 }
set_option maxRecDepth 100000 in
set_option maxHeartbeats 4000000 in
theorem tX7_spells (l : Launch) (σ : zS) (n1 : Nat) (h_n1 : n1 < 4) : zMs l yX7_spells cX7_spells 3 (some .boolean) rmX7_spells (fun ad => [.ref (ad 7 0), .ref (ad 40 n1)]) σ (fX7_spells n1 σ) := by
  refine zMs.of RX7 (by decide +kernel) rfl (fun _ => Nat.le_of_ble_eq_true rfl) (fun _ => zcat rfl) (fun K t F hR hL S E => ?_)
  show ZO K t 0 [some (.ref (zad K 7 0)), some (.ref (zad K 40 n1)), none] [] σ (zCi (fJ0_length_8abf5 n1 σ) (fun x2 s1 => if x2 = (s1 7 0 1) then fX7_spells_15 n1 (fun (y15_3 : zS) => (some ((1 : Int32), y15_3) : Option (Int32 × zS))) zN (0 : Int32) s1 else some ((0 : Int32), s1)))
  refine z_aload_n (pc := 0) F dX7_spells_0 rfl ?_
  refine z_callTsi (pc := 1) (st := []) F S n1 [] cl_RX7_19 (tJ0_length_8abf5 (zln K) σ n1 h_n1) rfl h_n1 rfl (by rw [hR]; exact ⟨rfl, rfl, Nat.le_of_ble_eq_true rfl, Nat.le_of_ble_eq_true rfl⟩) rfl rfl (Nat.le_of_ble_eq_true rfl) dX7_spells_1 (fun x2 s1 => ?_)
  refine z_aload_n (pc := 4) F dX7_spells_4 rfl ?_
  refine z_get (pc := 5) F 7 0 1 (v := .int (s1 7 0 1)) (by decide) (fun _ => rfl) rfl (by decide) inlX7 lk_RX7_15 rfl dX7_spells_5 ?_
  refine z_icmp_eq (pc := 8) F 13 dX7_spells_8 (by decide) (fun h10 => ?_) (fun h10 => ?_)
  · refine z_iconst (pc := 13) F (v := 0) dX7_spells_13 (by decide) ?_
    refine z_istore_n (pc := 14) F (lv' := [some (.ref (zad K 7 0)), some (.ref (zad K 40 n1)), some (.int (0 : Int32))]) dX7_spells_14 (zlt rfl) rfl ?_
    have hk15_3 : ∀ (y15_3 : zS), ZO K t 45 [none, none, none] [] y15_3 ((fun (y15_3 : zS) => (some ((1 : Int32), y15_3) : Option (Int32 × zS))) y15_3) := by
      intro y15_3
      show ZO K t 45 [none, none, none] [] y15_3 (some ((1 : Int32), y15_3))
      refine z_iconst (pc := 45) F (v := 1) dX7_spells_45 (by decide) ?_
      exact z_zret (pc := 46) F E (by decide) dX7_spells_46
    have L15_3 : ∀ (n15_3 : Nat) (v2_15_3 : Int32) (w15_3 : zS), ZO K t 15 [some (.ref (zad K 7 0)), some (.ref (zad K 40 n1)), some (.int v2_15_3)] [] w15_3 (fX7_spells_15 n1 (fun (y15_3 : zS) => (some ((1 : Int32), y15_3) : Option (Int32 × zS))) n15_3 v2_15_3 w15_3) := by
      revert hk15_3; generalize (fun (y15_3 : zS) => (some ((1 : Int32), y15_3) : Option (Int32 × zS))) = k15_3; intro hk15_3
      intro n15_3
      induction n15_3 with
      | zero => intro v2_15_3 w15_3; exact z_none
      | succ n15_3 ih15_3 =>
        intro v2_15_3 w15_3
        show ZO K t 15 [some (.ref (zad K 7 0)), some (.ref (zad K 40 n1)), some (.int v2_15_3)] [] w15_3 (if (w15_3 7 0 1) ≤ v2_15_3 then k15_3 w15_3 else zCi (fJ0_charAt_5068e n1 v2_15_3 w15_3) (fun x5 s4 => zIx v2_15_3 12 (if x5 = (s4 8 0 v2_15_3.toNatClampNeg) then zB (v2_15_3 + 1) (fun x7 => fX7_spells_15 n1 k15_3 n15_3 x7 s4) else some ((0 : Int32), s4))))
        refine z_iload_n (pc := 15) F dX7_spells_15 rfl ?_
        refine z_aload_n (pc := 16) F dX7_spells_16 rfl ?_
        refine z_get (pc := 17) F 7 0 1 (v := .int (w15_3 7 0 1)) (by decide) (fun _ => rfl) rfl (by decide) inlX7 lk_RX7_15 rfl dX7_spells_17 ?_
        refine z_icmp_ge (pc := 20) F 45 dX7_spells_20 (by decide) (fun h9 => ?_) (fun h9 => ?_)
        · refine z_wk [false, false, false] (lv' := [none, none, none]) rfl ?_
          exact hk15_3  w15_3
        · refine z_aload_n (pc := 23) F dX7_spells_23 rfl ?_
          refine z_iload_n (pc := 24) F dX7_spells_24 rfl ?_
          refine z_callTsi (pc := 25) (st := []) F S n1 [.int v2_15_3] cl_RX7_25 (tJ0_charAt_5068e (zln K) w15_3 n1 v2_15_3 h_n1) rfl h_n1 rfl (by rw [hR]; exact ⟨rfl, rfl, Nat.le_of_ble_eq_true rfl, Nat.le_of_ble_eq_true rfl⟩) rfl rfl (Nat.le_of_ble_eq_true rfl) dX7_spells_25 (fun x5 s4 => ?_)
          refine z_aload_n (pc := 28) F dX7_spells_28 rfl ?_
          refine z_get (pc := 29) F 7 0 0 (v := .ref (zad K 8 0)) (by decide) (fun _ => rfl) rfl (by decide) inlX7 lk_RX7_9 rfl dX7_spells_29 ?_
          refine z_iload_n (pc := 32) F dX7_spells_32 rfl ?_
          refine z_ix (fun h6 => ?_)
          refine z_iald (pc := 33) F 8 0 (by decide) (fun _ => rfl) h6 dX7_spells_33 ?_
          refine z_icmp_eq (pc := 34) F 39 dX7_spells_34 (by decide) (fun h8 => ?_) (fun h8 => ?_)
          · refine z_iincB (pc := 39) F (lv' := fun x7 => [some (.ref (zad K 7 0)), some (.ref (zad K 40 n1)), some (.int x7)]) dX7_spells_39 rfl rfl (fun _ => rfl) (fun x7 => ?_)
            refine z_goto (pc := 42) F 15 dX7_spells_42 (by decide) ?_
            exact ih15_3 x7 s4
          · refine z_iconst (pc := 37) F (v := 0) dX7_spells_37 (by decide) ?_
            exact z_zret (pc := 38) F E (by decide) dX7_spells_38
    exact L15_3 zN (0 : Int32) s1
  · refine z_iconst (pc := 11) F (v := 0) dX7_spells_11 (by decide) ?_
    exact z_zret (pc := 12) F E (by decide) dX7_spells_12
def fX7_toldNumber (σ : zS) : Option (Int32 × zS) := zCi (fX7_spells 0 σ) (fun x2 s1 => if x2 = 0 then zCi (fX7_spells 1 s1) (fun x4 s3 => if x4 = 0 then zCi (fX7_spells 2 s3) (fun x6 s5 => if x6 = 0 then zCi (fX7_spells 3 s5) (fun x8 s7 => if x8 = 0 then some ((0 : Int32), s7) else some ((7 : Int32), s7)) else some ((5 : Int32), s5)) else some ((3 : Int32), s3)) else some ((2 : Int32), s1))
abbrev rmX7_toldNumber : Room := { frames := 5, cells := 0, slots := 0, locals := 107 }
set_option maxRecDepth 100000 in
set_option maxHeartbeats 4000000 in
theorem tX7_toldNumber (l : Launch) (σ : zS) : zMs l yX7_toldNumber cX7_toldNumber 1 (some .int) rmX7_toldNumber (fun ad => [.ref (ad 7 0)]) σ (fX7_toldNumber σ) := by
  refine zMs.of RX7 (by decide +kernel) rfl (fun _ => Nat.le_of_ble_eq_true rfl) (fun _ => zcat rfl) (fun K t F hR hL S E => ?_)
  show ZO K t 0 [some (.ref (zad K 7 0))] [] σ (zCi (fX7_spells 0 σ) (fun x2 s1 => if x2 = 0 then zCi (fX7_spells 1 s1) (fun x4 s3 => if x4 = 0 then zCi (fX7_spells 2 s3) (fun x6 s5 => if x6 = 0 then zCi (fX7_spells 3 s5) (fun x8 s7 => if x8 = 0 then some ((0 : Int32), s7) else some ((7 : Int32), s7)) else some ((5 : Int32), s5)) else some ((3 : Int32), s3)) else some ((2 : Int32), s1)))
  refine z_aload_n (pc := 0) F dX7_toldNumber_0 rfl ?_
  refine z_ldcS (pc := 1) F S 0 (by decide) rfl dX7_toldNumber_1 ?_
  refine z_callVsi (pc := 3) (st := []) F S 7 0 [.ref (zad K 40 0)] cl_RX7_31 (tX7_spells (zln K) σ 0 (by decide)) rfl (by decide) (fun _ => ⟨_, rfl⟩) rfl (by rw [hR]; exact ⟨rfl, rfl, Nat.le_of_ble_eq_true rfl, Nat.le_of_ble_eq_true rfl⟩) rfl rfl (Nat.le_of_ble_eq_true rfl) dX7_toldNumber_3 (fun x2 s1 => ?_)
  refine z_if_eq (pc := 6) F 11 dX7_toldNumber_6 (by decide) (fun h12 => ?_) (fun h12 => ?_)
  · refine z_aload_n (pc := 11) F dX7_toldNumber_11 rfl ?_
    refine z_ldcS (pc := 12) F S 1 (by decide) rfl dX7_toldNumber_12 ?_
    refine z_callVsi (pc := 14) (st := []) F S 7 0 [.ref (zad K 40 1)] cl_RX7_31 (tX7_spells (zln K) s1 1 (by decide)) rfl (by decide) (fun _ => ⟨_, rfl⟩) rfl (by rw [hR]; exact ⟨rfl, rfl, Nat.le_of_ble_eq_true rfl, Nat.le_of_ble_eq_true rfl⟩) rfl rfl (Nat.le_of_ble_eq_true rfl) dX7_toldNumber_14 (fun x4 s3 => ?_)
    refine z_if_eq (pc := 17) F 22 dX7_toldNumber_17 (by decide) (fun h11 => ?_) (fun h11 => ?_)
    · refine z_aload_n (pc := 22) F dX7_toldNumber_22 rfl ?_
      refine z_ldcS (pc := 23) F S 2 (by decide) rfl dX7_toldNumber_23 ?_
      refine z_callVsi (pc := 25) (st := []) F S 7 0 [.ref (zad K 40 2)] cl_RX7_31 (tX7_spells (zln K) s3 2 (by decide)) rfl (by decide) (fun _ => ⟨_, rfl⟩) rfl (by rw [hR]; exact ⟨rfl, rfl, Nat.le_of_ble_eq_true rfl, Nat.le_of_ble_eq_true rfl⟩) rfl rfl (Nat.le_of_ble_eq_true rfl) dX7_toldNumber_25 (fun x6 s5 => ?_)
      refine z_if_eq (pc := 28) F 33 dX7_toldNumber_28 (by decide) (fun h10 => ?_) (fun h10 => ?_)
      · refine z_aload_n (pc := 33) F dX7_toldNumber_33 rfl ?_
        refine z_ldcS (pc := 34) F S 3 (by decide) rfl dX7_toldNumber_34 ?_
        refine z_callVsi (pc := 36) (st := []) F S 7 0 [.ref (zad K 40 3)] cl_RX7_31 (tX7_spells (zln K) s5 3 (by decide)) rfl (by decide) (fun _ => ⟨_, rfl⟩) rfl (by rw [hR]; exact ⟨rfl, rfl, Nat.le_of_ble_eq_true rfl, Nat.le_of_ble_eq_true rfl⟩) rfl rfl (Nat.le_of_ble_eq_true rfl) dX7_toldNumber_36 (fun x8 s7 => ?_)
        refine z_if_eq (pc := 39) F 47 dX7_toldNumber_39 (by decide) (fun h9 => ?_) (fun h9 => ?_)
        · refine z_iconst (pc := 47) F (v := 0) dX7_toldNumber_47 (by decide) ?_
          exact z_iret (pc := 48) F E dX7_toldNumber_48
        · refine z_bipush (pc := 42) F (v := 7) dX7_toldNumber_42 (by decide) ?_
          refine z_goto (pc := 44) F 48 dX7_toldNumber_44 (by decide) ?_
          exact z_iret (pc := 48) F E dX7_toldNumber_48
      · refine z_iconst (pc := 31) F (v := 5) dX7_toldNumber_31 (by decide) ?_
        exact z_iret (pc := 32) F E dX7_toldNumber_32
    · refine z_iconst (pc := 20) F (v := 3) dX7_toldNumber_20 (by decide) ?_
      exact z_iret (pc := 21) F E dX7_toldNumber_21
  · refine z_iconst (pc := 9) F (v := 2) dX7_toldNumber_9 (by decide) ?_
    exact z_iret (pc := 10) F E dX7_toldNumber_10
def fX8_word (σ : zS) : Option (Int32 × zS) := zCi (fX7_toldNumber σ) (fun x2 s1 => if x2 = 0 then some ((-1 : Int32), s1) else zB (zU s1 7 0 1 (0 : Int32)) (fun s3 => zB (zU s3 9 0 0 x2) (fun s4 => zCv (fX2_forget s4) (fun s5 => some (x2, s5)))))
abbrev rmX8_word : Room := { frames := 6, cells := 0, slots := 0, locals := 127 }
set_option maxRecDepth 100000 in
set_option maxHeartbeats 4000000 in
theorem tX8_word (l : Launch) (σ : zS) : zMs l yX8_word cX8_word 2 (some .int) rmX8_word (fun ad => [.ref (ad 0 0)]) σ (fX8_word σ) := by
  refine zMs.of RX8 (by decide +kernel) rfl (fun _ => Nat.le_of_ble_eq_true rfl) (fun _ => zcat rfl) (fun K t F hR hL S E => ?_)
  show ZO K t 0 [some (.ref (zad K 0 0)), none] [] σ (zCi (fX7_toldNumber σ) (fun x2 s1 => if x2 = 0 then some ((-1 : Int32), s1) else zB (zU s1 7 0 1 (0 : Int32)) (fun s3 => zB (zU s3 9 0 0 x2) (fun s4 => zCv (fX2_forget s4) (fun s5 => some (x2, s5))))))
  refine z_aload_n (pc := 0) F dX8_word_0 rfl ?_
  refine z_get (pc := 1) F 0 0 1 (v := .ref (zad K 7 0)) (by decide) (fun _ => rfl) rfl (by decide) inlX8 lk_RX8_19 rfl dX8_word_1 ?_
  refine z_callNsi (pc := 4) (st := []) F S 7 0 [] cl_RX8_132 (tX7_toldNumber (zln K) σ ) rfl (by decide) (fun _ => ⟨_, rfl⟩) rfl (by rw [hR]; exact ⟨rfl, rfl, Nat.le_of_ble_eq_true rfl, Nat.le_of_ble_eq_true rfl⟩) rfl rfl (Nat.le_of_ble_eq_true rfl) dX8_word_4 (fun x2 s1 => ?_)
  refine z_istore_n (pc := 7) F (lv' := [some (.ref (zad K 0 0)), some (.int x2)]) dX8_word_7 (zlt rfl) rfl ?_
  refine z_iload_n (pc := 8) F dX8_word_8 rfl ?_
  refine z_if_ne (pc := 9) F 14 dX8_word_9 (by decide) (fun h6 => ?_) (fun h6 => ?_)
  · refine z_aload_n (pc := 14) F dX8_word_14 rfl ?_
    refine z_get (pc := 15) F 0 0 1 (v := .ref (zad K 7 0)) (by decide) (fun _ => rfl) rfl (by decide) inlX8 lk_RX8_19 rfl dX8_word_15 ?_
    refine z_iconst (pc := 18) F (v := 0) dX8_word_18 (by decide) ?_
    refine z_putN (pc := 19) F 7 0 1 tyX7 tyX7_ok nmX7 (by decide) (fun _ => rfl) rfl (by decide) inlX7 lk_RX8_131 rfl (by decide +kernel) (fun _ => Nat.le_of_ble_eq_true rfl) (fun _ => rfl) dX8_word_19 (fun s3 => ?_)
    refine z_aload_n (pc := 22) F dX8_word_22 rfl ?_
    refine z_get (pc := 23) F 0 0 2 (v := .ref (zad K 9 0)) (by decide) (fun _ => rfl) rfl (by decide) inlX8 lk_RX8_26 rfl dX8_word_23 ?_
    refine z_iload_n (pc := 26) F dX8_word_26 rfl ?_
    refine z_putN (pc := 27) F 9 0 0 tyX0 tyX0_ok nmX0 (by decide) (fun _ => rfl) rfl (by decide) inlX0 lk_RX8_135 rfl (by decide +kernel) (fun _ => Nat.le_of_ble_eq_true rfl) (fun _ => rfl) dX8_word_27 (fun s4 => ?_)
    refine z_aload_n (pc := 30) F dX8_word_30 rfl ?_
    refine z_get (pc := 31) F 0 0 3 (v := .ref (zad K 10 0)) (by decide) (fun _ => rfl) rfl (by decide) inlX8 lk_RX8_35 rfl dX8_word_31 ?_
    refine z_callNv (pc := 34) (st := []) F 10 0 [] cl_RX8_138 (tX2_forget (zln K) s4 ) rfl (by decide) (fun _ => ⟨_, rfl⟩) rfl (by rw [hR]; exact ⟨rfl, rfl, Nat.le_of_ble_eq_true rfl, Nat.le_of_ble_eq_true rfl⟩) rfl rfl (Nat.le_of_ble_eq_true rfl) dX8_word_34 (fun s5 => ?_)
    refine z_iload_n (pc := 37) F dX8_word_37 rfl ?_
    exact z_iret (pc := 38) F E dX8_word_38
  · refine z_iconst (pc := 12) F (v := -1) dX8_word_12 (by decide) ?_
    exact z_iret (pc := 13) F E dX8_word_13
