def fX9_isPlain_3 (a1 : Int32) (a2 : Int32) (a3 : Int32) (k3_1 : zS → Option (Int32 × zS)) : Nat → Int32 → zS → Option (Int32 × zS)
  | 0, _, _ => none
  | (n3_1 + 1), v4_3_1, w3_1 => zIx a1 3 (if (w3_1 28 0 a1.toNatClampNeg) ≤ v4_3_1 then k3_1 w3_1 else zIx (a2 + v4_3_1) 480 (if v4_3_1 = a3 then if (w3_1 30 0 (a2 + v4_3_1).toNatClampNeg) = (1 : Int32) then zB (v4_3_1 + 1) (fun x6 => fX9_isPlain_3 a1 a2 a3 k3_1 n3_1 x6 w3_1) else some ((0 : Int32), w3_1) else if (w3_1 30 0 (a2 + v4_3_1).toNatClampNeg) = (0 : Int32) then zB (v4_3_1 + 1) (fun x4 => fX9_isPlain_3 a1 a2 a3 k3_1 n3_1 x4 w3_1) else some ((0 : Int32), w3_1)))
def fX9_isPlain (a1 : Int32) (a2 : Int32) (a3 : Int32) (σ : zS) : Option (Int32 × zS) := fX9_isPlain_3 a1 a2 a3 (fun (y3_1 : zS) => (some ((1 : Int32), y3_1) : Option (Int32 × zS))) zN (0 : Int32) σ
abbrev rmX9_isPlain : Room := { frames := 0, cells := 0, slots := 0, locals := 0 }
set_option maxRecDepth 100000 in
set_option maxHeartbeats 4000000 in
theorem tX9_isPlain (l : Launch) (σ : zS) (a1 : Int32) (a2 : Int32) (a3 : Int32) : zMi l yX9_isPlain cX9_isPlain 5 (some .boolean) rmX9_isPlain (fun ad => [.ref (ad 21 0), .int a1, .int a2, .int a3]) σ (fX9_isPlain a1 a2 a3 σ) := by
  refine zMi.of RX9 (by decide +kernel) rfl (fun _ => Nat.le_of_ble_eq_true rfl) (fun _ => zcat rfl) (fun K t F hR hL E => ?_)
  show ZO K t 0 [some (.ref (zad K 21 0)), some (.int a1), some (.int a2), some (.int a3), none] [] σ (fX9_isPlain_3 a1 a2 a3 (fun (y3_1 : zS) => (some ((1 : Int32), y3_1) : Option (Int32 × zS))) zN (0 : Int32) σ)
  refine z_iconst (pc := 0) F (v := 0) dX9_isPlain_0 (by decide) ?_
  refine z_istore (pc := 1) F (lv' := [some (.ref (zad K 21 0)), some (.int a1), some (.int a2), some (.int a3), some (.int (0 : Int32))]) dX9_isPlain_1 (zlt rfl) rfl ?_
  have hk3_1 : ∀ (y3_1 : zS), ZO K t 45 [none, none, none, none, none] [] y3_1 ((fun (y3_1 : zS) => (some ((1 : Int32), y3_1) : Option (Int32 × zS))) y3_1) := by
    intro y3_1
    show ZO K t 45 [none, none, none, none, none] [] y3_1 (some ((1 : Int32), y3_1))
    refine z_iconst (pc := 45) F (v := 1) dX9_isPlain_45 (by decide) ?_
    exact z_zret (pc := 46) F E (by decide) dX9_isPlain_46
  have L3_1 : ∀ (n3_1 : Nat) (v4_3_1 : Int32) (w3_1 : zS), ZO K t 3 [some (.ref (zad K 21 0)), some (.int a1), some (.int a2), some (.int a3), some (.int v4_3_1)] [] w3_1 (fX9_isPlain_3 a1 a2 a3 (fun (y3_1 : zS) => (some ((1 : Int32), y3_1) : Option (Int32 × zS))) n3_1 v4_3_1 w3_1) := by
    revert hk3_1; generalize (fun (y3_1 : zS) => (some ((1 : Int32), y3_1) : Option (Int32 × zS))) = k3_1; intro hk3_1
    intro n3_1
    induction n3_1 with
    | zero => intro v4_3_1 w3_1; exact z_none
    | succ n3_1 ih3_1 =>
      intro v4_3_1 w3_1
      show ZO K t 3 [some (.ref (zad K 21 0)), some (.int a1), some (.int a2), some (.int a3), some (.int v4_3_1)] [] w3_1 (zIx a1 3 (if (w3_1 28 0 a1.toNatClampNeg) ≤ v4_3_1 then k3_1 w3_1 else zIx (a2 + v4_3_1) 480 (if v4_3_1 = a3 then if (w3_1 30 0 (a2 + v4_3_1).toNatClampNeg) = (1 : Int32) then zB (v4_3_1 + 1) (fun x6 => fX9_isPlain_3 a1 a2 a3 k3_1 n3_1 x6 w3_1) else some ((0 : Int32), w3_1) else if (w3_1 30 0 (a2 + v4_3_1).toNatClampNeg) = (0 : Int32) then zB (v4_3_1 + 1) (fun x4 => fX9_isPlain_3 a1 a2 a3 k3_1 n3_1 x4 w3_1) else some ((0 : Int32), w3_1))))
      refine z_iload (pc := 3) F dX9_isPlain_3 rfl ?_
      refine z_aload_n (pc := 5) F dX9_isPlain_5 rfl ?_
      refine z_get (pc := 6) F 21 0 16 (v := .ref (zad K 28 0)) (by decide) (fun _ => rfl) rfl (by decide) inlX9 lk_RX9_38 rfl dX9_isPlain_6 ?_
      refine z_iload_n (pc := 9) F dX9_isPlain_9 rfl ?_
      refine z_ix (fun h2 => ?_)
      refine z_iald (pc := 10) F 28 0 (by decide) (fun _ => rfl) h2 dX9_isPlain_10 ?_
      refine z_icmp_ge (pc := 11) F 45 dX9_isPlain_11 (by decide) (fun h9 => ?_) (fun h9 => ?_)
      · refine z_wk [false, false, false, false, false] (lv' := [none, none, none, none, none]) rfl ?_
        exact hk3_1  w3_1
      · refine z_aload_n (pc := 14) F dX9_isPlain_14 rfl ?_
        refine z_get (pc := 15) F 21 0 18 (v := .ref (zad K 30 0)) (by decide) (fun _ => rfl) rfl (by decide) inlX9 lk_RX9_44 rfl dX9_isPlain_15 ?_
        refine z_iload_n (pc := 18) F dX9_isPlain_18 rfl ?_
        refine z_iload (pc := 19) F dX9_isPlain_19 rfl ?_
        refine z_iadd (pc := 21) F dX9_isPlain_21 ?_
        refine z_ix (fun h3 => ?_)
        refine z_iald (pc := 22) F 30 0 (by decide) (fun _ => rfl) h3 dX9_isPlain_22 ?_
        refine z_iload (pc := 23) F dX9_isPlain_23 rfl ?_
        refine z_iload_n (pc := 25) F dX9_isPlain_25 rfl ?_
        refine z_icmp_ne (pc := 26) F 33 dX9_isPlain_26 (by decide) (fun h8 => ?_) (fun h8 => ?_)
        · refine z_iconst (pc := 33) F (v := 0) dX9_isPlain_33 (by decide) ?_
          refine z_icmp_eq (pc := 34) F 39 dX9_isPlain_34 (by decide) (fun h5 => ?_) (fun h5 => ?_)
          · refine z_iincB (pc := 39) F (lv' := fun x4 => [some (.ref (zad K 21 0)), some (.int a1), some (.int a2), some (.int a3), some (.int x4)]) dX9_isPlain_39 rfl rfl (fun _ => rfl) (fun x4 => ?_)
            refine z_goto (pc := 42) F 3 dX9_isPlain_42 (by decide) ?_
            exact ih3_1 x4 w3_1
          · refine z_iconst (pc := 37) F (v := 0) dX9_isPlain_37 (by decide) ?_
            exact z_zret (pc := 38) F E (by decide) dX9_isPlain_38
        · refine z_iconst (pc := 29) F (v := 1) dX9_isPlain_29 (by decide) ?_
          refine z_goto (pc := 30) F 34 dX9_isPlain_30 (by decide) ?_
          refine z_icmp_eq (pc := 34) F 39 dX9_isPlain_34 (by decide) (fun h7 => ?_) (fun h7 => ?_)
          · refine z_iincB (pc := 39) F (lv' := fun x6 => [some (.ref (zad K 21 0)), some (.int a1), some (.int a2), some (.int a3), some (.int x6)]) dX9_isPlain_39 rfl rfl (fun _ => rfl) (fun x6 => ?_)
            refine z_goto (pc := 42) F 3 dX9_isPlain_42 (by decide) ?_
            exact ih3_1 x6 w3_1
          · refine z_iconst (pc := 37) F (v := 0) dX9_isPlain_37 (by decide) ?_
            exact z_zret (pc := 38) F E (by decide) dX9_isPlain_38
  exact L3_1 zN (0 : Int32) σ
def fX9_isWanted_2 (a1 : Int32) (a2 : Int32) (k2_1 : zS → Option (Int32 × zS)) : Nat → Int32 → zS → Option (Int32 × zS)
  | 0, _, _ => none
  | (n2_1 + 1), v3_2_1, w2_1 => if (w2_1 21 0 3) ≤ v3_2_1 then k2_1 w2_1 else zIx v3_2_1 16 (if (w2_1 24 0 v3_2_1.toNatClampNeg) = a1 then zIx v3_2_1 16 (if (w2_1 25 0 v3_2_1.toNatClampNeg) = a2 then some ((1 : Int32), w2_1) else zB (v3_2_1 + 1) (fun x5 => fX9_isWanted_2 a1 a2 k2_1 n2_1 x5 w2_1)) else zB (v3_2_1 + 1) (fun x3 => fX9_isWanted_2 a1 a2 k2_1 n2_1 x3 w2_1))
def fX9_isWanted (a1 : Int32) (a2 : Int32) (σ : zS) : Option (Int32 × zS) := fX9_isWanted_2 a1 a2 (fun (y2_1 : zS) => (some ((0 : Int32), y2_1) : Option (Int32 × zS))) zN (0 : Int32) σ
abbrev rmX9_isWanted : Room := { frames := 0, cells := 0, slots := 0, locals := 0 }
set_option maxRecDepth 100000 in
set_option maxHeartbeats 4000000 in
theorem tX9_isWanted (l : Launch) (σ : zS) (a1 : Int32) (a2 : Int32) : zMi l yX9_isWanted cX9_isWanted 4 (some .boolean) rmX9_isWanted (fun ad => [.ref (ad 21 0), .int a1, .int a2]) σ (fX9_isWanted a1 a2 σ) := by
  refine zMi.of RX9 (by decide +kernel) rfl (fun _ => Nat.le_of_ble_eq_true rfl) (fun _ => zcat rfl) (fun K t F hR hL E => ?_)
  show ZO K t 0 [some (.ref (zad K 21 0)), some (.int a1), some (.int a2), none] [] σ (fX9_isWanted_2 a1 a2 (fun (y2_1 : zS) => (some ((0 : Int32), y2_1) : Option (Int32 × zS))) zN (0 : Int32) σ)
  refine z_iconst (pc := 0) F (v := 0) dX9_isWanted_0 (by decide) ?_
  refine z_istore_n (pc := 1) F (lv' := [some (.ref (zad K 21 0)), some (.int a1), some (.int a2), some (.int (0 : Int32))]) dX9_isWanted_1 (zlt rfl) rfl ?_
  have hk2_1 : ∀ (y2_1 : zS), ZO K t 38 [none, none, none, none] [] y2_1 ((fun (y2_1 : zS) => (some ((0 : Int32), y2_1) : Option (Int32 × zS))) y2_1) := by
    intro y2_1
    show ZO K t 38 [none, none, none, none] [] y2_1 (some ((0 : Int32), y2_1))
    refine z_iconst (pc := 38) F (v := 0) dX9_isWanted_38 (by decide) ?_
    exact z_zret (pc := 39) F E (by decide) dX9_isWanted_39
  have L2_1 : ∀ (n2_1 : Nat) (v3_2_1 : Int32) (w2_1 : zS), ZO K t 2 [some (.ref (zad K 21 0)), some (.int a1), some (.int a2), some (.int v3_2_1)] [] w2_1 (fX9_isWanted_2 a1 a2 (fun (y2_1 : zS) => (some ((0 : Int32), y2_1) : Option (Int32 × zS))) n2_1 v3_2_1 w2_1) := by
    revert hk2_1; generalize (fun (y2_1 : zS) => (some ((0 : Int32), y2_1) : Option (Int32 × zS))) = k2_1; intro hk2_1
    intro n2_1
    induction n2_1 with
    | zero => intro v3_2_1 w2_1; exact z_none
    | succ n2_1 ih2_1 =>
      intro v3_2_1 w2_1
      show ZO K t 2 [some (.ref (zad K 21 0)), some (.int a1), some (.int a2), some (.int v3_2_1)] [] w2_1 (if (w2_1 21 0 3) ≤ v3_2_1 then k2_1 w2_1 else zIx v3_2_1 16 (if (w2_1 24 0 v3_2_1.toNatClampNeg) = a1 then zIx v3_2_1 16 (if (w2_1 25 0 v3_2_1.toNatClampNeg) = a2 then some ((1 : Int32), w2_1) else zB (v3_2_1 + 1) (fun x5 => fX9_isWanted_2 a1 a2 k2_1 n2_1 x5 w2_1)) else zB (v3_2_1 + 1) (fun x3 => fX9_isWanted_2 a1 a2 k2_1 n2_1 x3 w2_1)))
      refine z_iload_n (pc := 2) F dX9_isWanted_2 rfl ?_
      refine z_aload_n (pc := 3) F dX9_isWanted_3 rfl ?_
      refine z_get (pc := 4) F 21 0 3 (v := .int (w2_1 21 0 3)) (by decide) (fun _ => rfl) rfl (by decide) inlX9 lk_RX9_79 rfl dX9_isWanted_4 ?_
      refine z_icmp_ge (pc := 7) F 38 dX9_isWanted_7 (by decide) (fun h8 => ?_) (fun h8 => ?_)
      · refine z_wk [false, false, false, false] (lv' := [none, none, none, none]) rfl ?_
        exact hk2_1  w2_1
      · refine z_aload_n (pc := 10) F dX9_isWanted_10 rfl ?_
        refine z_get (pc := 11) F 21 0 4 (v := .ref (zad K 24 0)) (by decide) (fun _ => rfl) rfl (by decide) inlX9 lk_RX9_16 rfl dX9_isWanted_11 ?_
        refine z_iload_n (pc := 14) F dX9_isWanted_14 rfl ?_
        refine z_ix (fun h2 => ?_)
        refine z_iald (pc := 15) F 24 0 (by decide) (fun _ => rfl) h2 dX9_isWanted_15 ?_
        refine z_iload_n (pc := 16) F dX9_isWanted_16 rfl ?_
        refine z_icmp_ne (pc := 17) F 32 dX9_isWanted_17 (by decide) (fun h7 => ?_) (fun h7 => ?_)
        · refine z_iincB (pc := 32) F (lv' := fun x3 => [some (.ref (zad K 21 0)), some (.int a1), some (.int a2), some (.int x3)]) dX9_isWanted_32 rfl rfl (fun _ => rfl) (fun x3 => ?_)
          refine z_goto (pc := 35) F 2 dX9_isWanted_35 (by decide) ?_
          exact ih2_1 x3 w2_1
        · refine z_aload_n (pc := 20) F dX9_isWanted_20 rfl ?_
          refine z_get (pc := 21) F 21 0 5 (v := .ref (zad K 25 0)) (by decide) (fun _ => rfl) rfl (by decide) inlX9 lk_RX9_19 rfl dX9_isWanted_21 ?_
          refine z_iload_n (pc := 24) F dX9_isWanted_24 rfl ?_
          refine z_ix (fun h4 => ?_)
          refine z_iald (pc := 25) F 25 0 (by decide) (fun _ => rfl) h4 dX9_isWanted_25 ?_
          refine z_iload_n (pc := 26) F dX9_isWanted_26 rfl ?_
          refine z_icmp_ne (pc := 27) F 32 dX9_isWanted_27 (by decide) (fun h6 => ?_) (fun h6 => ?_)
          · refine z_iincB (pc := 32) F (lv' := fun x5 => [some (.ref (zad K 21 0)), some (.int a1), some (.int a2), some (.int x5)]) dX9_isWanted_32 rfl rfl (fun _ => rfl) (fun x5 => ?_)
            refine z_goto (pc := 35) F 2 dX9_isWanted_35 (by decide) ?_
            exact ih2_1 x5 w2_1
          · refine z_iconst (pc := 30) F (v := 1) dX9_isWanted_30 (by decide) ?_
            exact z_zret (pc := 31) F E (by decide) dX9_isWanted_31
  exact L2_1 zN (0 : Int32) σ
def fX9_key (a1 : Int32) (σ : zS) : Option (Int32 × zS) := zCi (fX9_within a1 (0 : Int32) (127 : Int32) σ) (fun x2 s1 => if x2 = 0 then some ((-2 : Int32), s1) else if (s1 21 0 11) = (12 : Int32) then some ((-4 : Int32), s1) else zIx (s1 21 0 11) 12 (zB (zU s1 26 0 (s1 21 0 11).toNatClampNeg a1) (fun s4 => zB (zU s4 21 0 11 ((s4 21 0 11) + (1 : Int32))) (fun s5 => some (s5 21 0 11, s5)))))
abbrev rmX9_key : Room := { frames := 1, cells := 0, slots := 0, locals := 22 }
set_option maxRecDepth 100000 in
set_option maxHeartbeats 4000000 in
theorem tX9_key (l : Launch) (σ : zS) (a1 : Int32) : zMi l yX9_key cX9_key 2 (some .int) rmX9_key (fun ad => [.ref (ad 21 0), .int a1]) σ (fX9_key a1 σ) := by
  refine zMi.of RX9 (by decide +kernel) rfl (fun _ => Nat.le_of_ble_eq_true rfl) (fun _ => zcat rfl) (fun K t F hR hL E => ?_)
  show ZO K t 0 [some (.ref (zad K 21 0)), some (.int a1)] [] σ (zCi (fX9_within a1 (0 : Int32) (127 : Int32) σ) (fun x2 s1 => if x2 = 0 then some ((-2 : Int32), s1) else if (s1 21 0 11) = (12 : Int32) then some ((-4 : Int32), s1) else zIx (s1 21 0 11) 12 (zB (zU s1 26 0 (s1 21 0 11).toNatClampNeg a1) (fun s4 => zB (zU s4 21 0 11 ((s4 21 0 11) + (1 : Int32))) (fun s5 => some (s5 21 0 11, s5))))))
  refine z_iload_n (pc := 0) F dX9_key_0 rfl ?_
  refine z_iconst (pc := 1) F (v := 0) dX9_key_1 (by decide) ?_
  refine z_bipush (pc := 2) F (v := 127) dX9_key_2 (by decide) ?_
  refine z_callSi (pc := 4) (st := []) F [.int a1, .int (0 : Int32), .int (127 : Int32)] cl_RX9_68 (tX9_within (zln K) σ a1 (0 : Int32) (127 : Int32)) rfl (by rw [hR]; exact ⟨rfl, rfl, Nat.le_of_ble_eq_true rfl, Nat.le_of_ble_eq_true rfl⟩) rfl rfl (Nat.le_of_ble_eq_true rfl) dX9_key_4 (fun x2 s1 => ?_)
  refine z_if_ne (pc := 7) F 13 dX9_key_7 (by decide) (fun h7 => ?_) (fun h7 => ?_)
  · refine z_aload_n (pc := 13) F dX9_key_13 rfl ?_
    refine z_get (pc := 14) F 21 0 11 (v := .int (s1 21 0 11)) (by decide) (fun _ => rfl) rfl (by decide) inlX9 lk_RX9_134 rfl dX9_key_14 ?_
    refine z_bipush (pc := 17) F (v := 12) dX9_key_17 (by decide) ?_
    refine z_icmp_ne (pc := 19) F 25 dX9_key_19 (by decide) (fun h6 => ?_) (fun h6 => ?_)
    · refine z_aload_n (pc := 25) F dX9_key_25 rfl ?_
      refine z_get (pc := 26) F 21 0 10 (v := .ref (zad K 26 0)) (by decide) (fun _ => rfl) rfl (by decide) inlX9 lk_RX9_29 rfl dX9_key_26 ?_
      refine z_aload_n (pc := 29) F dX9_key_29 rfl ?_
      refine z_get (pc := 30) F 21 0 11 (v := .int (s1 21 0 11)) (by decide) (fun _ => rfl) rfl (by decide) inlX9 lk_RX9_134 rfl dX9_key_30 ?_
      refine z_iload_n (pc := 33) F dX9_key_33 rfl ?_
      refine z_ix (fun h3 => ?_)
      refine z_iast (pc := 34) F 26 0 (by decide) (fun _ _ => rfl) h3 dX9_key_34 (fun s4 => ?_)
      refine z_aload_n (pc := 35) F dX9_key_35 rfl ?_
      refine z_dup (pc := 36) F dX9_key_36 rfl ?_
      refine z_get (pc := 37) F 21 0 11 (v := .int (s4 21 0 11)) (by decide) (fun _ => rfl) rfl (by decide) inlX9 lk_RX9_134 rfl dX9_key_37 ?_
      refine z_iconst (pc := 40) F (v := 1) dX9_key_40 (by decide) ?_
      refine z_iadd (pc := 41) F dX9_key_41 ?_
      refine z_put (pc := 42) F 21 0 11 tyX9 tyX9_ok nmX9 (by decide) (fun _ => rfl) rfl (by decide) inlX9 lk_RX9_134 rfl (by decide +kernel) (fun _ => Nat.le_of_ble_eq_true rfl) (fun _ => rfl) dX9_key_42 (fun s5 => ?_)
      refine z_aload_n (pc := 45) F dX9_key_45 rfl ?_
      refine z_get (pc := 46) F 21 0 11 (v := .int (s5 21 0 11)) (by decide) (fun _ => rfl) rfl (by decide) inlX9 lk_RX9_134 rfl dX9_key_46 ?_
      exact z_iret (pc := 49) F E dX9_key_49
    · refine z_bipush (pc := 22) F (v := -4) dX9_key_22 (by decide) ?_
      exact z_iret (pc := 24) F E dX9_key_24
  · refine z_bipush (pc := 10) F (v := -2) dX9_key_10 (by decide) ?_
    exact z_iret (pc := 12) F E dX9_key_12
def fX9_letter (a1 : Int32) (a2 : Int32) (σ : zS) : Option (Int32 × zS) := zCi (fX9_within a1 (0 : Int32) (9 : Int32) σ) (fun x2 s1 => if x2 = 0 then some ((-1 : Int32), s1) else zCi (fX9_within a2 (0 : Int32) (255 : Int32) s1) (fun x4 s3 => if x4 = 0 then some ((-2 : Int32), s3) else zB (((s3 21 0 0) >>> (a1 &&& 31)) &&& (1 : Int32)) (fun x5 => zB (zU s3 21 0 0 ((s3 21 0 0) ||| ((1 : Int32) <<< (a1 &&& 31)))) (fun s6 => zIx a1 10 (zB (zU s6 22 0 a1.toNatClampNeg a2) (fun s8 => some (x5, s8)))))))
abbrev rmX9_letter : Room := { frames := 1, cells := 0, slots := 0, locals := 22 }
set_option maxRecDepth 100000 in
set_option maxHeartbeats 4000000 in
theorem tX9_letter (l : Launch) (σ : zS) (a1 : Int32) (a2 : Int32) : zMi l yX9_letter cX9_letter 4 (some .int) rmX9_letter (fun ad => [.ref (ad 21 0), .int a1, .int a2]) σ (fX9_letter a1 a2 σ) := by
  refine zMi.of RX9 (by decide +kernel) rfl (fun _ => Nat.le_of_ble_eq_true rfl) (fun _ => zcat rfl) (fun K t F hR hL E => ?_)
  show ZO K t 0 [some (.ref (zad K 21 0)), some (.int a1), some (.int a2), none] [] σ (zCi (fX9_within a1 (0 : Int32) (9 : Int32) σ) (fun x2 s1 => if x2 = 0 then some ((-1 : Int32), s1) else zCi (fX9_within a2 (0 : Int32) (255 : Int32) s1) (fun x4 s3 => if x4 = 0 then some ((-2 : Int32), s3) else zB (((s3 21 0 0) >>> (a1 &&& 31)) &&& (1 : Int32)) (fun x5 => zB (zU s3 21 0 0 ((s3 21 0 0) ||| ((1 : Int32) <<< (a1 &&& 31)))) (fun s6 => zIx a1 10 (zB (zU s6 22 0 a1.toNatClampNeg a2) (fun s8 => some (x5, s8))))))))
  refine z_iload_n (pc := 0) F dX9_letter_0 rfl ?_
  refine z_iconst (pc := 1) F (v := 0) dX9_letter_1 (by decide) ?_
  refine z_bipush (pc := 2) F (v := 9) dX9_letter_2 (by decide) ?_
  refine z_callSi (pc := 4) (st := []) F [.int a1, .int (0 : Int32), .int (9 : Int32)] cl_RX9_68 (tX9_within (zln K) σ a1 (0 : Int32) (9 : Int32)) rfl (by rw [hR]; exact ⟨rfl, rfl, Nat.le_of_ble_eq_true rfl, Nat.le_of_ble_eq_true rfl⟩) rfl rfl (Nat.le_of_ble_eq_true rfl) dX9_letter_4 (fun x2 s1 => ?_)
  refine z_if_ne (pc := 7) F 12 dX9_letter_7 (by decide) (fun h10 => ?_) (fun h10 => ?_)
  · refine z_iload_n (pc := 12) F dX9_letter_12 rfl ?_
    refine z_iconst (pc := 13) F (v := 0) dX9_letter_13 (by decide) ?_
    refine z_sipush (pc := 14) F (v := 255) dX9_letter_14 (by decide) ?_
    refine z_callSi (pc := 17) (st := []) F [.int a2, .int (0 : Int32), .int (255 : Int32)] cl_RX9_68 (tX9_within (zln K) s1 a2 (0 : Int32) (255 : Int32)) rfl (by rw [hR]; exact ⟨rfl, rfl, Nat.le_of_ble_eq_true rfl, Nat.le_of_ble_eq_true rfl⟩) rfl rfl (Nat.le_of_ble_eq_true rfl) dX9_letter_17 (fun x4 s3 => ?_)
    refine z_if_ne (pc := 20) F 26 dX9_letter_20 (by decide) (fun h9 => ?_) (fun h9 => ?_)
    · refine z_aload_n (pc := 26) F dX9_letter_26 rfl ?_
      refine z_get (pc := 27) F 21 0 0 (v := .int (s3 21 0 0)) (by decide) (fun _ => rfl) rfl (by decide) inlX9 lk_RX9_72 rfl dX9_letter_27 ?_
      refine z_iload_n (pc := 30) F dX9_letter_30 rfl ?_
      refine z_ishr (pc := 31) F dX9_letter_31 ?_
      refine z_iconst (pc := 32) F (v := 1) dX9_letter_32 (by decide) ?_
      refine z_iand (pc := 33) F dX9_letter_33 ?_
      refine z_Bi (fun x5 => ?_)
      refine z_istore_n (pc := 34) F (lv' := [some (.ref (zad K 21 0)), some (.int a1), some (.int a2), some (.int x5)]) dX9_letter_34 (zlt rfl) rfl ?_
      refine z_aload_n (pc := 35) F dX9_letter_35 rfl ?_
      refine z_dup (pc := 36) F dX9_letter_36 rfl ?_
      refine z_get (pc := 37) F 21 0 0 (v := .int (s3 21 0 0)) (by decide) (fun _ => rfl) rfl (by decide) inlX9 lk_RX9_72 rfl dX9_letter_37 ?_
      refine z_iconst (pc := 40) F (v := 1) dX9_letter_40 (by decide) ?_
      refine z_iload_n (pc := 41) F dX9_letter_41 rfl ?_
      refine z_ishl (pc := 42) F dX9_letter_42 ?_
      refine z_ior (pc := 43) F dX9_letter_43 ?_
      refine z_put (pc := 44) F 21 0 0 tyX9 tyX9_ok nmX9 (by decide) (fun _ => rfl) rfl (by decide) inlX9 lk_RX9_72 rfl (by decide +kernel) (fun _ => Nat.le_of_ble_eq_true rfl) (fun _ => rfl) dX9_letter_44 (fun s6 => ?_)
      refine z_aload_n (pc := 47) F dX9_letter_47 rfl ?_
      refine z_get (pc := 48) F 21 0 1 (v := .ref (zad K 22 0)) (by decide) (fun _ => rfl) rfl (by decide) inlX9 lk_RX9_7 rfl dX9_letter_48 ?_
      refine z_iload_n (pc := 51) F dX9_letter_51 rfl ?_
      refine z_iload_n (pc := 52) F dX9_letter_52 rfl ?_
      refine z_ix (fun h7 => ?_)
      refine z_iast (pc := 53) F 22 0 (by decide) (fun _ _ => rfl) h7 dX9_letter_53 (fun s8 => ?_)
      refine z_iload_n (pc := 54) F dX9_letter_54 rfl ?_
      exact z_iret (pc := 55) F E dX9_letter_55
    · refine z_bipush (pc := 23) F (v := -2) dX9_letter_23 (by decide) ?_
      exact z_iret (pc := 25) F E dX9_letter_25
  · refine z_iconst (pc := 10) F (v := -1) dX9_letter_10 (by decide) ?_
    exact z_iret (pc := 11) F E dX9_letter_11
def fX9_many (a1 : Int32) (σ : zS) : Option (Int32 × zS) := if a1 = 0 then zCi (fX9_size (σ 21 0 0) σ) (fun x2 s1 => some (x2, s1)) else if a1 = 1 then some (σ 21 0 3, σ) else if a1 = 2 then some (σ 21 0 8, σ) else if a1 = 3 then some (σ 21 0 9, σ) else if a1 = 4 then some (σ 21 0 12, σ) else if a1 = 5 then some (σ 21 0 13, σ) else if a1 = 6 then some (σ 21 0 14, σ) else if a1 = 7 then some (σ 21 0 11, σ) else if a1 = 8 then some ((σ 21 0 19) &&& (65535 : Int32), σ) else some ((-2 : Int32), σ)
abbrev rmX9_many : Room := { frames := 1, cells := 0, slots := 0, locals := 22 }
set_option maxRecDepth 100000 in
set_option maxHeartbeats 4000000 in
theorem tX9_many (l : Launch) (σ : zS) (a1 : Int32) : zMi l yX9_many cX9_many 2 (some .int) rmX9_many (fun ad => [.ref (ad 21 0), .int a1]) σ (fX9_many a1 σ) := by
  refine zMi.of RX9 (by decide +kernel) rfl (fun _ => Nat.le_of_ble_eq_true rfl) (fun _ => zcat rfl) (fun K t F hR hL E => ?_)
  show ZO K t 0 [some (.ref (zad K 21 0)), some (.int a1)] [] σ (if a1 = 0 then zCi (fX9_size (σ 21 0 0) σ) (fun x2 s1 => some (x2, s1)) else if a1 = 1 then some (σ 21 0 3, σ) else if a1 = 2 then some (σ 21 0 8, σ) else if a1 = 3 then some (σ 21 0 9, σ) else if a1 = 4 then some (σ 21 0 12, σ) else if a1 = 5 then some (σ 21 0 13, σ) else if a1 = 6 then some (σ 21 0 14, σ) else if a1 = 7 then some (σ 21 0 11, σ) else if a1 = 8 then some ((σ 21 0 19) &&& (65535 : Int32), σ) else some ((-2 : Int32), σ))
  refine z_iload_n (pc := 0) F dX9_many_0 rfl ?_
  refine z_sp (fun hs1_0 => ?_) (fun hs1_0 => ?_)
  · rw [hs1_0]
    refine z_tabIn (pc := 1) F 52 dX9_many_1 (by decide) (by decide) rfl (by decide) ?_
    refine z_aload_n (pc := 52) F dX9_many_52 rfl ?_
    refine z_get (pc := 53) F 21 0 0 (v := .int (σ 21 0 0)) (by decide) (fun _ => rfl) rfl (by decide) inlX9 lk_RX9_72 rfl dX9_many_53 ?_
    refine z_callSi (pc := 56) (st := []) F [.int (σ 21 0 0)] cl_RX9_102 (tX9_size (zln K) σ (σ 21 0 0)) rfl (by rw [hR]; exact ⟨rfl, rfl, Nat.le_of_ble_eq_true rfl, Nat.le_of_ble_eq_true rfl⟩) rfl rfl (Nat.le_of_ble_eq_true rfl) dX9_many_56 (fun x2 s1 => ?_)
    exact z_iret (pc := 59) F E dX9_many_59
  refine z_sp (fun hs1_1 => ?_) (fun hs1_1 => ?_)
  · rw [hs1_1]
    refine z_tabIn (pc := 1) F 60 dX9_many_1 (by decide) (by decide) rfl (by decide) ?_
    refine z_aload_n (pc := 60) F dX9_many_60 rfl ?_
    refine z_get (pc := 61) F 21 0 3 (v := .int (σ 21 0 3)) (by decide) (fun _ => rfl) rfl (by decide) inlX9 lk_RX9_79 rfl dX9_many_61 ?_
    exact z_iret (pc := 64) F E dX9_many_64
  refine z_sp (fun hs1_2 => ?_) (fun hs1_2 => ?_)
  · rw [hs1_2]
    refine z_tabIn (pc := 1) F 65 dX9_many_1 (by decide) (by decide) rfl (by decide) ?_
    refine z_aload_n (pc := 65) F dX9_many_65 rfl ?_
    refine z_get (pc := 66) F 21 0 8 (v := .int (σ 21 0 8)) (by decide) (fun _ => rfl) rfl (by decide) inlX9 lk_RX9_96 rfl dX9_many_66 ?_
    exact z_iret (pc := 69) F E dX9_many_69
  refine z_sp (fun hs1_3 => ?_) (fun hs1_3 => ?_)
  · rw [hs1_3]
    refine z_tabIn (pc := 1) F 70 dX9_many_1 (by decide) (by decide) rfl (by decide) ?_
    refine z_aload_n (pc := 70) F dX9_many_70 rfl ?_
    refine z_get (pc := 71) F 21 0 9 (v := .int (σ 21 0 9)) (by decide) (fun _ => rfl) rfl (by decide) inlX9 lk_RX9_99 rfl dX9_many_71 ?_
    exact z_iret (pc := 74) F E dX9_many_74
  refine z_sp (fun hs1_4 => ?_) (fun hs1_4 => ?_)
  · rw [hs1_4]
    refine z_tabIn (pc := 1) F 75 dX9_many_1 (by decide) (by decide) rfl (by decide) ?_
    refine z_aload_n (pc := 75) F dX9_many_75 rfl ?_
    refine z_get (pc := 76) F 21 0 12 (v := .int (σ 21 0 12)) (by decide) (fun _ => rfl) rfl (by decide) inlX9 lk_RX9_32 rfl dX9_many_76 ?_
    exact z_iret (pc := 79) F E dX9_many_79
  refine z_sp (fun hs1_5 => ?_) (fun hs1_5 => ?_)
  · rw [hs1_5]
    refine z_tabIn (pc := 1) F 80 dX9_many_1 (by decide) (by decide) rfl (by decide) ?_
    refine z_aload_n (pc := 80) F dX9_many_80 rfl ?_
    refine z_get (pc := 81) F 21 0 13 (v := .int (σ 21 0 13)) (by decide) (fun _ => rfl) rfl (by decide) inlX9 lk_RX9_143 rfl dX9_many_81 ?_
    exact z_iret (pc := 84) F E dX9_many_84
  refine z_sp (fun hs1_6 => ?_) (fun hs1_6 => ?_)
  · rw [hs1_6]
    refine z_tabIn (pc := 1) F 85 dX9_many_1 (by decide) (by decide) rfl (by decide) ?_
    refine z_aload_n (pc := 85) F dX9_many_85 rfl ?_
    refine z_get (pc := 86) F 21 0 14 (v := .int (σ 21 0 14)) (by decide) (fun _ => rfl) rfl (by decide) inlX9 lk_RX9_140 rfl dX9_many_86 ?_
    exact z_iret (pc := 89) F E dX9_many_89
  refine z_sp (fun hs1_7 => ?_) (fun hs1_7 => ?_)
  · rw [hs1_7]
    refine z_tabIn (pc := 1) F 90 dX9_many_1 (by decide) (by decide) rfl (by decide) ?_
    refine z_aload_n (pc := 90) F dX9_many_90 rfl ?_
    refine z_get (pc := 91) F 21 0 11 (v := .int (σ 21 0 11)) (by decide) (fun _ => rfl) rfl (by decide) inlX9 lk_RX9_134 rfl dX9_many_91 ?_
    exact z_iret (pc := 94) F E dX9_many_94
  refine z_sp (fun hs1_8 => ?_) (fun hs1_8 => ?_)
  · rw [hs1_8]
    refine z_tabIn (pc := 1) F 95 dX9_many_1 (by decide) (by decide) rfl (by decide) ?_
    refine z_aload_n (pc := 95) F dX9_many_95 rfl ?_
    refine z_get (pc := 96) F 21 0 19 (v := .int (σ 21 0 19)) (by decide) (fun _ => rfl) rfl (by decide) inlX9 lk_RX9_47 rfl dX9_many_96 ?_
    refine z_ldci (pc := 99) F (v := 65535) kc_RX9_212 dX9_many_99 ?_
    refine z_iand (pc := 101) F dX9_many_101 ?_
    exact z_iret (pc := 102) F E dX9_many_102
  refine z_tabOut (pc := 1) F 103 dX9_many_1 (zTab 8 (fun j hj => match j, hj with | 0, _ => hs1_0 | 1, _ => hs1_1 | 2, _ => hs1_2 | 3, _ => hs1_3 | 4, _ => hs1_4 | 5, _ => hs1_5 | 6, _ => hs1_6 | 7, _ => hs1_7 | 8, _ => hs1_8 | (j + 9), hj => absurd hj (by omega))) (by decide) ?_
  refine z_bipush (pc := 103) F (v := -2) dX9_many_103 (by decide) ?_
  exact z_iret (pc := 105) F E dX9_many_105
def fX9_mix (a1 : Int32) (a2 : Int32) (a3 : Int32) (a4 : Int32) (σ : zS) : Option (Int32 × zS) := zCi (fX9_againstNodes a1 a2 a3 σ) (fun x2 s1 => if x2 = (-1 : Int32) then some ((-1 : Int32), s1) else zCi (fX9_within a4 (0 : Int32) (16806 : Int32) s1) (fun x4 s3 => if x4 = 0 then some ((-2 : Int32), s3) else if x2 = 0 then zCi (fX9_placeOf a1 s3) (fun x6 s5 => zCv (fX9_mixes x6 a2 a4 s5) (fun s7 => zCi (fX9_comes x6 a3 s7) (fun x9 s8 => if x9 = 0 then some ((0 : Int32), s8) else some ((1 : Int32), s8)))) else some (x2, s3)))
abbrev rmX9_mix : Room := { frames := 3, cells := 0, slots := 0, locals := 81 }
set_option maxRecDepth 100000 in
set_option maxHeartbeats 4000000 in
theorem tX9_mix (l : Launch) (σ : zS) (a1 : Int32) (a2 : Int32) (a3 : Int32) (a4 : Int32) : zMi l yX9_mix cX9_mix 7 (some .int) rmX9_mix (fun ad => [.ref (ad 21 0), .int a1, .int a2, .int a3, .int a4]) σ (fX9_mix a1 a2 a3 a4 σ) := by
  refine zMi.of RX9 (by decide +kernel) rfl (fun _ => Nat.le_of_ble_eq_true rfl) (fun _ => zcat rfl) (fun K t F hR hL E => ?_)
  show ZO K t 0 [some (.ref (zad K 21 0)), some (.int a1), some (.int a2), some (.int a3), some (.int a4), none, none] [] σ (zCi (fX9_againstNodes a1 a2 a3 σ) (fun x2 s1 => if x2 = (-1 : Int32) then some ((-1 : Int32), s1) else zCi (fX9_within a4 (0 : Int32) (16806 : Int32) s1) (fun x4 s3 => if x4 = 0 then some ((-2 : Int32), s3) else if x2 = 0 then zCi (fX9_placeOf a1 s3) (fun x6 s5 => zCv (fX9_mixes x6 a2 a4 s5) (fun s7 => zCi (fX9_comes x6 a3 s7) (fun x9 s8 => if x9 = 0 then some ((0 : Int32), s8) else some ((1 : Int32), s8)))) else some (x2, s3))))
  refine z_aload_n (pc := 0) F dX9_mix_0 rfl ?_
  refine z_iload_n (pc := 1) F dX9_mix_1 rfl ?_
  refine z_iload_n (pc := 2) F dX9_mix_2 rfl ?_
  refine z_iload_n (pc := 3) F dX9_mix_3 rfl ?_
  refine z_callVi (pc := 4) (st := []) F 21 0 [.int a1, .int a2, .int a3] cl_RX9_172 (tX9_againstNodes (zln K) σ a1 a2 a3) rfl (by decide) (fun _ => ⟨_, rfl⟩) rfl (by rw [hR]; exact ⟨rfl, rfl, Nat.le_of_ble_eq_true rfl, Nat.le_of_ble_eq_true rfl⟩) rfl rfl (Nat.le_of_ble_eq_true rfl) dX9_mix_4 (fun x2 s1 => ?_)
  refine z_istore (pc := 7) F (lv' := [some (.ref (zad K 21 0)), some (.int a1), some (.int a2), some (.int a3), some (.int a4), some (.int x2), none]) dX9_mix_7 (zlt rfl) rfl ?_
  refine z_iload (pc := 9) F dX9_mix_9 rfl ?_
  refine z_iconst (pc := 11) F (v := -1) dX9_mix_11 (by decide) ?_
  refine z_icmp_ne (pc := 12) F 17 dX9_mix_12 (by decide) (fun h13 => ?_) (fun h13 => ?_)
  · refine z_iload (pc := 17) F dX9_mix_17 rfl ?_
    refine z_iconst (pc := 19) F (v := 0) dX9_mix_19 (by decide) ?_
    refine z_sipush (pc := 20) F (v := 16806) dX9_mix_20 (by decide) ?_
    refine z_callSi (pc := 23) (st := []) F [.int a4, .int (0 : Int32), .int (16806 : Int32)] cl_RX9_68 (tX9_within (zln K) s1 a4 (0 : Int32) (16806 : Int32)) rfl (by rw [hR]; exact ⟨rfl, rfl, Nat.le_of_ble_eq_true rfl, Nat.le_of_ble_eq_true rfl⟩) rfl rfl (Nat.le_of_ble_eq_true rfl) dX9_mix_23 (fun x4 s3 => ?_)
    refine z_if_ne (pc := 26) F 32 dX9_mix_26 (by decide) (fun h12 => ?_) (fun h12 => ?_)
    · refine z_iload (pc := 32) F dX9_mix_32 rfl ?_
      refine z_if_eq (pc := 34) F 40 dX9_mix_34 (by decide) (fun h11 => ?_) (fun h11 => ?_)
      · refine z_aload_n (pc := 40) F dX9_mix_40 rfl ?_
        refine z_iload_n (pc := 41) F dX9_mix_41 rfl ?_
        refine z_callVi (pc := 42) (st := []) F 21 0 [.int a1] cl_RX9_150 (tX9_placeOf (zln K) s3 a1) rfl (by decide) (fun _ => ⟨_, rfl⟩) rfl (by rw [hR]; exact ⟨rfl, rfl, Nat.le_of_ble_eq_true rfl, Nat.le_of_ble_eq_true rfl⟩) rfl rfl (Nat.le_of_ble_eq_true rfl) dX9_mix_42 (fun x6 s5 => ?_)
        refine z_istore (pc := 45) F (lv' := [some (.ref (zad K 21 0)), some (.int a1), some (.int a2), some (.int a3), some (.int a4), some (.int x2), some (.int x6)]) dX9_mix_45 (zlt rfl) rfl ?_
        refine z_aload_n (pc := 47) F dX9_mix_47 rfl ?_
        refine z_iload (pc := 48) F dX9_mix_48 rfl ?_
        refine z_iload_n (pc := 50) F dX9_mix_50 rfl ?_
        refine z_iload (pc := 51) F dX9_mix_51 rfl ?_
        refine z_callVv (pc := 53) (st := []) F 21 0 [.int x6, .int a2, .int a4] cl_RX9_175 (tX9_mixes (zln K) s5 x6 a2 a4) rfl (by decide) (fun _ => ⟨_, rfl⟩) rfl (by rw [hR]; exact ⟨rfl, rfl, Nat.le_of_ble_eq_true rfl, Nat.le_of_ble_eq_true rfl⟩) rfl rfl (Nat.le_of_ble_eq_true rfl) dX9_mix_53 (fun s7 => ?_)
        refine z_aload_n (pc := 56) F dX9_mix_56 rfl ?_
        refine z_iload (pc := 57) F dX9_mix_57 rfl ?_
        refine z_iload_n (pc := 59) F dX9_mix_59 rfl ?_
        refine z_callVi (pc := 60) (st := []) F 21 0 [.int x6, .int a3] cl_RX9_179 (tX9_comes (zln K) s7 x6 a3) rfl (by decide) (fun _ => ⟨_, rfl⟩) rfl (by rw [hR]; exact ⟨rfl, rfl, Nat.le_of_ble_eq_true rfl, Nat.le_of_ble_eq_true rfl⟩) rfl rfl (Nat.le_of_ble_eq_true rfl) dX9_mix_60 (fun x9 s8 => ?_)
        refine z_if_eq (pc := 63) F 70 dX9_mix_63 (by decide) (fun h10 => ?_) (fun h10 => ?_)
        · refine z_iconst (pc := 70) F (v := 0) dX9_mix_70 (by decide) ?_
          exact z_iret (pc := 71) F E dX9_mix_71
        · refine z_iconst (pc := 66) F (v := 1) dX9_mix_66 (by decide) ?_
          refine z_goto (pc := 67) F 71 dX9_mix_67 (by decide) ?_
          exact z_iret (pc := 71) F E dX9_mix_71
      · refine z_iload (pc := 37) F dX9_mix_37 rfl ?_
        exact z_iret (pc := 39) F E dX9_mix_39
    · refine z_bipush (pc := 29) F (v := -2) dX9_mix_29 (by decide) ?_
      exact z_iret (pc := 31) F E dX9_mix_31
  · refine z_iconst (pc := 15) F (v := -1) dX9_mix_15 (by decide) ?_
    exact z_iret (pc := 16) F E dX9_mix_16
def fX9_most (a1 : Int32) (σ : zS) : Option (Int32 × zS) := zCi (fX9_within a1 (1 : Int32) (10 : Int32) σ) (fun x2 s1 => if x2 = 0 then some ((-2 : Int32), s1) else zB (s1 21 0 7) (fun x3 => zB (zU s1 21 0 7 a1) (fun s4 => some (x3, s4))))
abbrev rmX9_most : Room := { frames := 1, cells := 0, slots := 0, locals := 22 }
set_option maxRecDepth 100000 in
set_option maxHeartbeats 4000000 in
theorem tX9_most (l : Launch) (σ : zS) (a1 : Int32) : zMi l yX9_most cX9_most 3 (some .int) rmX9_most (fun ad => [.ref (ad 21 0), .int a1]) σ (fX9_most a1 σ) := by
  refine zMi.of RX9 (by decide +kernel) rfl (fun _ => Nat.le_of_ble_eq_true rfl) (fun _ => zcat rfl) (fun K t F hR hL E => ?_)
  show ZO K t 0 [some (.ref (zad K 21 0)), some (.int a1), none] [] σ (zCi (fX9_within a1 (1 : Int32) (10 : Int32) σ) (fun x2 s1 => if x2 = 0 then some ((-2 : Int32), s1) else zB (s1 21 0 7) (fun x3 => zB (zU s1 21 0 7 a1) (fun s4 => some (x3, s4)))))
  refine z_iload_n (pc := 0) F dX9_most_0 rfl ?_
  refine z_iconst (pc := 1) F (v := 1) dX9_most_1 (by decide) ?_
  refine z_bipush (pc := 2) F (v := 10) dX9_most_2 (by decide) ?_
  refine z_callSi (pc := 4) (st := []) F [.int a1, .int (1 : Int32), .int (10 : Int32)] cl_RX9_68 (tX9_within (zln K) σ a1 (1 : Int32) (10 : Int32)) rfl (by rw [hR]; exact ⟨rfl, rfl, Nat.le_of_ble_eq_true rfl, Nat.le_of_ble_eq_true rfl⟩) rfl rfl (Nat.le_of_ble_eq_true rfl) dX9_most_4 (fun x2 s1 => ?_)
  refine z_if_ne (pc := 7) F 13 dX9_most_7 (by decide) (fun h5 => ?_) (fun h5 => ?_)
  · refine z_aload_n (pc := 13) F dX9_most_13 rfl ?_
    refine z_get (pc := 14) F 21 0 7 (v := .int (s1 21 0 7)) (by decide) (fun _ => rfl) rfl (by decide) inlX9 lk_RX9_26 rfl dX9_most_14 ?_
    refine z_Bi (fun x3 => ?_)
    refine z_istore_n (pc := 17) F (lv' := [some (.ref (zad K 21 0)), some (.int a1), some (.int x3)]) dX9_most_17 (zlt rfl) rfl ?_
    refine z_aload_n (pc := 18) F dX9_most_18 rfl ?_
    refine z_iload_n (pc := 19) F dX9_most_19 rfl ?_
    refine z_put (pc := 20) F 21 0 7 tyX9 tyX9_ok nmX9 (by decide) (fun _ => rfl) rfl (by decide) inlX9 lk_RX9_26 rfl (by decide +kernel) (fun _ => Nat.le_of_ble_eq_true rfl) (fun _ => rfl) dX9_most_20 (fun s4 => ?_)
    refine z_iload_n (pc := 23) F dX9_most_23 rfl ?_
    exact z_iret (pc := 24) F E dX9_most_24
  · refine z_bipush (pc := 10) F (v := -2) dX9_most_10 (by decide) ?_
    exact z_iret (pc := 12) F E dX9_most_12
def fX9_moves_59 (a1 : Int32) (a2 : Int32) (k59_8 : zS → Option (Int32 × zS)) : Nat → Int32 → zS → Option (Int32 × zS)
  | 0, _, _ => none
  | (n59_8 + 1), v3_59_8, w59_8 => zCi (fX9_at (1 : Int32) (0 : Int32) (0 : Int32) w59_8) (fun x10 s9 => if x10 ≤ v3_59_8 then k59_8 s9 else zCi (fX9_at a1 (0 : Int32) (0 : Int32) s9) (fun x12 s11 => zCi (fX9_at a2 (0 : Int32) (0 : Int32) s11) (fun x14 s13 => zIx (x14 + v3_59_8) 480 (zIx (x12 + v3_59_8) 480 (zB (zU s13 30 0 (x12 + v3_59_8).toNatClampNeg (s13 30 0 (x14 + v3_59_8).toNatClampNeg)) (fun s17 => zB (v3_59_8 + 1) (fun x18 => fX9_moves_59 a1 a2 k59_8 n59_8 x18 s17)))))))
def fX9_moves_26 (a1 : Int32) (a2 : Int32) (k26_7 : zS → Option (Int32 × zS)) : Nat → Int32 → zS → Option (Int32 × zS)
  | 0, _, _ => none
  | (n26_7 + 1), v3_26_7, w26_7 => if (4 : Int32) ≤ v3_26_7 then k26_7 w26_7 else zIx (((4 : Int32) * a2) + v3_26_7) 12 (zIx (((4 : Int32) * a1) + v3_26_7) 12 (zB (zU w26_7 29 0 (((4 : Int32) * a1) + v3_26_7).toNatClampNeg (w26_7 29 0 (((4 : Int32) * a2) + v3_26_7).toNatClampNeg)) (fun s22 => zB (v3_26_7 + 1) (fun x23 => fX9_moves_26 a1 a2 k26_7 n26_7 x23 s22))))
def fX9_moves (a1 : Int32) (a2 : Int32) (σ : zS) : Option (Int32 × zS) := zIx a2 3 (zIx a1 3 (zB (zU σ 27 0 a1.toNatClampNeg (σ 27 0 a2.toNatClampNeg)) (fun s3 => zIx a2 3 (zIx a1 3 (zB (zU s3 28 0 a1.toNatClampNeg (s3 28 0 a2.toNatClampNeg)) (fun s6 => fX9_moves_26 a1 a2 (fun (y26_7 : zS) => (fX9_moves_59 a1 a2 (fun (y59_8 : zS) => (some ((0 : Int32), y59_8) : Option (Int32 × zS))) zN (0 : Int32) y26_7 : Option (Int32 × zS))) zN (0 : Int32) s6))))))
abbrev rmX9_moves : Room := { frames := 1, cells := 0, slots := 0, locals := 22 }
set_option maxRecDepth 100000 in
set_option maxHeartbeats 4000000 in
theorem tX9_moves (l : Launch) (σ : zS) (a1 : Int32) (a2 : Int32) : zMv l yX9_moves cX9_moves 4 none rmX9_moves (fun ad => [.ref (ad 21 0), .int a1, .int a2]) σ (fX9_moves a1 a2 σ) := by
  refine zMv.of RX9 (by decide +kernel) rfl (fun _ => Nat.le_of_ble_eq_true rfl) (fun _ => zcat rfl) (fun K t F hR hL E => ?_)
  show ZO K t 0 [some (.ref (zad K 21 0)), some (.int a1), some (.int a2), none] [] σ (zIx a2 3 (zIx a1 3 (zB (zU σ 27 0 a1.toNatClampNeg (σ 27 0 a2.toNatClampNeg)) (fun s3 => zIx a2 3 (zIx a1 3 (zB (zU s3 28 0 a1.toNatClampNeg (s3 28 0 a2.toNatClampNeg)) (fun s6 => fX9_moves_26 a1 a2 (fun (y26_7 : zS) => (fX9_moves_59 a1 a2 (fun (y59_8 : zS) => (some ((0 : Int32), y59_8) : Option (Int32 × zS))) zN (0 : Int32) y26_7 : Option (Int32 × zS))) zN (0 : Int32) s6)))))))
  refine z_aload_n (pc := 0) F dX9_moves_0 rfl ?_
  refine z_get (pc := 1) F 21 0 15 (v := .ref (zad K 27 0)) (by decide) (fun _ => rfl) rfl (by decide) inlX9 lk_RX9_35 rfl dX9_moves_1 ?_
  refine z_iload_n (pc := 4) F dX9_moves_4 rfl ?_
  refine z_aload_n (pc := 5) F dX9_moves_5 rfl ?_
  refine z_get (pc := 6) F 21 0 15 (v := .ref (zad K 27 0)) (by decide) (fun _ => rfl) rfl (by decide) inlX9 lk_RX9_35 rfl dX9_moves_6 ?_
  refine z_iload_n (pc := 9) F dX9_moves_9 rfl ?_
  refine z_ix (fun h1 => ?_)
  refine z_iald (pc := 10) F 27 0 (by decide) (fun _ => rfl) h1 dX9_moves_10 ?_
  refine z_ix (fun h2 => ?_)
  refine z_iast (pc := 11) F 27 0 (by decide) (fun _ _ => rfl) h2 dX9_moves_11 (fun s3 => ?_)
  refine z_aload_n (pc := 12) F dX9_moves_12 rfl ?_
  refine z_get (pc := 13) F 21 0 16 (v := .ref (zad K 28 0)) (by decide) (fun _ => rfl) rfl (by decide) inlX9 lk_RX9_38 rfl dX9_moves_13 ?_
  refine z_iload_n (pc := 16) F dX9_moves_16 rfl ?_
  refine z_aload_n (pc := 17) F dX9_moves_17 rfl ?_
  refine z_get (pc := 18) F 21 0 16 (v := .ref (zad K 28 0)) (by decide) (fun _ => rfl) rfl (by decide) inlX9 lk_RX9_38 rfl dX9_moves_18 ?_
  refine z_iload_n (pc := 21) F dX9_moves_21 rfl ?_
  refine z_ix (fun h4 => ?_)
  refine z_iald (pc := 22) F 28 0 (by decide) (fun _ => rfl) h4 dX9_moves_22 ?_
  refine z_ix (fun h5 => ?_)
  refine z_iast (pc := 23) F 28 0 (by decide) (fun _ _ => rfl) h5 dX9_moves_23 (fun s6 => ?_)
  refine z_iconst (pc := 24) F (v := 0) dX9_moves_24 (by decide) ?_
  refine z_istore_n (pc := 25) F (lv' := [some (.ref (zad K 21 0)), some (.int a1), some (.int a2), some (.int (0 : Int32))]) dX9_moves_25 (zlt rfl) rfl ?_
  have hk26_7 : ∀ (y26_7 : zS), ZO K t 57 [some (.ref (zad K 21 0)), some (.int a1), some (.int a2), none] [] y26_7 ((fun (y26_7 : zS) => (fX9_moves_59 a1 a2 (fun (y59_8 : zS) => (some ((0 : Int32), y59_8) : Option (Int32 × zS))) zN (0 : Int32) y26_7 : Option (Int32 × zS))) y26_7) := by
    intro y26_7
    show ZO K t 57 [some (.ref (zad K 21 0)), some (.int a1), some (.int a2), none] [] y26_7 (fX9_moves_59 a1 a2 (fun (y59_8 : zS) => (some ((0 : Int32), y59_8) : Option (Int32 × zS))) zN (0 : Int32) y26_7)
    refine z_iconst (pc := 57) F (v := 0) dX9_moves_57 (by decide) ?_
    refine z_istore_n (pc := 58) F (lv' := [some (.ref (zad K 21 0)), some (.int a1), some (.int a2), some (.int (0 : Int32))]) dX9_moves_58 (zlt rfl) rfl ?_
    have hk59_8 : ∀ (y59_8 : zS), ZO K t 101 [none, none, none, none] [] y59_8 ((fun (y59_8 : zS) => (some ((0 : Int32), y59_8) : Option (Int32 × zS))) y59_8) := by
      intro y59_8
      show ZO K t 101 [none, none, none, none] [] y59_8 (some ((0 : Int32), y59_8))
      exact z_vret (pc := 101) (x := 0) F E dX9_moves_101
    have L59_8 : ∀ (n59_8 : Nat) (v3_59_8 : Int32) (w59_8 : zS), ZO K t 59 [some (.ref (zad K 21 0)), some (.int a1), some (.int a2), some (.int v3_59_8)] [] w59_8 (fX9_moves_59 a1 a2 (fun (y59_8 : zS) => (some ((0 : Int32), y59_8) : Option (Int32 × zS))) n59_8 v3_59_8 w59_8) := by
      revert hk59_8; generalize (fun (y59_8 : zS) => (some ((0 : Int32), y59_8) : Option (Int32 × zS))) = k59_8; intro hk59_8
      intro n59_8
      induction n59_8 with
      | zero => intro v3_59_8 w59_8; exact z_none
      | succ n59_8 ih59_8 =>
        intro v3_59_8 w59_8
        show ZO K t 59 [some (.ref (zad K 21 0)), some (.int a1), some (.int a2), some (.int v3_59_8)] [] w59_8 (zCi (fX9_at (1 : Int32) (0 : Int32) (0 : Int32) w59_8) (fun x10 s9 => if x10 ≤ v3_59_8 then k59_8 s9 else zCi (fX9_at a1 (0 : Int32) (0 : Int32) s9) (fun x12 s11 => zCi (fX9_at a2 (0 : Int32) (0 : Int32) s11) (fun x14 s13 => zIx (x14 + v3_59_8) 480 (zIx (x12 + v3_59_8) 480 (zB (zU s13 30 0 (x12 + v3_59_8).toNatClampNeg (s13 30 0 (x14 + v3_59_8).toNatClampNeg)) (fun s17 => zB (v3_59_8 + 1) (fun x18 => fX9_moves_59 a1 a2 k59_8 n59_8 x18 s17))))))))
        refine z_iload_n (pc := 59) F dX9_moves_59 rfl ?_
        refine z_iconst (pc := 60) F (v := 1) dX9_moves_60 (by decide) ?_
        refine z_iconst (pc := 61) F (v := 0) dX9_moves_61 (by decide) ?_
        refine z_iconst (pc := 62) F (v := 0) dX9_moves_62 (by decide) ?_
        refine z_callSi (pc := 63) (st := [.int v3_59_8]) F [.int (1 : Int32), .int (0 : Int32), .int (0 : Int32)] cl_RX9_146 (tX9_at (zln K) w59_8 (1 : Int32) (0 : Int32) (0 : Int32)) rfl (by rw [hR]; exact ⟨rfl, rfl, Nat.le_of_ble_eq_true rfl, Nat.le_of_ble_eq_true rfl⟩) rfl rfl (Nat.le_of_ble_eq_true rfl) dX9_moves_63 (fun x10 s9 => ?_)
        refine z_icmp_ge (pc := 66) F 101 dX9_moves_66 (by decide) (fun h19 => ?_) (fun h19 => ?_)
        · refine z_wk [false, false, false, false] (lv' := [none, none, none, none]) rfl ?_
          exact hk59_8  s9
        · refine z_aload_n (pc := 69) F dX9_moves_69 rfl ?_
          refine z_get (pc := 70) F 21 0 18 (v := .ref (zad K 30 0)) (by decide) (fun _ => rfl) rfl (by decide) inlX9 lk_RX9_44 rfl dX9_moves_70 ?_
          refine z_iload_n (pc := 73) F dX9_moves_73 rfl ?_
          refine z_iconst (pc := 74) F (v := 0) dX9_moves_74 (by decide) ?_
          refine z_iconst (pc := 75) F (v := 0) dX9_moves_75 (by decide) ?_
          refine z_callSi (pc := 76) (st := [.ref (zad K 30 0)]) F [.int a1, .int (0 : Int32), .int (0 : Int32)] cl_RX9_146 (tX9_at (zln K) s9 a1 (0 : Int32) (0 : Int32)) rfl (by rw [hR]; exact ⟨rfl, rfl, Nat.le_of_ble_eq_true rfl, Nat.le_of_ble_eq_true rfl⟩) rfl rfl (Nat.le_of_ble_eq_true rfl) dX9_moves_76 (fun x12 s11 => ?_)
          refine z_iload_n (pc := 79) F dX9_moves_79 rfl ?_
          refine z_iadd (pc := 80) F dX9_moves_80 ?_
          refine z_aload_n (pc := 81) F dX9_moves_81 rfl ?_
          refine z_get (pc := 82) F 21 0 18 (v := .ref (zad K 30 0)) (by decide) (fun _ => rfl) rfl (by decide) inlX9 lk_RX9_44 rfl dX9_moves_82 ?_
          refine z_iload_n (pc := 85) F dX9_moves_85 rfl ?_
          refine z_iconst (pc := 86) F (v := 0) dX9_moves_86 (by decide) ?_
          refine z_iconst (pc := 87) F (v := 0) dX9_moves_87 (by decide) ?_
          refine z_callSi (pc := 88) (st := [.ref (zad K 30 0), .int (x12 + v3_59_8), .ref (zad K 30 0)]) F [.int a2, .int (0 : Int32), .int (0 : Int32)] cl_RX9_146 (tX9_at (zln K) s11 a2 (0 : Int32) (0 : Int32)) rfl (by rw [hR]; exact ⟨rfl, rfl, Nat.le_of_ble_eq_true rfl, Nat.le_of_ble_eq_true rfl⟩) rfl rfl (Nat.le_of_ble_eq_true rfl) dX9_moves_88 (fun x14 s13 => ?_)
          refine z_iload_n (pc := 91) F dX9_moves_91 rfl ?_
          refine z_iadd (pc := 92) F dX9_moves_92 ?_
          refine z_ix (fun h15 => ?_)
          refine z_iald (pc := 93) F 30 0 (by decide) (fun _ => rfl) h15 dX9_moves_93 ?_
          refine z_ix (fun h16 => ?_)
          refine z_iast (pc := 94) F 30 0 (by decide) (fun _ _ => rfl) h16 dX9_moves_94 (fun s17 => ?_)
          refine z_iincB (pc := 95) F (lv' := fun x18 => [some (.ref (zad K 21 0)), some (.int a1), some (.int a2), some (.int x18)]) dX9_moves_95 rfl rfl (fun _ => rfl) (fun x18 => ?_)
          refine z_goto (pc := 98) F 59 dX9_moves_98 (by decide) ?_
          exact ih59_8 x18 s17
    exact L59_8 zN (0 : Int32) y26_7
  have L26_7 : ∀ (n26_7 : Nat) (v3_26_7 : Int32) (w26_7 : zS), ZO K t 26 [some (.ref (zad K 21 0)), some (.int a1), some (.int a2), some (.int v3_26_7)] [] w26_7 (fX9_moves_26 a1 a2 (fun (y26_7 : zS) => (fX9_moves_59 a1 a2 (fun (y59_8 : zS) => (some ((0 : Int32), y59_8) : Option (Int32 × zS))) zN (0 : Int32) y26_7 : Option (Int32 × zS))) n26_7 v3_26_7 w26_7) := by
    revert hk26_7; generalize (fun (y26_7 : zS) => (fX9_moves_59 a1 a2 (fun (y59_8 : zS) => (some ((0 : Int32), y59_8) : Option (Int32 × zS))) zN (0 : Int32) y26_7 : Option (Int32 × zS))) = k26_7; intro hk26_7
    intro n26_7
    induction n26_7 with
    | zero => intro v3_26_7 w26_7; exact z_none
    | succ n26_7 ih26_7 =>
      intro v3_26_7 w26_7
      show ZO K t 26 [some (.ref (zad K 21 0)), some (.int a1), some (.int a2), some (.int v3_26_7)] [] w26_7 (if (4 : Int32) ≤ v3_26_7 then k26_7 w26_7 else zIx (((4 : Int32) * a2) + v3_26_7) 12 (zIx (((4 : Int32) * a1) + v3_26_7) 12 (zB (zU w26_7 29 0 (((4 : Int32) * a1) + v3_26_7).toNatClampNeg (w26_7 29 0 (((4 : Int32) * a2) + v3_26_7).toNatClampNeg)) (fun s22 => zB (v3_26_7 + 1) (fun x23 => fX9_moves_26 a1 a2 k26_7 n26_7 x23 s22)))))
      refine z_iload_n (pc := 26) F dX9_moves_26 rfl ?_
      refine z_iconst (pc := 27) F (v := 4) dX9_moves_27 (by decide) ?_
      refine z_icmp_ge (pc := 28) F 57 dX9_moves_28 (by decide) (fun h24 => ?_) (fun h24 => ?_)
      · refine z_wk [true, true, true, false] (lv' := [some (.ref (zad K 21 0)), some (.int a1), some (.int a2), none]) rfl ?_
        exact hk26_7  w26_7
      · refine z_aload_n (pc := 31) F dX9_moves_31 rfl ?_
        refine z_get (pc := 32) F 21 0 17 (v := .ref (zad K 29 0)) (by decide) (fun _ => rfl) rfl (by decide) inlX9 lk_RX9_41 rfl dX9_moves_32 ?_
        refine z_iconst (pc := 35) F (v := 4) dX9_moves_35 (by decide) ?_
        refine z_iload_n (pc := 36) F dX9_moves_36 rfl ?_
        refine z_imul (pc := 37) F dX9_moves_37 ?_
        refine z_iload_n (pc := 38) F dX9_moves_38 rfl ?_
        refine z_iadd (pc := 39) F dX9_moves_39 ?_
        refine z_aload_n (pc := 40) F dX9_moves_40 rfl ?_
        refine z_get (pc := 41) F 21 0 17 (v := .ref (zad K 29 0)) (by decide) (fun _ => rfl) rfl (by decide) inlX9 lk_RX9_41 rfl dX9_moves_41 ?_
        refine z_iconst (pc := 44) F (v := 4) dX9_moves_44 (by decide) ?_
        refine z_iload_n (pc := 45) F dX9_moves_45 rfl ?_
        refine z_imul (pc := 46) F dX9_moves_46 ?_
        refine z_iload_n (pc := 47) F dX9_moves_47 rfl ?_
        refine z_iadd (pc := 48) F dX9_moves_48 ?_
        refine z_ix (fun h20 => ?_)
        refine z_iald (pc := 49) F 29 0 (by decide) (fun _ => rfl) h20 dX9_moves_49 ?_
        refine z_ix (fun h21 => ?_)
        refine z_iast (pc := 50) F 29 0 (by decide) (fun _ _ => rfl) h21 dX9_moves_50 (fun s22 => ?_)
        refine z_iincB (pc := 51) F (lv' := fun x23 => [some (.ref (zad K 21 0)), some (.int a1), some (.int a2), some (.int x23)]) dX9_moves_51 rfl rfl (fun _ => rfl) (fun x23 => ?_)
        refine z_goto (pc := 54) F 26 dX9_moves_54 (by decide) ?_
        exact ih26_7 x23 s22
  exact L26_7 zN (0 : Int32) s6
