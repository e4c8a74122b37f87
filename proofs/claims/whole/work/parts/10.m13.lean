def fX9_mixesOf_5 (a1 : Int32) (a2 : Int32) (k5_1 : Int32 → zS → Option (Int32 × zS)) : Nat → Int32 → Int32 → zS → Option (Int32 × zS)
  | 0, _, _, _ => none
  | (n5_1 + 1), v3_5_1, v4_5_1, w5_1 => zCi (fX9_rankOf a1 a2 w5_1) (fun x3 s2 => if x3 ≤ v4_5_1 then k5_1 v3_5_1 s2 else zB (v3_5_1 * (s2 21 0 12)) (fun x4 => zB (v4_5_1 + 1) (fun x5 => fX9_mixesOf_5 a1 a2 k5_1 n5_1 x4 x5 s2)))
def fX9_mixesOf (a1 : Int32) (a2 : Int32) (σ : zS) : Option (Int32 × zS) := fX9_mixesOf_5 a1 a2 (fun (u3_5_1 : Int32) (y5_1 : zS) => (some (u3_5_1, y5_1) : Option (Int32 × zS))) zN (1 : Int32) (0 : Int32) σ
abbrev rmX9_mixesOf : Room := { frames := 1, cells := 0, slots := 0, locals := 22 }
set_option maxRecDepth 100000 in
set_option maxHeartbeats 4000000 in
theorem tX9_mixesOf (l : Launch) (σ : zS) (a1 : Int32) (a2 : Int32) : zMi l yX9_mixesOf cX9_mixesOf 5 (some .int) rmX9_mixesOf (fun ad => [.ref (ad 21 0), .int a1, .int a2]) σ (fX9_mixesOf a1 a2 σ) := by
  refine zMi.of RX9 (by decide +kernel) rfl (fun _ => Nat.le_of_ble_eq_true rfl) (fun _ => zcat rfl) (fun K t F hR hL E => ?_)
  show ZO K t 0 [some (.ref (zad K 21 0)), some (.int a1), some (.int a2), none, none] [] σ (fX9_mixesOf_5 a1 a2 (fun (u3_5_1 : Int32) (y5_1 : zS) => (some (u3_5_1, y5_1) : Option (Int32 × zS))) zN (1 : Int32) (0 : Int32) σ)
  refine z_iconst (pc := 0) F (v := 1) dX9_mixesOf_0 (by decide) ?_
  refine z_istore_n (pc := 1) F (lv' := [some (.ref (zad K 21 0)), some (.int a1), some (.int a2), some (.int (1 : Int32)), none]) dX9_mixesOf_1 (zlt rfl) rfl ?_
  refine z_iconst (pc := 2) F (v := 0) dX9_mixesOf_2 (by decide) ?_
  refine z_istore (pc := 3) F (lv' := [some (.ref (zad K 21 0)), some (.int a1), some (.int a2), some (.int (1 : Int32)), some (.int (0 : Int32))]) dX9_mixesOf_3 (zlt rfl) rfl ?_
  have hk5_1 : ∀ (u3_5_1 : Int32) (y5_1 : zS), ZO K t 29 [none, none, none, some (.int u3_5_1), none] [] y5_1 ((fun (u3_5_1 : Int32) (y5_1 : zS) => (some (u3_5_1, y5_1) : Option (Int32 × zS))) u3_5_1 y5_1) := by
    intro u3_5_1 y5_1
    show ZO K t 29 [none, none, none, some (.int u3_5_1), none] [] y5_1 (some (u3_5_1, y5_1))
    refine z_iload_n (pc := 29) F dX9_mixesOf_29 rfl ?_
    exact z_iret (pc := 30) F E dX9_mixesOf_30
  have L5_1 : ∀ (n5_1 : Nat) (v3_5_1 : Int32) (v4_5_1 : Int32) (w5_1 : zS), ZO K t 5 [some (.ref (zad K 21 0)), some (.int a1), some (.int a2), some (.int v3_5_1), some (.int v4_5_1)] [] w5_1 (fX9_mixesOf_5 a1 a2 (fun (u3_5_1 : Int32) (y5_1 : zS) => (some (u3_5_1, y5_1) : Option (Int32 × zS))) n5_1 v3_5_1 v4_5_1 w5_1) := by
    revert hk5_1; generalize (fun (u3_5_1 : Int32) (y5_1 : zS) => (some (u3_5_1, y5_1) : Option (Int32 × zS))) = k5_1; intro hk5_1
    intro n5_1
    induction n5_1 with
    | zero => intro v3_5_1 v4_5_1 w5_1; exact z_none
    | succ n5_1 ih5_1 =>
      intro v3_5_1 v4_5_1 w5_1
      show ZO K t 5 [some (.ref (zad K 21 0)), some (.int a1), some (.int a2), some (.int v3_5_1), some (.int v4_5_1)] [] w5_1 (zCi (fX9_rankOf a1 a2 w5_1) (fun x3 s2 => if x3 ≤ v4_5_1 then k5_1 v3_5_1 s2 else zB (v3_5_1 * (s2 21 0 12)) (fun x4 => zB (v4_5_1 + 1) (fun x5 => fX9_mixesOf_5 a1 a2 k5_1 n5_1 x4 x5 s2))))
      refine z_iload (pc := 5) F dX9_mixesOf_5 rfl ?_
      refine z_aload_n (pc := 7) F dX9_mixesOf_7 rfl ?_
      refine z_iload_n (pc := 8) F dX9_mixesOf_8 rfl ?_
      refine z_iload_n (pc := 9) F dX9_mixesOf_9 rfl ?_
      refine z_callVi (pc := 10) (st := [.int v4_5_1]) F 21 0 [.int a1, .int a2] cl_RX9_156 (tX9_rankOf (zln K) w5_1 a1 a2) rfl (by decide) (fun _ => ⟨_, rfl⟩) rfl (by rw [hR]; exact ⟨rfl, rfl, Nat.le_of_ble_eq_true rfl, Nat.le_of_ble_eq_true rfl⟩) rfl rfl (Nat.le_of_ble_eq_true rfl) dX9_mixesOf_10 (fun x3 s2 => ?_)
      refine z_icmp_ge (pc := 13) F 29 dX9_mixesOf_13 (by decide) (fun h6 => ?_) (fun h6 => ?_)
      · refine z_wk [false, false, false, true, false] (lv' := [none, none, none, some (.int v3_5_1), none]) rfl ?_
        exact hk5_1 v3_5_1 s2
      · refine z_iload_n (pc := 16) F dX9_mixesOf_16 rfl ?_
        refine z_aload_n (pc := 17) F dX9_mixesOf_17 rfl ?_
        refine z_get (pc := 18) F 21 0 12 (v := .int (s2 21 0 12)) (by decide) (fun _ => rfl) rfl (by decide) inlX9 lk_RX9_32 rfl dX9_mixesOf_18 ?_
        refine z_imul (pc := 21) F dX9_mixesOf_21 ?_
        refine z_Bi (fun x4 => ?_)
        refine z_istore_n (pc := 22) F (lv' := [some (.ref (zad K 21 0)), some (.int a1), some (.int a2), some (.int x4), some (.int v4_5_1)]) dX9_mixesOf_22 (zlt rfl) rfl ?_
        refine z_iincB (pc := 23) F (lv' := fun x5 => [some (.ref (zad K 21 0)), some (.int a1), some (.int a2), some (.int x4), some (.int x5)]) dX9_mixesOf_23 rfl rfl (fun _ => rfl) (fun x5 => ?_)
        refine z_goto (pc := 26) F 5 dX9_mixesOf_26 (by decide) ?_
        exact ih5_1 x4 x5 s2
  exact L5_1 zN (1 : Int32) (0 : Int32) σ
def fX9_isNewToAll_2 (a1 : Int32) (a2 : Int32) (k2_1 : zS → Option (Int32 × zS)) : Nat → Int32 → zS → Option (Int32 × zS)
  | 0, _, _ => none
  | (n2_1 + 1), v3_2_1, w2_1 => if (4 : Int32) ≤ v3_2_1 then k2_1 w2_1 else zCi (fX9_isIn a2 v3_2_1 w2_1) (fun x3 s2 => if x3 = 0 then zB (v3_2_1 + 1) (fun x4 => fX9_isNewToAll_2 a1 a2 k2_1 n2_1 x4 s2) else zCi (fX9_isNewTo a1 v3_2_1 s2) (fun x6 s5 => if x6 = 0 then some ((0 : Int32), s5) else zB (v3_2_1 + 1) (fun x7 => fX9_isNewToAll_2 a1 a2 k2_1 n2_1 x7 s5)))
def fX9_isNewToAll (a1 : Int32) (a2 : Int32) (σ : zS) : Option (Int32 × zS) := fX9_isNewToAll_2 a1 a2 (fun (y2_1 : zS) => (some ((1 : Int32), y2_1) : Option (Int32 × zS))) zN (0 : Int32) σ
abbrev rmX9_isNewToAll : Room := { frames := 2, cells := 0, slots := 0, locals := 51 }
set_option maxRecDepth 100000 in
set_option maxHeartbeats 4000000 in
theorem tX9_isNewToAll (l : Launch) (σ : zS) (a1 : Int32) (a2 : Int32) : zMi l yX9_isNewToAll cX9_isNewToAll 4 (some .boolean) rmX9_isNewToAll (fun ad => [.ref (ad 21 0), .int a1, .int a2]) σ (fX9_isNewToAll a1 a2 σ) := by
  refine zMi.of RX9 (by decide +kernel) rfl (fun _ => Nat.le_of_ble_eq_true rfl) (fun _ => zcat rfl) (fun K t F hR hL E => ?_)
  show ZO K t 0 [some (.ref (zad K 21 0)), some (.int a1), some (.int a2), none] [] σ (fX9_isNewToAll_2 a1 a2 (fun (y2_1 : zS) => (some ((1 : Int32), y2_1) : Option (Int32 × zS))) zN (0 : Int32) σ)
  refine z_iconst (pc := 0) F (v := 0) dX9_isNewToAll_0 (by decide) ?_
  refine z_istore_n (pc := 1) F (lv' := [some (.ref (zad K 21 0)), some (.int a1), some (.int a2), some (.int (0 : Int32))]) dX9_isNewToAll_1 (zlt rfl) rfl ?_
  have hk2_1 : ∀ (y2_1 : zS), ZO K t 32 [none, none, none, none] [] y2_1 ((fun (y2_1 : zS) => (some ((1 : Int32), y2_1) : Option (Int32 × zS))) y2_1) := by
    intro y2_1
    show ZO K t 32 [none, none, none, none] [] y2_1 (some ((1 : Int32), y2_1))
    refine z_iconst (pc := 32) F (v := 1) dX9_isNewToAll_32 (by decide) ?_
    exact z_zret (pc := 33) F E (by decide) dX9_isNewToAll_33
  have L2_1 : ∀ (n2_1 : Nat) (v3_2_1 : Int32) (w2_1 : zS), ZO K t 2 [some (.ref (zad K 21 0)), some (.int a1), some (.int a2), some (.int v3_2_1)] [] w2_1 (fX9_isNewToAll_2 a1 a2 (fun (y2_1 : zS) => (some ((1 : Int32), y2_1) : Option (Int32 × zS))) n2_1 v3_2_1 w2_1) := by
    revert hk2_1; generalize (fun (y2_1 : zS) => (some ((1 : Int32), y2_1) : Option (Int32 × zS))) = k2_1; intro hk2_1
    intro n2_1
    induction n2_1 with
    | zero => intro v3_2_1 w2_1; exact z_none
    | succ n2_1 ih2_1 =>
      intro v3_2_1 w2_1
      show ZO K t 2 [some (.ref (zad K 21 0)), some (.int a1), some (.int a2), some (.int v3_2_1)] [] w2_1 (if (4 : Int32) ≤ v3_2_1 then k2_1 w2_1 else zCi (fX9_isIn a2 v3_2_1 w2_1) (fun x3 s2 => if x3 = 0 then zB (v3_2_1 + 1) (fun x4 => fX9_isNewToAll_2 a1 a2 k2_1 n2_1 x4 s2) else zCi (fX9_isNewTo a1 v3_2_1 s2) (fun x6 s5 => if x6 = 0 then some ((0 : Int32), s5) else zB (v3_2_1 + 1) (fun x7 => fX9_isNewToAll_2 a1 a2 k2_1 n2_1 x7 s5))))
      refine z_iload_n (pc := 2) F dX9_isNewToAll_2 rfl ?_
      refine z_iconst (pc := 3) F (v := 4) dX9_isNewToAll_3 (by decide) ?_
      refine z_icmp_ge (pc := 4) F 32 dX9_isNewToAll_4 (by decide) (fun h10 => ?_) (fun h10 => ?_)
      · refine z_wk [false, false, false, false] (lv' := [none, none, none, none]) rfl ?_
        exact hk2_1  w2_1
      · refine z_iload_n (pc := 7) F dX9_isNewToAll_7 rfl ?_
        refine z_iload_n (pc := 8) F dX9_isNewToAll_8 rfl ?_
        refine z_callSi (pc := 9) (st := []) F [.int a2, .int v3_2_1] cl_RX9_75 (tX9_isIn (zln K) w2_1 a2 v3_2_1) rfl (by rw [hR]; exact ⟨rfl, rfl, Nat.le_of_ble_eq_true rfl, Nat.le_of_ble_eq_true rfl⟩) rfl rfl (Nat.le_of_ble_eq_true rfl) dX9_isNewToAll_9 (fun x3 s2 => ?_)
        refine z_if_eq (pc := 12) F 26 dX9_isNewToAll_12 (by decide) (fun h9 => ?_) (fun h9 => ?_)
        · refine z_iincB (pc := 26) F (lv' := fun x4 => [some (.ref (zad K 21 0)), some (.int a1), some (.int a2), some (.int x4)]) dX9_isNewToAll_26 rfl rfl (fun _ => rfl) (fun x4 => ?_)
          refine z_goto (pc := 29) F 2 dX9_isNewToAll_29 (by decide) ?_
          exact ih2_1 x4 s2
        · refine z_aload_n (pc := 15) F dX9_isNewToAll_15 rfl ?_
          refine z_iload_n (pc := 16) F dX9_isNewToAll_16 rfl ?_
          refine z_iload_n (pc := 17) F dX9_isNewToAll_17 rfl ?_
          refine z_callVi (pc := 18) (st := []) F 21 0 [.int a1, .int v3_2_1] cl_RX9_166 (tX9_isNewTo (zln K) s2 a1 v3_2_1) rfl (by decide) (fun _ => ⟨_, rfl⟩) rfl (by rw [hR]; exact ⟨rfl, rfl, Nat.le_of_ble_eq_true rfl, Nat.le_of_ble_eq_true rfl⟩) rfl rfl (Nat.le_of_ble_eq_true rfl) dX9_isNewToAll_18 (fun x6 s5 => ?_)
          refine z_if_ne (pc := 21) F 26 dX9_isNewToAll_21 (by decide) (fun h8 => ?_) (fun h8 => ?_)
          · refine z_iincB (pc := 26) F (lv' := fun x7 => [some (.ref (zad K 21 0)), some (.int a1), some (.int a2), some (.int x7)]) dX9_isNewToAll_26 rfl rfl (fun _ => rfl) (fun x7 => ?_)
            refine z_goto (pc := 29) F 2 dX9_isNewToAll_29 (by decide) ?_
            exact ih2_1 x7 s5
          · refine z_iconst (pc := 24) F (v := 0) dX9_isNewToAll_24 (by decide) ?_
            exact z_zret (pc := 25) F E (by decide) dX9_isNewToAll_25
  exact L2_1 zN (0 : Int32) σ
def fX9_freshOf_3 (a1 : Int32) (a2 : Int32) (a3 : Int32) (k3_1 : zS → Option (Int32 × zS)) : Nat → Int32 → zS → Option (Int32 × zS)
  | 0, _, _ => none
  | (n3_1 + 1), v4_3_1, w3_1 => zCi (fX9_mixesOf a1 a2 w3_1) (fun x3 s2 => if x3 ≤ v4_3_1 then k3_1 s2 else zCv (fX9_mixes a1 a2 v4_3_1 s2) (fun s4 => zCi (fX9_isNewTo a1 a3 s4) (fun x6 s5 => if x6 = 0 then zB (v4_3_1 + 1) (fun x7 => fX9_freshOf_3 a1 a2 a3 k3_1 n3_1 x7 s5) else some (v4_3_1, s5))))
def fX9_freshOf (a1 : Int32) (a2 : Int32) (a3 : Int32) (σ : zS) : Option (Int32 × zS) := fX9_freshOf_3 a1 a2 a3 (fun (y3_1 : zS) => (some ((-9 : Int32), y3_1) : Option (Int32 × zS))) zN (0 : Int32) σ
abbrev rmX9_freshOf : Room := { frames := 2, cells := 0, slots := 0, locals := 51 }
set_option maxRecDepth 100000 in
set_option maxHeartbeats 4000000 in
theorem tX9_freshOf (l : Launch) (σ : zS) (a1 : Int32) (a2 : Int32) (a3 : Int32) : zMi l yX9_freshOf cX9_freshOf 5 (some .int) rmX9_freshOf (fun ad => [.ref (ad 21 0), .int a1, .int a2, .int a3]) σ (fX9_freshOf a1 a2 a3 σ) := by
  refine zMi.of RX9 (by decide +kernel) rfl (fun _ => Nat.le_of_ble_eq_true rfl) (fun _ => zcat rfl) (fun K t F hR hL E => ?_)
  show ZO K t 0 [some (.ref (zad K 21 0)), some (.int a1), some (.int a2), some (.int a3), none] [] σ (fX9_freshOf_3 a1 a2 a3 (fun (y3_1 : zS) => (some ((-9 : Int32), y3_1) : Option (Int32 × zS))) zN (0 : Int32) σ)
  refine z_iconst (pc := 0) F (v := 0) dX9_freshOf_0 (by decide) ?_
  refine z_istore (pc := 1) F (lv' := [some (.ref (zad K 21 0)), some (.int a1), some (.int a2), some (.int a3), some (.int (0 : Int32))]) dX9_freshOf_1 (zlt rfl) rfl ?_
  have hk3_1 : ∀ (y3_1 : zS), ZO K t 40 [none, none, none, none, none] [] y3_1 ((fun (y3_1 : zS) => (some ((-9 : Int32), y3_1) : Option (Int32 × zS))) y3_1) := by
    intro y3_1
    show ZO K t 40 [none, none, none, none, none] [] y3_1 (some ((-9 : Int32), y3_1))
    refine z_bipush (pc := 40) F (v := -9) dX9_freshOf_40 (by decide) ?_
    exact z_iret (pc := 42) F E dX9_freshOf_42
  have L3_1 : ∀ (n3_1 : Nat) (v4_3_1 : Int32) (w3_1 : zS), ZO K t 3 [some (.ref (zad K 21 0)), some (.int a1), some (.int a2), some (.int a3), some (.int v4_3_1)] [] w3_1 (fX9_freshOf_3 a1 a2 a3 (fun (y3_1 : zS) => (some ((-9 : Int32), y3_1) : Option (Int32 × zS))) n3_1 v4_3_1 w3_1) := by
    revert hk3_1; generalize (fun (y3_1 : zS) => (some ((-9 : Int32), y3_1) : Option (Int32 × zS))) = k3_1; intro hk3_1
    intro n3_1
    induction n3_1 with
    | zero => intro v4_3_1 w3_1; exact z_none
    | succ n3_1 ih3_1 =>
      intro v4_3_1 w3_1
      show ZO K t 3 [some (.ref (zad K 21 0)), some (.int a1), some (.int a2), some (.int a3), some (.int v4_3_1)] [] w3_1 (zCi (fX9_mixesOf a1 a2 w3_1) (fun x3 s2 => if x3 ≤ v4_3_1 then k3_1 s2 else zCv (fX9_mixes a1 a2 v4_3_1 s2) (fun s4 => zCi (fX9_isNewTo a1 a3 s4) (fun x6 s5 => if x6 = 0 then zB (v4_3_1 + 1) (fun x7 => fX9_freshOf_3 a1 a2 a3 k3_1 n3_1 x7 s5) else some (v4_3_1, s5)))))
      refine z_iload (pc := 3) F dX9_freshOf_3 rfl ?_
      refine z_aload_n (pc := 5) F dX9_freshOf_5 rfl ?_
      refine z_iload_n (pc := 6) F dX9_freshOf_6 rfl ?_
      refine z_iload_n (pc := 7) F dX9_freshOf_7 rfl ?_
      refine z_callVi (pc := 8) (st := [.int v4_3_1]) F 21 0 [.int a1, .int a2] cl_RX9_183 (tX9_mixesOf (zln K) w3_1 a1 a2) rfl (by decide) (fun _ => ⟨_, rfl⟩) rfl (by rw [hR]; exact ⟨rfl, rfl, Nat.le_of_ble_eq_true rfl, Nat.le_of_ble_eq_true rfl⟩) rfl rfl (Nat.le_of_ble_eq_true rfl) dX9_freshOf_8 (fun x3 s2 => ?_)
      refine z_icmp_ge (pc := 11) F 40 dX9_freshOf_11 (by decide) (fun h9 => ?_) (fun h9 => ?_)
      · refine z_wk [false, false, false, false, false] (lv' := [none, none, none, none, none]) rfl ?_
        exact hk3_1  s2
      · refine z_aload_n (pc := 14) F dX9_freshOf_14 rfl ?_
        refine z_iload_n (pc := 15) F dX9_freshOf_15 rfl ?_
        refine z_iload_n (pc := 16) F dX9_freshOf_16 rfl ?_
        refine z_iload (pc := 17) F dX9_freshOf_17 rfl ?_
        refine z_callVv (pc := 19) (st := []) F 21 0 [.int a1, .int a2, .int v4_3_1] cl_RX9_175 (tX9_mixes (zln K) s2 a1 a2 v4_3_1) rfl (by decide) (fun _ => ⟨_, rfl⟩) rfl (by rw [hR]; exact ⟨rfl, rfl, Nat.le_of_ble_eq_true rfl, Nat.le_of_ble_eq_true rfl⟩) rfl rfl (Nat.le_of_ble_eq_true rfl) dX9_freshOf_19 (fun s4 => ?_)
        refine z_aload_n (pc := 22) F dX9_freshOf_22 rfl ?_
        refine z_iload_n (pc := 23) F dX9_freshOf_23 rfl ?_
        refine z_iload_n (pc := 24) F dX9_freshOf_24 rfl ?_
        refine z_callVi (pc := 25) (st := []) F 21 0 [.int a1, .int a3] cl_RX9_166 (tX9_isNewTo (zln K) s4 a1 a3) rfl (by decide) (fun _ => ⟨_, rfl⟩) rfl (by rw [hR]; exact ⟨rfl, rfl, Nat.le_of_ble_eq_true rfl, Nat.le_of_ble_eq_true rfl⟩) rfl rfl (Nat.le_of_ble_eq_true rfl) dX9_freshOf_25 (fun x6 s5 => ?_)
        refine z_if_eq (pc := 28) F 34 dX9_freshOf_28 (by decide) (fun h8 => ?_) (fun h8 => ?_)
        · refine z_iincB (pc := 34) F (lv' := fun x7 => [some (.ref (zad K 21 0)), some (.int a1), some (.int a2), some (.int a3), some (.int x7)]) dX9_freshOf_34 rfl rfl (fun _ => rfl) (fun x7 => ?_)
          refine z_goto (pc := 37) F 3 dX9_freshOf_37 (by decide) ?_
          exact ih3_1 x7 s5
        · refine z_iload (pc := 31) F dX9_freshOf_31 rfl ?_
          exact z_iret (pc := 33) F E dX9_freshOf_33
  exact L3_1 zN (0 : Int32) σ
def fX9_forAll_74 (a2 : Int32) (x2 : Int32) (u4_27_5 : Int32) (k74_6 : zS → Option (Int32 × zS)) : Nat → Int32 → zS → Option (Int32 × zS)
  | 0, _, _ => none
  | (n74_6 + 1), v5_74_6, w74_6 => zCi (fX9_mixesOf x2 a2 w74_6) (fun x8 s7 => if x8 ≤ v5_74_6 then k74_6 s7 else if u4_27_5 = 0 then k74_6 s7 else zCv (fX9_mixes x2 a2 v5_74_6 s7) (fun s9 => zCi (fX9_isNewToAll x2 u4_27_5 s9) (fun x11 s10 => if x11 = 0 then zB (v5_74_6 + 1) (fun x12 => fX9_forAll_74 a2 x2 u4_27_5 k74_6 n74_6 x12 s10) else some (v5_74_6, s10))))
def fX9_forAll_27 (a2 : Int32) (x2 : Int32) (k27_5 : Int32 → zS → Option (Int32 × zS)) : Nat → Int32 → Int32 → zS → Option (Int32 × zS)
  | 0, _, _, _ => none
  | (n27_5 + 1), v4_27_5, v5_27_5, w27_5 => if (4 : Int32) ≤ v5_27_5 then k27_5 v4_27_5 w27_5 else if v5_27_5 = a2 then zB (v4_27_5 ||| (0 : Int32)) (fun x16 => zB (v5_27_5 + 1) (fun x17 => fX9_forAll_27 a2 x2 k27_5 n27_5 x16 x17 w27_5)) else zCi (fX9_freshOf x2 a2 v5_27_5 w27_5) (fun x19 s18 => if x19 = (-9 : Int32) then zB (v4_27_5 ||| (0 : Int32)) (fun x20 => zB (v5_27_5 + 1) (fun x21 => fX9_forAll_27 a2 x2 k27_5 n27_5 x20 x21 s18)) else zB (v4_27_5 ||| ((1 : Int32) <<< (v5_27_5 &&& 31))) (fun x22 => zB (v5_27_5 + 1) (fun x23 => fX9_forAll_27 a2 x2 k27_5 n27_5 x22 x23 s18)))
def fX9_forAll (a1 : Int32) (a2 : Int32) (σ : zS) : Option (Int32 × zS) := zCi (fX9_placeOf a1 σ) (fun x2 s1 => if x2 = (-9 : Int32) then some ((-1 : Int32), s1) else zCi (fX9_isNode a2 s1) (fun x4 s3 => if x4 = 0 then some ((-1 : Int32), s3) else fX9_forAll_27 a2 x2 (fun (u4_27_5 : Int32) (y27_5 : zS) => (fX9_forAll_74 a2 x2 u4_27_5 (fun (y74_6 : zS) => (some ((-9 : Int32), y74_6) : Option (Int32 × zS))) zN (0 : Int32) y27_5 : Option (Int32 × zS))) zN (0 : Int32) (0 : Int32) s3))
abbrev rmX9_forAll : Room := { frames := 3, cells := 0, slots := 0, locals := 75 }
set_option maxRecDepth 100000 in
set_option maxHeartbeats 4000000 in
theorem tX9_forAll (l : Launch) (σ : zS) (a1 : Int32) (a2 : Int32) : zMi l yX9_forAll cX9_forAll 6 (some .int) rmX9_forAll (fun ad => [.ref (ad 21 0), .int a1, .int a2]) σ (fX9_forAll a1 a2 σ) := by
  refine zMi.of RX9 (by decide +kernel) rfl (fun _ => Nat.le_of_ble_eq_true rfl) (fun _ => zcat rfl) (fun K t F hR hL E => ?_)
  show ZO K t 0 [some (.ref (zad K 21 0)), some (.int a1), some (.int a2), none, none, none] [] σ (zCi (fX9_placeOf a1 σ) (fun x2 s1 => if x2 = (-9 : Int32) then some ((-1 : Int32), s1) else zCi (fX9_isNode a2 s1) (fun x4 s3 => if x4 = 0 then some ((-1 : Int32), s3) else fX9_forAll_27 a2 x2 (fun (u4_27_5 : Int32) (y27_5 : zS) => (fX9_forAll_74 a2 x2 u4_27_5 (fun (y74_6 : zS) => (some ((-9 : Int32), y74_6) : Option (Int32 × zS))) zN (0 : Int32) y27_5 : Option (Int32 × zS))) zN (0 : Int32) (0 : Int32) s3)))
  refine z_aload_n (pc := 0) F dX9_forAll_0 rfl ?_
  refine z_iload_n (pc := 1) F dX9_forAll_1 rfl ?_
  refine z_callVi (pc := 2) (st := []) F 21 0 [.int a1] cl_RX9_150 (tX9_placeOf (zln K) σ a1) rfl (by decide) (fun _ => ⟨_, rfl⟩) rfl (by rw [hR]; exact ⟨rfl, rfl, Nat.le_of_ble_eq_true rfl, Nat.le_of_ble_eq_true rfl⟩) rfl rfl (Nat.le_of_ble_eq_true rfl) dX9_forAll_2 (fun x2 s1 => ?_)
  refine z_istore_n (pc := 5) F (lv' := [some (.ref (zad K 21 0)), some (.int a1), some (.int a2), some (.int x2), none, none]) dX9_forAll_5 (zlt rfl) rfl ?_
  refine z_iload_n (pc := 6) F dX9_forAll_6 rfl ?_
  refine z_bipush (pc := 7) F (v := -9) dX9_forAll_7 (by decide) ?_
  refine z_icmp_eq (pc := 9) F 19 dX9_forAll_9 (by decide) (fun h28 => ?_) (fun h28 => ?_)
  · refine z_iconst (pc := 19) F (v := -1) dX9_forAll_19 (by decide) ?_
    exact z_iret (pc := 20) F E dX9_forAll_20
  · refine z_iload_n (pc := 12) F dX9_forAll_12 rfl ?_
    refine z_callSi (pc := 13) (st := []) F [.int a2] cl_RX9_153 (tX9_isNode (zln K) s1 a2) rfl (by rw [hR]; exact ⟨rfl, rfl, Nat.le_of_ble_eq_true rfl, Nat.le_of_ble_eq_true rfl⟩) rfl rfl (Nat.le_of_ble_eq_true rfl) dX9_forAll_13 (fun x4 s3 => ?_)
    refine z_if_ne (pc := 16) F 21 dX9_forAll_16 (by decide) (fun h27 => ?_) (fun h27 => ?_)
    · refine z_iconst (pc := 21) F (v := 0) dX9_forAll_21 (by decide) ?_
      refine z_istore (pc := 22) F (lv' := [some (.ref (zad K 21 0)), some (.int a1), some (.int a2), some (.int x2), some (.int (0 : Int32)), none]) dX9_forAll_22 (zlt rfl) rfl ?_
      refine z_iconst (pc := 24) F (v := 0) dX9_forAll_24 (by decide) ?_
      refine z_istore (pc := 25) F (lv' := [some (.ref (zad K 21 0)), some (.int a1), some (.int a2), some (.int x2), some (.int (0 : Int32)), some (.int (0 : Int32))]) dX9_forAll_25 (zlt rfl) rfl ?_
      refine z_wk [true, false, true, true, true, true] (lv' := [some (.ref (zad K 21 0)), none, some (.int a2), some (.int x2), some (.int (0 : Int32)), some (.int (0 : Int32))]) rfl ?_
      have hk27_5 : ∀ (u4_27_5 : Int32) (y27_5 : zS), ZO K t 71 [some (.ref (zad K 21 0)), none, some (.int a2), some (.int x2), some (.int u4_27_5), none] [] y27_5 ((fun (u4_27_5 : Int32) (y27_5 : zS) => (fX9_forAll_74 a2 x2 u4_27_5 (fun (y74_6 : zS) => (some ((-9 : Int32), y74_6) : Option (Int32 × zS))) zN (0 : Int32) y27_5 : Option (Int32 × zS))) u4_27_5 y27_5) := by
        intro u4_27_5 y27_5
        show ZO K t 71 [some (.ref (zad K 21 0)), none, some (.int a2), some (.int x2), some (.int u4_27_5), none] [] y27_5 (fX9_forAll_74 a2 x2 u4_27_5 (fun (y74_6 : zS) => (some ((-9 : Int32), y74_6) : Option (Int32 × zS))) zN (0 : Int32) y27_5)
        refine z_iconst (pc := 71) F (v := 0) dX9_forAll_71 (by decide) ?_
        refine z_istore (pc := 72) F (lv' := [some (.ref (zad K 21 0)), none, some (.int a2), some (.int x2), some (.int u4_27_5), some (.int (0 : Int32))]) dX9_forAll_72 (zlt rfl) rfl ?_
        have hk74_6 : ∀ (y74_6 : zS), ZO K t 117 [none, none, none, none, none, none] [] y74_6 ((fun (y74_6 : zS) => (some ((-9 : Int32), y74_6) : Option (Int32 × zS))) y74_6) := by
          intro y74_6
          show ZO K t 117 [none, none, none, none, none, none] [] y74_6 (some ((-9 : Int32), y74_6))
          refine z_bipush (pc := 117) F (v := -9) dX9_forAll_117 (by decide) ?_
          exact z_iret (pc := 119) F E dX9_forAll_119
        have L74_6 : ∀ (n74_6 : Nat) (v5_74_6 : Int32) (w74_6 : zS), ZO K t 74 [some (.ref (zad K 21 0)), none, some (.int a2), some (.int x2), some (.int u4_27_5), some (.int v5_74_6)] [] w74_6 (fX9_forAll_74 a2 x2 u4_27_5 (fun (y74_6 : zS) => (some ((-9 : Int32), y74_6) : Option (Int32 × zS))) n74_6 v5_74_6 w74_6) := by
          revert hk74_6; generalize (fun (y74_6 : zS) => (some ((-9 : Int32), y74_6) : Option (Int32 × zS))) = k74_6; intro hk74_6
          intro n74_6
          induction n74_6 with
          | zero => intro v5_74_6 w74_6; exact z_none
          | succ n74_6 ih74_6 =>
            intro v5_74_6 w74_6
            show ZO K t 74 [some (.ref (zad K 21 0)), none, some (.int a2), some (.int x2), some (.int u4_27_5), some (.int v5_74_6)] [] w74_6 (zCi (fX9_mixesOf x2 a2 w74_6) (fun x8 s7 => if x8 ≤ v5_74_6 then k74_6 s7 else if u4_27_5 = 0 then k74_6 s7 else zCv (fX9_mixes x2 a2 v5_74_6 s7) (fun s9 => zCi (fX9_isNewToAll x2 u4_27_5 s9) (fun x11 s10 => if x11 = 0 then zB (v5_74_6 + 1) (fun x12 => fX9_forAll_74 a2 x2 u4_27_5 k74_6 n74_6 x12 s10) else some (v5_74_6, s10)))))
            refine z_iload (pc := 74) F dX9_forAll_74 rfl ?_
            refine z_aload_n (pc := 76) F dX9_forAll_76 rfl ?_
            refine z_iload_n (pc := 77) F dX9_forAll_77 rfl ?_
            refine z_iload_n (pc := 78) F dX9_forAll_78 rfl ?_
            refine z_callVi (pc := 79) (st := [.int v5_74_6]) F 21 0 [.int x2, .int a2] cl_RX9_183 (tX9_mixesOf (zln K) w74_6 x2 a2) rfl (by decide) (fun _ => ⟨_, rfl⟩) rfl (by rw [hR]; exact ⟨rfl, rfl, Nat.le_of_ble_eq_true rfl, Nat.le_of_ble_eq_true rfl⟩) rfl rfl (Nat.le_of_ble_eq_true rfl) dX9_forAll_79 (fun x8 s7 => ?_)
            refine z_icmp_ge (pc := 82) F 117 dX9_forAll_82 (by decide) (fun h15 => ?_) (fun h15 => ?_)
            · refine z_wk [false, true, false, false, false, false] (lv' := [none, none, none, none, none, none]) rfl ?_
              exact hk74_6  s7
            · refine z_iload (pc := 85) F dX9_forAll_85 rfl ?_
              refine z_if_eq (pc := 87) F 117 dX9_forAll_87 (by decide) (fun h14 => ?_) (fun h14 => ?_)
              · refine z_wk [false, true, false, false, false, false] (lv' := [none, none, none, none, none, none]) rfl ?_
                exact hk74_6  s7
              · refine z_aload_n (pc := 90) F dX9_forAll_90 rfl ?_
                refine z_iload_n (pc := 91) F dX9_forAll_91 rfl ?_
                refine z_iload_n (pc := 92) F dX9_forAll_92 rfl ?_
                refine z_iload (pc := 93) F dX9_forAll_93 rfl ?_
                refine z_callVv (pc := 95) (st := []) F 21 0 [.int x2, .int a2, .int v5_74_6] cl_RX9_175 (tX9_mixes (zln K) s7 x2 a2 v5_74_6) rfl (by decide) (fun _ => ⟨_, rfl⟩) rfl (by rw [hR]; exact ⟨rfl, rfl, Nat.le_of_ble_eq_true rfl, Nat.le_of_ble_eq_true rfl⟩) rfl rfl (Nat.le_of_ble_eq_true rfl) dX9_forAll_95 (fun s9 => ?_)
                refine z_aload_n (pc := 98) F dX9_forAll_98 rfl ?_
                refine z_iload_n (pc := 99) F dX9_forAll_99 rfl ?_
                refine z_iload (pc := 100) F dX9_forAll_100 rfl ?_
                refine z_callVi (pc := 102) (st := []) F 21 0 [.int x2, .int u4_27_5] cl_RX9_189 (tX9_isNewToAll (zln K) s9 x2 u4_27_5) rfl (by decide) (fun _ => ⟨_, rfl⟩) rfl (by rw [hR]; exact ⟨rfl, rfl, Nat.le_of_ble_eq_true rfl, Nat.le_of_ble_eq_true rfl⟩) rfl rfl (Nat.le_of_ble_eq_true rfl) dX9_forAll_102 (fun x11 s10 => ?_)
                refine z_if_eq (pc := 105) F 111 dX9_forAll_105 (by decide) (fun h13 => ?_) (fun h13 => ?_)
                · refine z_iincB (pc := 111) F (lv' := fun x12 => [some (.ref (zad K 21 0)), none, some (.int a2), some (.int x2), some (.int u4_27_5), some (.int x12)]) dX9_forAll_111 rfl rfl (fun _ => rfl) (fun x12 => ?_)
                  refine z_goto (pc := 114) F 74 dX9_forAll_114 (by decide) ?_
                  exact ih74_6 x12 s10
                · refine z_iload (pc := 108) F dX9_forAll_108 rfl ?_
                  exact z_iret (pc := 110) F E dX9_forAll_110
        exact L74_6 zN (0 : Int32) y27_5
      have L27_5 : ∀ (n27_5 : Nat) (v4_27_5 : Int32) (v5_27_5 : Int32) (w27_5 : zS), ZO K t 27 [some (.ref (zad K 21 0)), none, some (.int a2), some (.int x2), some (.int v4_27_5), some (.int v5_27_5)] [] w27_5 (fX9_forAll_27 a2 x2 (fun (u4_27_5 : Int32) (y27_5 : zS) => (fX9_forAll_74 a2 x2 u4_27_5 (fun (y74_6 : zS) => (some ((-9 : Int32), y74_6) : Option (Int32 × zS))) zN (0 : Int32) y27_5 : Option (Int32 × zS))) n27_5 v4_27_5 v5_27_5 w27_5) := by
        revert hk27_5; generalize (fun (u4_27_5 : Int32) (y27_5 : zS) => (fX9_forAll_74 a2 x2 u4_27_5 (fun (y74_6 : zS) => (some ((-9 : Int32), y74_6) : Option (Int32 × zS))) zN (0 : Int32) y27_5 : Option (Int32 × zS))) = k27_5; intro hk27_5
        intro n27_5
        induction n27_5 with
        | zero => intro v4_27_5 v5_27_5 w27_5; exact z_none
        | succ n27_5 ih27_5 =>
          intro v4_27_5 v5_27_5 w27_5
          show ZO K t 27 [some (.ref (zad K 21 0)), none, some (.int a2), some (.int x2), some (.int v4_27_5), some (.int v5_27_5)] [] w27_5 (if (4 : Int32) ≤ v5_27_5 then k27_5 v4_27_5 w27_5 else if v5_27_5 = a2 then zB (v4_27_5 ||| (0 : Int32)) (fun x16 => zB (v5_27_5 + 1) (fun x17 => fX9_forAll_27 a2 x2 k27_5 n27_5 x16 x17 w27_5)) else zCi (fX9_freshOf x2 a2 v5_27_5 w27_5) (fun x19 s18 => if x19 = (-9 : Int32) then zB (v4_27_5 ||| (0 : Int32)) (fun x20 => zB (v5_27_5 + 1) (fun x21 => fX9_forAll_27 a2 x2 k27_5 n27_5 x20 x21 s18)) else zB (v4_27_5 ||| ((1 : Int32) <<< (v5_27_5 &&& 31))) (fun x22 => zB (v5_27_5 + 1) (fun x23 => fX9_forAll_27 a2 x2 k27_5 n27_5 x22 x23 s18))))
          refine z_iload (pc := 27) F dX9_forAll_27 rfl ?_
          refine z_iconst (pc := 29) F (v := 4) dX9_forAll_29 (by decide) ?_
          refine z_icmp_ge (pc := 30) F 71 dX9_forAll_30 (by decide) (fun h26 => ?_) (fun h26 => ?_)
          · refine z_wk [true, true, true, true, true, false] (lv' := [some (.ref (zad K 21 0)), none, some (.int a2), some (.int x2), some (.int v4_27_5), none]) rfl ?_
            exact hk27_5 v4_27_5 w27_5
          · refine z_iload (pc := 33) F dX9_forAll_33 rfl ?_
            refine z_iload (pc := 35) F dX9_forAll_35 rfl ?_
            refine z_iload_n (pc := 37) F dX9_forAll_37 rfl ?_
            refine z_icmp_eq (pc := 38) F 61 dX9_forAll_38 (by decide) (fun h25 => ?_) (fun h25 => ?_)
            · refine z_iconst (pc := 61) F (v := 0) dX9_forAll_61 (by decide) ?_
              refine z_ior (pc := 62) F dX9_forAll_62 ?_
              refine z_Bi (fun x16 => ?_)
              refine z_istore (pc := 63) F (lv' := [some (.ref (zad K 21 0)), none, some (.int a2), some (.int x2), some (.int x16), some (.int v5_27_5)]) dX9_forAll_63 (zlt rfl) rfl ?_
              refine z_iincB (pc := 65) F (lv' := fun x17 => [some (.ref (zad K 21 0)), none, some (.int a2), some (.int x2), some (.int x16), some (.int x17)]) dX9_forAll_65 rfl rfl (fun _ => rfl) (fun x17 => ?_)
              refine z_goto (pc := 68) F 27 dX9_forAll_68 (by decide) ?_
              exact ih27_5 x16 x17 w27_5
            · refine z_aload_n (pc := 41) F dX9_forAll_41 rfl ?_
              refine z_iload_n (pc := 42) F dX9_forAll_42 rfl ?_
              refine z_iload_n (pc := 43) F dX9_forAll_43 rfl ?_
              refine z_iload (pc := 44) F dX9_forAll_44 rfl ?_
              refine z_callVi (pc := 46) (st := [.int v4_27_5]) F 21 0 [.int x2, .int a2, .int v5_27_5] cl_RX9_186 (tX9_freshOf (zln K) w27_5 x2 a2 v5_27_5) rfl (by decide) (fun _ => ⟨_, rfl⟩) rfl (by rw [hR]; exact ⟨rfl, rfl, Nat.le_of_ble_eq_true rfl, Nat.le_of_ble_eq_true rfl⟩) rfl rfl (Nat.le_of_ble_eq_true rfl) dX9_forAll_46 (fun x19 s18 => ?_)
              refine z_bipush (pc := 49) F (v := -9) dX9_forAll_49 (by decide) ?_
              refine z_icmp_eq (pc := 51) F 61 dX9_forAll_51 (by decide) (fun h24 => ?_) (fun h24 => ?_)
              · refine z_iconst (pc := 61) F (v := 0) dX9_forAll_61 (by decide) ?_
                refine z_ior (pc := 62) F dX9_forAll_62 ?_
                refine z_Bi (fun x20 => ?_)
                refine z_istore (pc := 63) F (lv' := [some (.ref (zad K 21 0)), none, some (.int a2), some (.int x2), some (.int x20), some (.int v5_27_5)]) dX9_forAll_63 (zlt rfl) rfl ?_
                refine z_iincB (pc := 65) F (lv' := fun x21 => [some (.ref (zad K 21 0)), none, some (.int a2), some (.int x2), some (.int x20), some (.int x21)]) dX9_forAll_65 rfl rfl (fun _ => rfl) (fun x21 => ?_)
                refine z_goto (pc := 68) F 27 dX9_forAll_68 (by decide) ?_
                exact ih27_5 x20 x21 s18
              · refine z_iconst (pc := 54) F (v := 1) dX9_forAll_54 (by decide) ?_
                refine z_iload (pc := 55) F dX9_forAll_55 rfl ?_
                refine z_ishl (pc := 57) F dX9_forAll_57 ?_
                refine z_goto (pc := 58) F 62 dX9_forAll_58 (by decide) ?_
                refine z_ior (pc := 62) F dX9_forAll_62 ?_
                refine z_Bi (fun x22 => ?_)
                refine z_istore (pc := 63) F (lv' := [some (.ref (zad K 21 0)), none, some (.int a2), some (.int x2), some (.int x22), some (.int v5_27_5)]) dX9_forAll_63 (zlt rfl) rfl ?_
                refine z_iincB (pc := 65) F (lv' := fun x23 => [some (.ref (zad K 21 0)), none, some (.int a2), some (.int x2), some (.int x22), some (.int x23)]) dX9_forAll_65 rfl rfl (fun _ => rfl) (fun x23 => ?_)
                refine z_goto (pc := 68) F 27 dX9_forAll_68 (by decide) ?_
                exact ih27_5 x22 x23 s18
      exact L27_5 zN (0 : Int32) (0 : Int32) s3
    · refine z_iconst (pc := 19) F (v := -1) dX9_forAll_19 (by decide) ?_
      exact z_iret (pc := 20) F E dX9_forAll_20
def fX9_fresh (a1 : Int32) (a2 : Int32) (a3 : Int32) (σ : zS) : Option (Int32 × zS) := zCi (fX9_againstNodes a1 a2 a3 σ) (fun x2 s1 => if x2 = 0 then zCi (fX9_placeOf a1 s1) (fun x4 s3 => zCi (fX9_freshOf x4 a2 a3 s3) (fun x6 s5 => some (x6, s5))) else some (x2, s1))
abbrev rmX9_fresh : Room := { frames := 3, cells := 0, slots := 0, locals := 75 }
set_option maxRecDepth 100000 in
set_option maxHeartbeats 4000000 in
theorem tX9_fresh (l : Launch) (σ : zS) (a1 : Int32) (a2 : Int32) (a3 : Int32) : zMi l yX9_fresh cX9_fresh 5 (some .int) rmX9_fresh (fun ad => [.ref (ad 21 0), .int a1, .int a2, .int a3]) σ (fX9_fresh a1 a2 a3 σ) := by
  refine zMi.of RX9 (by decide +kernel) rfl (fun _ => Nat.le_of_ble_eq_true rfl) (fun _ => zcat rfl) (fun K t F hR hL E => ?_)
  show ZO K t 0 [some (.ref (zad K 21 0)), some (.int a1), some (.int a2), some (.int a3), none] [] σ (zCi (fX9_againstNodes a1 a2 a3 σ) (fun x2 s1 => if x2 = 0 then zCi (fX9_placeOf a1 s1) (fun x4 s3 => zCi (fX9_freshOf x4 a2 a3 s3) (fun x6 s5 => some (x6, s5))) else some (x2, s1)))
  refine z_aload_n (pc := 0) F dX9_fresh_0 rfl ?_
  refine z_iload_n (pc := 1) F dX9_fresh_1 rfl ?_
  refine z_iload_n (pc := 2) F dX9_fresh_2 rfl ?_
  refine z_iload_n (pc := 3) F dX9_fresh_3 rfl ?_
  refine z_callVi (pc := 4) (st := []) F 21 0 [.int a1, .int a2, .int a3] cl_RX9_172 (tX9_againstNodes (zln K) σ a1 a2 a3) rfl (by decide) (fun _ => ⟨_, rfl⟩) rfl (by rw [hR]; exact ⟨rfl, rfl, Nat.le_of_ble_eq_true rfl, Nat.le_of_ble_eq_true rfl⟩) rfl rfl (Nat.le_of_ble_eq_true rfl) dX9_fresh_4 (fun x2 s1 => ?_)
  refine z_istore (pc := 7) F (lv' := [some (.ref (zad K 21 0)), some (.int a1), some (.int a2), some (.int a3), some (.int x2)]) dX9_fresh_7 (zlt rfl) rfl ?_
  refine z_iload (pc := 9) F dX9_fresh_9 rfl ?_
  refine z_if_eq (pc := 11) F 19 dX9_fresh_11 (by decide) (fun h7 => ?_) (fun h7 => ?_)
  · refine z_aload_n (pc := 19) F dX9_fresh_19 rfl ?_
    refine z_aload_n (pc := 20) F dX9_fresh_20 rfl ?_
    refine z_iload_n (pc := 21) F dX9_fresh_21 rfl ?_
    refine z_callVi (pc := 22) (st := [.ref (zad K 21 0)]) F 21 0 [.int a1] cl_RX9_150 (tX9_placeOf (zln K) s1 a1) rfl (by decide) (fun _ => ⟨_, rfl⟩) rfl (by rw [hR]; exact ⟨rfl, rfl, Nat.le_of_ble_eq_true rfl, Nat.le_of_ble_eq_true rfl⟩) rfl rfl (Nat.le_of_ble_eq_true rfl) dX9_fresh_22 (fun x4 s3 => ?_)
    refine z_iload_n (pc := 25) F dX9_fresh_25 rfl ?_
    refine z_iload_n (pc := 26) F dX9_fresh_26 rfl ?_
    refine z_callVi (pc := 27) (st := []) F 21 0 [.int x4, .int a2, .int a3] cl_RX9_186 (tX9_freshOf (zln K) s3 x4 a2 a3) rfl (by decide) (fun _ => ⟨_, rfl⟩) rfl (by rw [hR]; exact ⟨rfl, rfl, Nat.le_of_ble_eq_true rfl, Nat.le_of_ble_eq_true rfl⟩) rfl rfl (Nat.le_of_ble_eq_true rfl) dX9_fresh_27 (fun x6 s5 => ?_)
    exact z_iret (pc := 30) F E dX9_fresh_30
  · refine z_iload (pc := 14) F dX9_fresh_14 rfl ?_
    refine z_goto (pc := 16) F 30 dX9_fresh_16 (by decide) ?_
    exact z_iret (pc := 30) F E dX9_fresh_30
def fX9_isStation (a1 : Int32) (σ : zS) : Option (Int32 × zS) := zCi (fX9_within a1 (0 : Int32) (7 : Int32) σ) (fun x2 s1 => zGd (x2 = 0 ∨ x2 = 1) (some (x2, s1)))
abbrev rmX9_isStation : Room := { frames := 1, cells := 0, slots := 0, locals := 22 }
set_option maxRecDepth 100000 in
set_option maxHeartbeats 4000000 in
theorem tX9_isStation (l : Launch) (σ : zS) (a1 : Int32) : zMi l yX9_isStation cX9_isStation 1 (some .boolean) rmX9_isStation (fun _ => [.int a1]) σ (fX9_isStation a1 σ) := by
  refine zMi.of RX9 (by decide +kernel) rfl (fun _ => Nat.le_of_ble_eq_true rfl) (fun _ => zcat rfl) (fun K t F hR hL E => ?_)
  show ZO K t 0 [some (.int a1)] [] σ (zCi (fX9_within a1 (0 : Int32) (7 : Int32) σ) (fun x2 s1 => zGd (x2 = 0 ∨ x2 = 1) (some (x2, s1))))
  refine z_iload_n (pc := 0) F dX9_isStation_0 rfl ?_
  refine z_iconst (pc := 1) F (v := 0) dX9_isStation_1 (by decide) ?_
  refine z_bipush (pc := 2) F (v := 7) dX9_isStation_2 (by decide) ?_
  refine z_callSi (pc := 4) (st := []) F [.int a1, .int (0 : Int32), .int (7 : Int32)] cl_RX9_68 (tX9_within (zln K) σ a1 (0 : Int32) (7 : Int32)) rfl (by rw [hR]; exact ⟨rfl, rfl, Nat.le_of_ble_eq_true rfl, Nat.le_of_ble_eq_true rfl⟩) rfl rfl (Nat.le_of_ble_eq_true rfl) dX9_isStation_4 (fun x2 s1 => ?_)
  refine z_gd (fun h3 => ?_)
  exact z_zret (pc := 7) F E (zNarB h3) dX9_isStation_7
def fX9_has (a1 : Int32) (a2 : Int32) (a3 : Int32) (σ : zS) : Option (Int32 × zS) := zCi (fX9_isStation a1 σ) (fun x2 s1 => if x2 = 0 then some ((-1 : Int32), s1) else zCi (fX9_isLetter a2 s1) (fun x4 s3 => if x4 = 0 then some ((-1 : Int32), s3) else zCi (fX9_within a3 (0 : Int32) (1 : Int32) s3) (fun x6 s5 => if x6 = 0 then some ((-2 : Int32), s5) else zIx a1 8 (zB (((s5 23 0 a1.toNatClampNeg) >>> (a2 &&& 31)) &&& (1 : Int32)) (fun x8 => zIx a1 8 (zIx a1 8 (zB (zU s5 23 0 a1.toNatClampNeg (((s5 23 0 a1.toNatClampNeg) &&& (((1 : Int32) <<< (a2 &&& 31)) ^^^ (-1 : Int32))) ||| (a3 <<< (a2 &&& 31)))) (fun s11 => if a3 = (1 : Int32) then zCi (fX9_goes a2 a1 s11) (fun x13 s12 => some (x8, s12)) else some (x8, s11)))))))))
abbrev rmX9_has : Room := { frames := 2, cells := 0, slots := 0, locals := 43 }
set_option maxRecDepth 100000 in
set_option maxHeartbeats 4000000 in
theorem tX9_has (l : Launch) (σ : zS) (a1 : Int32) (a2 : Int32) (a3 : Int32) : zMi l yX9_has cX9_has 5 (some .int) rmX9_has (fun ad => [.ref (ad 21 0), .int a1, .int a2, .int a3]) σ (fX9_has a1 a2 a3 σ) := by
  refine zMi.of RX9 (by decide +kernel) rfl (fun _ => Nat.le_of_ble_eq_true rfl) (fun _ => zcat rfl) (fun K t F hR hL E => ?_)
  show ZO K t 0 [some (.ref (zad K 21 0)), some (.int a1), some (.int a2), some (.int a3), none] [] σ (zCi (fX9_isStation a1 σ) (fun x2 s1 => if x2 = 0 then some ((-1 : Int32), s1) else zCi (fX9_isLetter a2 s1) (fun x4 s3 => if x4 = 0 then some ((-1 : Int32), s3) else zCi (fX9_within a3 (0 : Int32) (1 : Int32) s3) (fun x6 s5 => if x6 = 0 then some ((-2 : Int32), s5) else zIx a1 8 (zB (((s5 23 0 a1.toNatClampNeg) >>> (a2 &&& 31)) &&& (1 : Int32)) (fun x8 => zIx a1 8 (zIx a1 8 (zB (zU s5 23 0 a1.toNatClampNeg (((s5 23 0 a1.toNatClampNeg) &&& (((1 : Int32) <<< (a2 &&& 31)) ^^^ (-1 : Int32))) ||| (a3 <<< (a2 &&& 31)))) (fun s11 => if a3 = (1 : Int32) then zCi (fX9_goes a2 a1 s11) (fun x13 s12 => some (x8, s12)) else some (x8, s11))))))))))
  refine z_iload_n (pc := 0) F dX9_has_0 rfl ?_
  refine z_callSi (pc := 1) (st := []) F [.int a1] cl_RX9_90 (tX9_isStation (zln K) σ a1) rfl (by rw [hR]; exact ⟨rfl, rfl, Nat.le_of_ble_eq_true rfl, Nat.le_of_ble_eq_true rfl⟩) rfl rfl (Nat.le_of_ble_eq_true rfl) dX9_has_1 (fun x2 s1 => ?_)
  refine z_if_eq (pc := 4) F 15 dX9_has_4 (by decide) (fun h17 => ?_) (fun h17 => ?_)
  · refine z_iconst (pc := 15) F (v := -1) dX9_has_15 (by decide) ?_
    exact z_iret (pc := 16) F E dX9_has_16
  · refine z_aload_n (pc := 7) F dX9_has_7 rfl ?_
    refine z_iload_n (pc := 8) F dX9_has_8 rfl ?_
    refine z_callVi (pc := 9) (st := []) F 21 0 [.int a2] cl_RX9_82 (tX9_isLetter (zln K) s1 a2) rfl (by decide) (fun _ => ⟨_, rfl⟩) rfl (by rw [hR]; exact ⟨rfl, rfl, Nat.le_of_ble_eq_true rfl, Nat.le_of_ble_eq_true rfl⟩) rfl rfl (Nat.le_of_ble_eq_true rfl) dX9_has_9 (fun x4 s3 => ?_)
    refine z_if_ne (pc := 12) F 17 dX9_has_12 (by decide) (fun h16 => ?_) (fun h16 => ?_)
    · refine z_iload_n (pc := 17) F dX9_has_17 rfl ?_
      refine z_iconst (pc := 18) F (v := 0) dX9_has_18 (by decide) ?_
      refine z_iconst (pc := 19) F (v := 1) dX9_has_19 (by decide) ?_
      refine z_callSi (pc := 20) (st := []) F [.int a3, .int (0 : Int32), .int (1 : Int32)] cl_RX9_68 (tX9_within (zln K) s3 a3 (0 : Int32) (1 : Int32)) rfl (by rw [hR]; exact ⟨rfl, rfl, Nat.le_of_ble_eq_true rfl, Nat.le_of_ble_eq_true rfl⟩) rfl rfl (Nat.le_of_ble_eq_true rfl) dX9_has_20 (fun x6 s5 => ?_)
      refine z_if_ne (pc := 23) F 29 dX9_has_23 (by decide) (fun h15 => ?_) (fun h15 => ?_)
      · refine z_aload_n (pc := 29) F dX9_has_29 rfl ?_
        refine z_get (pc := 30) F 21 0 2 (v := .ref (zad K 23 0)) (by decide) (fun _ => rfl) rfl (by decide) inlX9 lk_RX9_13 rfl dX9_has_30 ?_
        refine z_iload_n (pc := 33) F dX9_has_33 rfl ?_
        refine z_ix (fun h7 => ?_)
        refine z_iald (pc := 34) F 23 0 (by decide) (fun _ => rfl) h7 dX9_has_34 ?_
        refine z_iload_n (pc := 35) F dX9_has_35 rfl ?_
        refine z_ishr (pc := 36) F dX9_has_36 ?_
        refine z_iconst (pc := 37) F (v := 1) dX9_has_37 (by decide) ?_
        refine z_iand (pc := 38) F dX9_has_38 ?_
        refine z_Bi (fun x8 => ?_)
        refine z_istore (pc := 39) F (lv' := [some (.ref (zad K 21 0)), some (.int a1), some (.int a2), some (.int a3), some (.int x8)]) dX9_has_39 (zlt rfl) rfl ?_
        refine z_aload_n (pc := 41) F dX9_has_41 rfl ?_
        refine z_get (pc := 42) F 21 0 2 (v := .ref (zad K 23 0)) (by decide) (fun _ => rfl) rfl (by decide) inlX9 lk_RX9_13 rfl dX9_has_42 ?_
        refine z_iload_n (pc := 45) F dX9_has_45 rfl ?_
        refine z_aload_n (pc := 46) F dX9_has_46 rfl ?_
        refine z_get (pc := 47) F 21 0 2 (v := .ref (zad K 23 0)) (by decide) (fun _ => rfl) rfl (by decide) inlX9 lk_RX9_13 rfl dX9_has_47 ?_
        refine z_iload_n (pc := 50) F dX9_has_50 rfl ?_
        refine z_ix (fun h9 => ?_)
        refine z_iald (pc := 51) F 23 0 (by decide) (fun _ => rfl) h9 dX9_has_51 ?_
        refine z_iconst (pc := 52) F (v := 1) dX9_has_52 (by decide) ?_
        refine z_iload_n (pc := 53) F dX9_has_53 rfl ?_
        refine z_ishl (pc := 54) F dX9_has_54 ?_
        refine z_iconst (pc := 55) F (v := -1) dX9_has_55 (by decide) ?_
        refine z_ixor (pc := 56) F dX9_has_56 ?_
        refine z_iand (pc := 57) F dX9_has_57 ?_
        refine z_iload_n (pc := 58) F dX9_has_58 rfl ?_
        refine z_iload_n (pc := 59) F dX9_has_59 rfl ?_
        refine z_ishl (pc := 60) F dX9_has_60 ?_
        refine z_ior (pc := 61) F dX9_has_61 ?_
        refine z_ix (fun h10 => ?_)
        refine z_iast (pc := 62) F 23 0 (by decide) (fun _ _ => rfl) h10 dX9_has_62 (fun s11 => ?_)
        refine z_iload_n (pc := 63) F dX9_has_63 rfl ?_
        refine z_iconst (pc := 64) F (v := 1) dX9_has_64 (by decide) ?_
        refine z_icmp_ne (pc := 65) F 75 dX9_has_65 (by decide) (fun h14 => ?_) (fun h14 => ?_)
        · refine z_iload (pc := 75) F dX9_has_75 rfl ?_
          exact z_iret (pc := 77) F E dX9_has_77
        · refine z_aload_n (pc := 68) F dX9_has_68 rfl ?_
          refine z_iload_n (pc := 69) F dX9_has_69 rfl ?_
          refine z_iload_n (pc := 70) F dX9_has_70 rfl ?_
          refine z_callVi (pc := 71) (st := []) F 21 0 [.int a2, .int a1] cl_RX9_86 (tX9_goes (zln K) s11 a2 a1) rfl (by decide) (fun _ => ⟨_, rfl⟩) rfl (by rw [hR]; exact ⟨rfl, rfl, Nat.le_of_ble_eq_true rfl, Nat.le_of_ble_eq_true rfl⟩) rfl rfl (Nat.le_of_ble_eq_true rfl) dX9_has_71 (fun x13 s12 => ?_)
          refine z_pop (pc := 74) F dX9_has_74 rfl ?_
          refine z_iload (pc := 75) F dX9_has_75 rfl ?_
          exact z_iret (pc := 77) F E dX9_has_77
      · refine z_bipush (pc := 26) F (v := -2) dX9_has_26 (by decide) ?_
        exact z_iret (pc := 28) F E dX9_has_28
    · refine z_iconst (pc := 15) F (v := -1) dX9_has_15 (by decide) ?_
      exact z_iret (pc := 16) F E dX9_has_16
def fX9_having (a1 : Int32) (σ : zS) : Option (Int32 × zS) := zCi (fX9_isStation a1 σ) (fun x2 s1 => if x2 = 0 then some ((-1 : Int32), s1) else zIx a1 8 (some (s1 23 0 a1.toNatClampNeg, s1)))
abbrev rmX9_having : Room := { frames := 2, cells := 0, slots := 0, locals := 42 }
set_option maxRecDepth 100000 in
set_option maxHeartbeats 4000000 in
theorem tX9_having (l : Launch) (σ : zS) (a1 : Int32) : zMi l yX9_having cX9_having 2 (some .int) rmX9_having (fun ad => [.ref (ad 21 0), .int a1]) σ (fX9_having a1 σ) := by
  refine zMi.of RX9 (by decide +kernel) rfl (fun _ => Nat.le_of_ble_eq_true rfl) (fun _ => zcat rfl) (fun K t F hR hL E => ?_)
  show ZO K t 0 [some (.ref (zad K 21 0)), some (.int a1)] [] σ (zCi (fX9_isStation a1 σ) (fun x2 s1 => if x2 = 0 then some ((-1 : Int32), s1) else zIx a1 8 (some (s1 23 0 a1.toNatClampNeg, s1))))
  refine z_iload_n (pc := 0) F dX9_having_0 rfl ?_
  refine z_callSi (pc := 1) (st := []) F [.int a1] cl_RX9_90 (tX9_isStation (zln K) σ a1) rfl (by rw [hR]; exact ⟨rfl, rfl, Nat.le_of_ble_eq_true rfl, Nat.le_of_ble_eq_true rfl⟩) rfl rfl (Nat.le_of_ble_eq_true rfl) dX9_having_1 (fun x2 s1 => ?_)
  refine z_if_eq (pc := 4) F 16 dX9_having_4 (by decide) (fun h4 => ?_) (fun h4 => ?_)
  · refine z_iconst (pc := 16) F (v := -1) dX9_having_16 (by decide) ?_
    exact z_iret (pc := 17) F E dX9_having_17
  · refine z_aload_n (pc := 7) F dX9_having_7 rfl ?_
    refine z_get (pc := 8) F 21 0 2 (v := .ref (zad K 23 0)) (by decide) (fun _ => rfl) rfl (by decide) inlX9 lk_RX9_13 rfl dX9_having_8 ?_
    refine z_iload_n (pc := 11) F dX9_having_11 rfl ?_
    refine z_ix (fun h3 => ?_)
    refine z_iald (pc := 12) F 23 0 (by decide) (fun _ => rfl) h3 dX9_having_12 ?_
    refine z_goto (pc := 13) F 17 dX9_having_13 (by decide) ?_
    exact z_iret (pc := 17) F E dX9_having_17
def fX9_isDone_4 (a1 : Int32) (k4_1 : Int32 → zS → Option (Int32 × zS)) : Nat → Int32 → Int32 → zS → Option (Int32 × zS)
  | 0, _, _, _ => none
  | (n4_1 + 1), v2_4_1, v3_4_1, w4_1 => if (4 : Int32) ≤ v3_4_1 then k4_1 v2_4_1 w4_1 else if v2_4_1 = 0 then zB (v3_4_1 + 1) (fun x3 => fX9_isDone_4 a1 k4_1 n4_1 (0 : Int32) x3 w4_1) else zCi (fX9_rankOf a1 v3_4_1 w4_1) (fun x5 s4 => zIx a1 3 (if x5 = (s4 28 0 a1.toNatClampNeg) then zB (v3_4_1 + 1) (fun x8 => fX9_isDone_4 a1 k4_1 n4_1 (1 : Int32) x8 s4) else zB (v3_4_1 + 1) (fun x7 => fX9_isDone_4 a1 k4_1 n4_1 (0 : Int32) x7 s4)))
def fX9_isDone (a1 : Int32) (σ : zS) : Option (Int32 × zS) := fX9_isDone_4 a1 (fun (u2_4_1 : Int32) (y4_1 : zS) => (zGd (u2_4_1 = 0 ∨ u2_4_1 = 1) (some (u2_4_1, y4_1)) : Option (Int32 × zS))) zN (1 : Int32) (0 : Int32) σ
abbrev rmX9_isDone : Room := { frames := 1, cells := 0, slots := 0, locals := 22 }
set_option maxRecDepth 100000 in
set_option maxHeartbeats 4000000 in
theorem tX9_isDone (l : Launch) (σ : zS) (a1 : Int32) : zMi l yX9_isDone cX9_isDone 4 (some .boolean) rmX9_isDone (fun ad => [.ref (ad 21 0), .int a1]) σ (fX9_isDone a1 σ) := by
  refine zMi.of RX9 (by decide +kernel) rfl (fun _ => Nat.le_of_ble_eq_true rfl) (fun _ => zcat rfl) (fun K t F hR hL E => ?_)
  show ZO K t 0 [some (.ref (zad K 21 0)), some (.int a1), none, none] [] σ (fX9_isDone_4 a1 (fun (u2_4_1 : Int32) (y4_1 : zS) => (zGd (u2_4_1 = 0 ∨ u2_4_1 = 1) (some (u2_4_1, y4_1)) : Option (Int32 × zS))) zN (1 : Int32) (0 : Int32) σ)
  refine z_iconst (pc := 0) F (v := 1) dX9_isDone_0 (by decide) ?_
  refine z_istore_n (pc := 1) F (lv' := [some (.ref (zad K 21 0)), some (.int a1), some (.int (1 : Int32)), none]) dX9_isDone_1 (zlt rfl) rfl ?_
  refine z_iconst (pc := 2) F (v := 0) dX9_isDone_2 (by decide) ?_
  refine z_istore_n (pc := 3) F (lv' := [some (.ref (zad K 21 0)), some (.int a1), some (.int (1 : Int32)), some (.int (0 : Int32))]) dX9_isDone_3 (zlt rfl) rfl ?_
  have hk4_1 : ∀ (u2_4_1 : Int32) (y4_1 : zS), ZO K t 40 [none, none, some (.int u2_4_1), none] [] y4_1 ((fun (u2_4_1 : Int32) (y4_1 : zS) => (zGd (u2_4_1 = 0 ∨ u2_4_1 = 1) (some (u2_4_1, y4_1)) : Option (Int32 × zS))) u2_4_1 y4_1) := by
    intro u2_4_1 y4_1
    show ZO K t 40 [none, none, some (.int u2_4_1), none] [] y4_1 (zGd (u2_4_1 = 0 ∨ u2_4_1 = 1) (some (u2_4_1, y4_1)))
    refine z_iload_n (pc := 40) F dX9_isDone_40 rfl ?_
    refine z_gd (fun h2 => ?_)
    exact z_zret (pc := 41) F E (zNarB h2) dX9_isDone_41
  have L4_1 : ∀ (n4_1 : Nat) (v2_4_1 : Int32) (v3_4_1 : Int32) (w4_1 : zS), ZO K t 4 [some (.ref (zad K 21 0)), some (.int a1), some (.int v2_4_1), some (.int v3_4_1)] [] w4_1 (fX9_isDone_4 a1 (fun (u2_4_1 : Int32) (y4_1 : zS) => (zGd (u2_4_1 = 0 ∨ u2_4_1 = 1) (some (u2_4_1, y4_1)) : Option (Int32 × zS))) n4_1 v2_4_1 v3_4_1 w4_1) := by
    revert hk4_1; generalize (fun (u2_4_1 : Int32) (y4_1 : zS) => (zGd (u2_4_1 = 0 ∨ u2_4_1 = 1) (some (u2_4_1, y4_1)) : Option (Int32 × zS))) = k4_1; intro hk4_1
    intro n4_1
    induction n4_1 with
    | zero => intro v2_4_1 v3_4_1 w4_1; exact z_none
    | succ n4_1 ih4_1 =>
      intro v2_4_1 v3_4_1 w4_1
      show ZO K t 4 [some (.ref (zad K 21 0)), some (.int a1), some (.int v2_4_1), some (.int v3_4_1)] [] w4_1 (if (4 : Int32) ≤ v3_4_1 then k4_1 v2_4_1 w4_1 else if v2_4_1 = 0 then zB (v3_4_1 + 1) (fun x3 => fX9_isDone_4 a1 k4_1 n4_1 (0 : Int32) x3 w4_1) else zCi (fX9_rankOf a1 v3_4_1 w4_1) (fun x5 s4 => zIx a1 3 (if x5 = (s4 28 0 a1.toNatClampNeg) then zB (v3_4_1 + 1) (fun x8 => fX9_isDone_4 a1 k4_1 n4_1 (1 : Int32) x8 s4) else zB (v3_4_1 + 1) (fun x7 => fX9_isDone_4 a1 k4_1 n4_1 (0 : Int32) x7 s4))))
      refine z_iload_n (pc := 4) F dX9_isDone_4 rfl ?_
      refine z_iconst (pc := 5) F (v := 4) dX9_isDone_5 (by decide) ?_
      refine z_icmp_ge (pc := 6) F 40 dX9_isDone_6 (by decide) (fun h11 => ?_) (fun h11 => ?_)
      · refine z_wk [false, false, true, false] (lv' := [none, none, some (.int v2_4_1), none]) rfl ?_
        exact hk4_1 v2_4_1 w4_1
      · refine z_iload_n (pc := 9) F dX9_isDone_9 rfl ?_
        refine z_if_eq (pc := 10) F 32 dX9_isDone_10 (by decide) (fun h10 => ?_) (fun h10 => ?_)
        · refine z_iconst (pc := 32) F (v := 0) dX9_isDone_32 (by decide) ?_
          refine z_istore_n (pc := 33) F (lv' := [some (.ref (zad K 21 0)), some (.int a1), some (.int (0 : Int32)), some (.int v3_4_1)]) dX9_isDone_33 (zlt rfl) rfl ?_
          refine z_iincB (pc := 34) F (lv' := fun x3 => [some (.ref (zad K 21 0)), some (.int a1), some (.int (0 : Int32)), some (.int x3)]) dX9_isDone_34 rfl rfl (fun _ => rfl) (fun x3 => ?_)
          refine z_goto (pc := 37) F 4 dX9_isDone_37 (by decide) ?_
          exact ih4_1 (0 : Int32) x3 w4_1
        · refine z_aload_n (pc := 13) F dX9_isDone_13 rfl ?_
          refine z_iload_n (pc := 14) F dX9_isDone_14 rfl ?_
          refine z_iload_n (pc := 15) F dX9_isDone_15 rfl ?_
          refine z_callVi (pc := 16) (st := []) F 21 0 [.int a1, .int v3_4_1] cl_RX9_156 (tX9_rankOf (zln K) w4_1 a1 v3_4_1) rfl (by decide) (fun _ => ⟨_, rfl⟩) rfl (by rw [hR]; exact ⟨rfl, rfl, Nat.le_of_ble_eq_true rfl, Nat.le_of_ble_eq_true rfl⟩) rfl rfl (Nat.le_of_ble_eq_true rfl) dX9_isDone_16 (fun x5 s4 => ?_)
          refine z_aload_n (pc := 19) F dX9_isDone_19 rfl ?_
          refine z_get (pc := 20) F 21 0 16 (v := .ref (zad K 28 0)) (by decide) (fun _ => rfl) rfl (by decide) inlX9 lk_RX9_38 rfl dX9_isDone_20 ?_
          refine z_iload_n (pc := 23) F dX9_isDone_23 rfl ?_
          refine z_ix (fun h6 => ?_)
          refine z_iald (pc := 24) F 28 0 (by decide) (fun _ => rfl) h6 dX9_isDone_24 ?_
          refine z_icmp_ne (pc := 25) F 32 dX9_isDone_25 (by decide) (fun h9 => ?_) (fun h9 => ?_)
          · refine z_iconst (pc := 32) F (v := 0) dX9_isDone_32 (by decide) ?_
            refine z_istore_n (pc := 33) F (lv' := [some (.ref (zad K 21 0)), some (.int a1), some (.int (0 : Int32)), some (.int v3_4_1)]) dX9_isDone_33 (zlt rfl) rfl ?_
            refine z_iincB (pc := 34) F (lv' := fun x7 => [some (.ref (zad K 21 0)), some (.int a1), some (.int (0 : Int32)), some (.int x7)]) dX9_isDone_34 rfl rfl (fun _ => rfl) (fun x7 => ?_)
            refine z_goto (pc := 37) F 4 dX9_isDone_37 (by decide) ?_
            exact ih4_1 (0 : Int32) x7 s4
          · refine z_iconst (pc := 28) F (v := 1) dX9_isDone_28 (by decide) ?_
            refine z_goto (pc := 29) F 33 dX9_isDone_29 (by decide) ?_
            refine z_istore_n (pc := 33) F (lv' := [some (.ref (zad K 21 0)), some (.int a1), some (.int (1 : Int32)), some (.int v3_4_1)]) dX9_isDone_33 (zlt rfl) rfl ?_
            refine z_iincB (pc := 34) F (lv' := fun x8 => [some (.ref (zad K 21 0)), some (.int a1), some (.int (1 : Int32)), some (.int x8)]) dX9_isDone_34 rfl rfl (fun _ => rfl) (fun x8 => ?_)
            refine z_goto (pc := 37) F 4 dX9_isDone_37 (by decide) ?_
            exact ih4_1 (1 : Int32) x8 s4
  exact L4_1 zN (1 : Int32) (0 : Int32) σ
