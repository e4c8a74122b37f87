def fX9_rank (a1 : Int32) (a2 : Int32) (σ : zS) : Option (Int32 × zS) := zCi (fX9_placeOf a1 σ) (fun x2 s1 => if x2 = (-9 : Int32) then some ((-1 : Int32), s1) else zCi (fX9_isNode a2 s1) (fun x4 s3 => if x4 = 0 then some ((-1 : Int32), s3) else zCi (fX9_rankOf x2 a2 s3) (fun x6 s5 => some (x6, s5))))
abbrev rmX9_rank : Room := { frames := 2, cells := 0, slots := 0, locals := 42 }
set_option maxRecDepth 100000 in
set_option maxHeartbeats 4000000 in
theorem tX9_rank (l : Launch) (σ : zS) (a1 : Int32) (a2 : Int32) : zMi l yX9_rank cX9_rank 4 (some .int) rmX9_rank (fun ad => [.ref (ad 21 0), .int a1, .int a2]) σ (fX9_rank a1 a2 σ) := by
  refine zMi.of RX9 (by decide +kernel) rfl (fun _ => Nat.le_of_ble_eq_true rfl) (fun _ => zcat rfl) (fun K t F hR hL E => ?_)
  show ZO K t 0 [some (.ref (zad K 21 0)), some (.int a1), some (.int a2), none] [] σ (zCi (fX9_placeOf a1 σ) (fun x2 s1 => if x2 = (-9 : Int32) then some ((-1 : Int32), s1) else zCi (fX9_isNode a2 s1) (fun x4 s3 => if x4 = 0 then some ((-1 : Int32), s3) else zCi (fX9_rankOf x2 a2 s3) (fun x6 s5 => some (x6, s5)))))
  refine z_aload_n (pc := 0) F dX9_rank_0 rfl ?_
  refine z_iload_n (pc := 1) F dX9_rank_1 rfl ?_
  refine z_callVi (pc := 2) (st := []) F 21 0 [.int a1] cl_RX9_150 (tX9_placeOf (zln K) σ a1) rfl (by decide) (fun _ => ⟨_, rfl⟩) rfl (by rw [hR]; exact ⟨rfl, rfl, Nat.le_of_ble_eq_true rfl, Nat.le_of_ble_eq_true rfl⟩) rfl rfl (Nat.le_of_ble_eq_true rfl) dX9_rank_2 (fun x2 s1 => ?_)
  refine z_istore_n (pc := 5) F (lv' := [some (.ref (zad K 21 0)), some (.int a1), some (.int a2), some (.int x2)]) dX9_rank_5 (zlt rfl) rfl ?_
  refine z_iload_n (pc := 6) F dX9_rank_6 rfl ?_
  refine z_bipush (pc := 7) F (v := -9) dX9_rank_7 (by decide) ?_
  refine z_icmp_eq (pc := 9) F 19 dX9_rank_9 (by decide) (fun h8 => ?_) (fun h8 => ?_)
  · refine z_iconst (pc := 19) F (v := -1) dX9_rank_19 (by decide) ?_
    refine z_goto (pc := 20) F 29 dX9_rank_20 (by decide) ?_
    exact z_iret (pc := 29) F E dX9_rank_29
  · refine z_iload_n (pc := 12) F dX9_rank_12 rfl ?_
    refine z_callSi (pc := 13) (st := []) F [.int a2] cl_RX9_153 (tX9_isNode (zln K) s1 a2) rfl (by rw [hR]; exact ⟨rfl, rfl, Nat.le_of_ble_eq_true rfl, Nat.le_of_ble_eq_true rfl⟩) rfl rfl (Nat.le_of_ble_eq_true rfl) dX9_rank_13 (fun x4 s3 => ?_)
    refine z_if_ne (pc := 16) F 23 dX9_rank_16 (by decide) (fun h7 => ?_) (fun h7 => ?_)
    · refine z_aload_n (pc := 23) F dX9_rank_23 rfl ?_
      refine z_iload_n (pc := 24) F dX9_rank_24 rfl ?_
      refine z_iload_n (pc := 25) F dX9_rank_25 rfl ?_
      refine z_callVi (pc := 26) (st := []) F 21 0 [.int x2, .int a2] cl_RX9_156 (tX9_rankOf (zln K) s3 x2 a2) rfl (by decide) (fun _ => ⟨_, rfl⟩) rfl (by rw [hR]; exact ⟨rfl, rfl, Nat.le_of_ble_eq_true rfl, Nat.le_of_ble_eq_true rfl⟩) rfl rfl (Nat.le_of_ble_eq_true rfl) dX9_rank_26 (fun x6 s5 => ?_)
      exact z_iret (pc := 29) F E dX9_rank_29
    · refine z_iconst (pc := 19) F (v := -1) dX9_rank_19 (by decide) ?_
      refine z_goto (pc := 20) F 29 dX9_rank_20 (by decide) ?_
      exact z_iret (pc := 29) F E dX9_rank_29
def fX9_read_56 (a2 : Int32) (a3 : Int32) (a4 : Int32) (x2 : Int32) (k56_10 : zS → Option (Int32 × zS)) : Nat → Int32 → zS → Option (Int32 × zS)
  | 0, _, _ => none
  | (n56_10 + 1), v6_56_10, w56_10 => zCi (fX9_rankOf x2 a2 w56_10) (fun x12 s11 => if x12 ≤ v6_56_10 then k56_10 s11 else zCi (fX9_at x2 a2 v6_56_10 s11) (fun x14 s13 => zCi (fX9_isPlain x2 x14 a3 s13) (fun x16 s15 => if x16 = 0 then zB (v6_56_10 + 1) (fun x17 => fX9_read_56 a2 a3 a4 x2 k56_10 n56_10 x17 s15) else zCi (fX9_at x2 a2 v6_56_10 s15) (fun x19 s18 => zIx x2 3 (zIx ((x19 + (s18 28 0 x2.toNatClampNeg)) + a4) 480 (some (s18 30 0 ((x19 + (s18 28 0 x2.toNatClampNeg)) + a4).toNatClampNeg, s18)))))))
def fX9_read (a1 : Int32) (a2 : Int32) (a3 : Int32) (a4 : Int32) (σ : zS) : Option (Int32 × zS) := zCi (fX9_placeOf a1 σ) (fun x2 s1 => if x2 = (-9 : Int32) then some ((-1 : Int32), s1) else zCi (fX9_isNode a2 s1) (fun x4 s3 => if x4 = 0 then some ((-1 : Int32), s3) else zIx x2 3 (zCi (fX9_within a3 (0 : Int32) ((s3 28 0 x2.toNatClampNeg) - (1 : Int32)) s3) (fun x7 s6 => if x7 = 0 then some ((-2 : Int32), s6) else zCi (fX9_within a4 (0 : Int32) (2 : Int32) s6) (fun x9 s8 => if x9 = 0 then some ((-2 : Int32), s8) else fX9_read_56 a2 a3 a4 x2 (fun (y56_10 : zS) => (some ((-9 : Int32), y56_10) : Option (Int32 × zS))) zN (0 : Int32) s8)))))
abbrev rmX9_read : Room := { frames := 2, cells := 0, slots := 0, locals := 42 }
set_option maxRecDepth 100000 in
set_option maxHeartbeats 4000000 in
theorem tX9_read (l : Launch) (σ : zS) (a1 : Int32) (a2 : Int32) (a3 : Int32) (a4 : Int32) : zMi l yX9_read cX9_read 7 (some .int) rmX9_read (fun ad => [.ref (ad 21 0), .int a1, .int a2, .int a3, .int a4]) σ (fX9_read a1 a2 a3 a4 σ) := by
  refine zMi.of RX9 (by decide +kernel) rfl (fun _ => Nat.le_of_ble_eq_true rfl) (fun _ => zcat rfl) (fun K t F hR hL E => ?_)
  show ZO K t 0 [some (.ref (zad K 21 0)), some (.int a1), some (.int a2), some (.int a3), some (.int a4), none, none] [] σ (zCi (fX9_placeOf a1 σ) (fun x2 s1 => if x2 = (-9 : Int32) then some ((-1 : Int32), s1) else zCi (fX9_isNode a2 s1) (fun x4 s3 => if x4 = 0 then some ((-1 : Int32), s3) else zIx x2 3 (zCi (fX9_within a3 (0 : Int32) ((s3 28 0 x2.toNatClampNeg) - (1 : Int32)) s3) (fun x7 s6 => if x7 = 0 then some ((-2 : Int32), s6) else zCi (fX9_within a4 (0 : Int32) (2 : Int32) s6) (fun x9 s8 => if x9 = 0 then some ((-2 : Int32), s8) else fX9_read_56 a2 a3 a4 x2 (fun (y56_10 : zS) => (some ((-9 : Int32), y56_10) : Option (Int32 × zS))) zN (0 : Int32) s8))))))
  refine z_aload_n (pc := 0) F dX9_read_0 rfl ?_
  refine z_iload_n (pc := 1) F dX9_read_1 rfl ?_
  refine z_callVi (pc := 2) (st := []) F 21 0 [.int a1] cl_RX9_150 (tX9_placeOf (zln K) σ a1) rfl (by decide) (fun _ => ⟨_, rfl⟩) rfl (by rw [hR]; exact ⟨rfl, rfl, Nat.le_of_ble_eq_true rfl, Nat.le_of_ble_eq_true rfl⟩) rfl rfl (Nat.le_of_ble_eq_true rfl) dX9_read_2 (fun x2 s1 => ?_)
  refine z_istore (pc := 5) F (lv' := [some (.ref (zad K 21 0)), some (.int a1), some (.int a2), some (.int a3), some (.int a4), some (.int x2), none]) dX9_read_5 (zlt rfl) rfl ?_
  refine z_iload (pc := 7) F dX9_read_7 rfl ?_
  refine z_bipush (pc := 9) F (v := -9) dX9_read_9 (by decide) ?_
  refine z_icmp_eq (pc := 11) F 21 dX9_read_11 (by decide) (fun h27 => ?_) (fun h27 => ?_)
  · refine z_iconst (pc := 21) F (v := -1) dX9_read_21 (by decide) ?_
    exact z_iret (pc := 22) F E dX9_read_22
  · refine z_iload_n (pc := 14) F dX9_read_14 rfl ?_
    refine z_callSi (pc := 15) (st := []) F [.int a2] cl_RX9_153 (tX9_isNode (zln K) s1 a2) rfl (by rw [hR]; exact ⟨rfl, rfl, Nat.le_of_ble_eq_true rfl, Nat.le_of_ble_eq_true rfl⟩) rfl rfl (Nat.le_of_ble_eq_true rfl) dX9_read_15 (fun x4 s3 => ?_)
    refine z_if_ne (pc := 18) F 23 dX9_read_18 (by decide) (fun h26 => ?_) (fun h26 => ?_)
    · refine z_iload_n (pc := 23) F dX9_read_23 rfl ?_
      refine z_iconst (pc := 24) F (v := 0) dX9_read_24 (by decide) ?_
      refine z_aload_n (pc := 25) F dX9_read_25 rfl ?_
      refine z_get (pc := 26) F 21 0 16 (v := .ref (zad K 28 0)) (by decide) (fun _ => rfl) rfl (by decide) inlX9 lk_RX9_38 rfl dX9_read_26 ?_
      refine z_iload (pc := 29) F dX9_read_29 rfl ?_
      refine z_ix (fun h5 => ?_)
      refine z_iald (pc := 31) F 28 0 (by decide) (fun _ => rfl) h5 dX9_read_31 ?_
      refine z_iconst (pc := 32) F (v := 1) dX9_read_32 (by decide) ?_
      refine z_isub (pc := 33) F dX9_read_33 ?_
      refine z_callSi (pc := 34) (st := []) F [.int a3, .int (0 : Int32), .int ((s3 28 0 x2.toNatClampNeg) - (1 : Int32))] cl_RX9_68 (tX9_within (zln K) s3 a3 (0 : Int32) ((s3 28 0 x2.toNatClampNeg) - (1 : Int32))) rfl (by rw [hR]; exact ⟨rfl, rfl, Nat.le_of_ble_eq_true rfl, Nat.le_of_ble_eq_true rfl⟩) rfl rfl (Nat.le_of_ble_eq_true rfl) dX9_read_34 (fun x7 s6 => ?_)
      refine z_if_eq (pc := 37) F 50 dX9_read_37 (by decide) (fun h25 => ?_) (fun h25 => ?_)
      · refine z_bipush (pc := 50) F (v := -2) dX9_read_50 (by decide) ?_
        exact z_iret (pc := 52) F E dX9_read_52
      · refine z_iload (pc := 40) F dX9_read_40 rfl ?_
        refine z_iconst (pc := 42) F (v := 0) dX9_read_42 (by decide) ?_
        refine z_iconst (pc := 43) F (v := 2) dX9_read_43 (by decide) ?_
        refine z_callSi (pc := 44) (st := []) F [.int a4, .int (0 : Int32), .int (2 : Int32)] cl_RX9_68 (tX9_within (zln K) s6 a4 (0 : Int32) (2 : Int32)) rfl (by rw [hR]; exact ⟨rfl, rfl, Nat.le_of_ble_eq_true rfl, Nat.le_of_ble_eq_true rfl⟩) rfl rfl (Nat.le_of_ble_eq_true rfl) dX9_read_44 (fun x9 s8 => ?_)
        refine z_if_ne (pc := 47) F 53 dX9_read_47 (by decide) (fun h24 => ?_) (fun h24 => ?_)
        · refine z_iconst (pc := 53) F (v := 0) dX9_read_53 (by decide) ?_
          refine z_istore (pc := 54) F (lv' := [some (.ref (zad K 21 0)), some (.int a1), some (.int a2), some (.int a3), some (.int a4), some (.int x2), some (.int (0 : Int32))]) dX9_read_54 (zlt rfl) rfl ?_
          refine z_wk [true, false, true, true, true, true, true] (lv' := [some (.ref (zad K 21 0)), none, some (.int a2), some (.int a3), some (.int a4), some (.int x2), some (.int (0 : Int32))]) rfl ?_
          have hk56_10 : ∀ (y56_10 : zS), ZO K t 117 [none, none, none, none, none, none, none] [] y56_10 ((fun (y56_10 : zS) => (some ((-9 : Int32), y56_10) : Option (Int32 × zS))) y56_10) := by
            intro y56_10
            show ZO K t 117 [none, none, none, none, none, none, none] [] y56_10 (some ((-9 : Int32), y56_10))
            refine z_bipush (pc := 117) F (v := -9) dX9_read_117 (by decide) ?_
            exact z_iret (pc := 119) F E dX9_read_119
          have L56_10 : ∀ (n56_10 : Nat) (v6_56_10 : Int32) (w56_10 : zS), ZO K t 56 [some (.ref (zad K 21 0)), none, some (.int a2), some (.int a3), some (.int a4), some (.int x2), some (.int v6_56_10)] [] w56_10 (fX9_read_56 a2 a3 a4 x2 (fun (y56_10 : zS) => (some ((-9 : Int32), y56_10) : Option (Int32 × zS))) n56_10 v6_56_10 w56_10) := by
            revert hk56_10; generalize (fun (y56_10 : zS) => (some ((-9 : Int32), y56_10) : Option (Int32 × zS))) = k56_10; intro hk56_10
            intro n56_10
            induction n56_10 with
            | zero => intro v6_56_10 w56_10; exact z_none
            | succ n56_10 ih56_10 =>
              intro v6_56_10 w56_10
              show ZO K t 56 [some (.ref (zad K 21 0)), none, some (.int a2), some (.int a3), some (.int a4), some (.int x2), some (.int v6_56_10)] [] w56_10 (zCi (fX9_rankOf x2 a2 w56_10) (fun x12 s11 => if x12 ≤ v6_56_10 then k56_10 s11 else zCi (fX9_at x2 a2 v6_56_10 s11) (fun x14 s13 => zCi (fX9_isPlain x2 x14 a3 s13) (fun x16 s15 => if x16 = 0 then zB (v6_56_10 + 1) (fun x17 => fX9_read_56 a2 a3 a4 x2 k56_10 n56_10 x17 s15) else zCi (fX9_at x2 a2 v6_56_10 s15) (fun x19 s18 => zIx x2 3 (zIx ((x19 + (s18 28 0 x2.toNatClampNeg)) + a4) 480 (some (s18 30 0 ((x19 + (s18 28 0 x2.toNatClampNeg)) + a4).toNatClampNeg, s18))))))))
              refine z_iload (pc := 56) F dX9_read_56 rfl ?_
              refine z_aload_n (pc := 58) F dX9_read_58 rfl ?_
              refine z_iload (pc := 59) F dX9_read_59 rfl ?_
              refine z_iload_n (pc := 61) F dX9_read_61 rfl ?_
              refine z_callVi (pc := 62) (st := [.int v6_56_10]) F 21 0 [.int x2, .int a2] cl_RX9_156 (tX9_rankOf (zln K) w56_10 x2 a2) rfl (by decide) (fun _ => ⟨_, rfl⟩) rfl (by rw [hR]; exact ⟨rfl, rfl, Nat.le_of_ble_eq_true rfl, Nat.le_of_ble_eq_true rfl⟩) rfl rfl (Nat.le_of_ble_eq_true rfl) dX9_read_62 (fun x12 s11 => ?_)
              refine z_icmp_ge (pc := 65) F 117 dX9_read_65 (by decide) (fun h23 => ?_) (fun h23 => ?_)
              · refine z_wk [false, true, false, false, false, false, false] (lv' := [none, none, none, none, none, none, none]) rfl ?_
                exact hk56_10  s11
              · refine z_aload_n (pc := 68) F dX9_read_68 rfl ?_
                refine z_iload (pc := 69) F dX9_read_69 rfl ?_
                refine z_iload (pc := 71) F dX9_read_71 rfl ?_
                refine z_iload_n (pc := 73) F dX9_read_73 rfl ?_
                refine z_iload (pc := 74) F dX9_read_74 rfl ?_
                refine z_callSi (pc := 76) (st := [.int x2, .ref (zad K 21 0)]) F [.int x2, .int a2, .int v6_56_10] cl_RX9_146 (tX9_at (zln K) s11 x2 a2 v6_56_10) rfl (by rw [hR]; exact ⟨rfl, rfl, Nat.le_of_ble_eq_true rfl, Nat.le_of_ble_eq_true rfl⟩) rfl rfl (Nat.le_of_ble_eq_true rfl) dX9_read_76 (fun x14 s13 => ?_)
                refine z_iload_n (pc := 79) F dX9_read_79 rfl ?_
                refine z_callVi (pc := 80) (st := []) F 21 0 [.int x2, .int x14, .int a3] cl_RX9_159 (tX9_isPlain (zln K) s13 x2 x14 a3) rfl (by decide) (fun _ => ⟨_, rfl⟩) rfl (by rw [hR]; exact ⟨rfl, rfl, Nat.le_of_ble_eq_true rfl, Nat.le_of_ble_eq_true rfl⟩) rfl rfl (Nat.le_of_ble_eq_true rfl) dX9_read_80 (fun x16 s15 => ?_)
                refine z_if_eq (pc := 83) F 111 dX9_read_83 (by decide) (fun h22 => ?_) (fun h22 => ?_)
                · refine z_iincB (pc := 111) F (lv' := fun x17 => [some (.ref (zad K 21 0)), none, some (.int a2), some (.int a3), some (.int a4), some (.int x2), some (.int x17)]) dX9_read_111 rfl rfl (fun _ => rfl) (fun x17 => ?_)
                  refine z_goto (pc := 114) F 56 dX9_read_114 (by decide) ?_
                  exact ih56_10 x17 s15
                · refine z_aload_n (pc := 86) F dX9_read_86 rfl ?_
                  refine z_get (pc := 87) F 21 0 18 (v := .ref (zad K 30 0)) (by decide) (fun _ => rfl) rfl (by decide) inlX9 lk_RX9_44 rfl dX9_read_87 ?_
                  refine z_iload (pc := 90) F dX9_read_90 rfl ?_
                  refine z_iload_n (pc := 92) F dX9_read_92 rfl ?_
                  refine z_iload (pc := 93) F dX9_read_93 rfl ?_
                  refine z_callSi (pc := 95) (st := [.ref (zad K 30 0)]) F [.int x2, .int a2, .int v6_56_10] cl_RX9_146 (tX9_at (zln K) s15 x2 a2 v6_56_10) rfl (by rw [hR]; exact ⟨rfl, rfl, Nat.le_of_ble_eq_true rfl, Nat.le_of_ble_eq_true rfl⟩) rfl rfl (Nat.le_of_ble_eq_true rfl) dX9_read_95 (fun x19 s18 => ?_)
                  refine z_aload_n (pc := 98) F dX9_read_98 rfl ?_
                  refine z_get (pc := 99) F 21 0 16 (v := .ref (zad K 28 0)) (by decide) (fun _ => rfl) rfl (by decide) inlX9 lk_RX9_38 rfl dX9_read_99 ?_
                  refine z_iload (pc := 102) F dX9_read_102 rfl ?_
                  refine z_ix (fun h20 => ?_)
                  refine z_iald (pc := 104) F 28 0 (by decide) (fun _ => rfl) h20 dX9_read_104 ?_
                  refine z_iadd (pc := 105) F dX9_read_105 ?_
                  refine z_iload (pc := 106) F dX9_read_106 rfl ?_
                  refine z_iadd (pc := 108) F dX9_read_108 ?_
                  refine z_ix (fun h21 => ?_)
                  refine z_iald (pc := 109) F 30 0 (by decide) (fun _ => rfl) h21 dX9_read_109 ?_
                  exact z_iret (pc := 110) F E dX9_read_110
          exact L56_10 zN (0 : Int32) s8
        · refine z_bipush (pc := 50) F (v := -2) dX9_read_50 (by decide) ?_
          exact z_iret (pc := 52) F E dX9_read_52
    · refine z_iconst (pc := 21) F (v := -1) dX9_read_21 (by decide) ?_
      exact z_iret (pc := 22) F E dX9_read_22
def fX9_reads (a1 : Int32) (a2 : Int32) (σ : zS) : Option (Int32 × zS) := zCi (fX9_isStation a1 σ) (fun x2 s1 => if x2 = 0 then some ((-1 : Int32), s1) else zCi (fX9_isSum a2 s1) (fun x4 s3 => if x4 = 0 then some ((-2 : Int32), s3) else zCi (fX9_readBy a1 a2 s3) (fun x6 s5 => some (x6, s5))))
abbrev rmX9_reads : Room := { frames := 2, cells := 0, slots := 0, locals := 46 }
set_option maxRecDepth 100000 in
set_option maxHeartbeats 4000000 in
theorem tX9_reads (l : Launch) (σ : zS) (a1 : Int32) (a2 : Int32) : zMi l yX9_reads cX9_reads 3 (some .int) rmX9_reads (fun ad => [.ref (ad 21 0), .int a1, .int a2]) σ (fX9_reads a1 a2 σ) := by
  refine zMi.of RX9 (by decide +kernel) rfl (fun _ => Nat.le_of_ble_eq_true rfl) (fun _ => zcat rfl) (fun K t F hR hL E => ?_)
  show ZO K t 0 [some (.ref (zad K 21 0)), some (.int a1), some (.int a2)] [] σ (zCi (fX9_isStation a1 σ) (fun x2 s1 => if x2 = 0 then some ((-1 : Int32), s1) else zCi (fX9_isSum a2 s1) (fun x4 s3 => if x4 = 0 then some ((-2 : Int32), s3) else zCi (fX9_readBy a1 a2 s3) (fun x6 s5 => some (x6, s5)))))
  refine z_iload_n (pc := 0) F dX9_reads_0 rfl ?_
  refine z_callSi (pc := 1) (st := []) F [.int a1] cl_RX9_90 (tX9_isStation (zln K) σ a1) rfl (by rw [hR]; exact ⟨rfl, rfl, Nat.le_of_ble_eq_true rfl, Nat.le_of_ble_eq_true rfl⟩) rfl rfl (Nat.le_of_ble_eq_true rfl) dX9_reads_1 (fun x2 s1 => ?_)
  refine z_if_ne (pc := 4) F 9 dX9_reads_4 (by decide) (fun h8 => ?_) (fun h8 => ?_)
  · refine z_aload_n (pc := 9) F dX9_reads_9 rfl ?_
    refine z_iload_n (pc := 10) F dX9_reads_10 rfl ?_
    refine z_callVi (pc := 11) (st := []) F 21 0 [.int a2] cl_RX9_106 (tX9_isSum (zln K) s1 a2) rfl (by decide) (fun _ => ⟨_, rfl⟩) rfl (by rw [hR]; exact ⟨rfl, rfl, Nat.le_of_ble_eq_true rfl, Nat.le_of_ble_eq_true rfl⟩) rfl rfl (Nat.le_of_ble_eq_true rfl) dX9_reads_11 (fun x4 s3 => ?_)
    refine z_if_eq (pc := 14) F 26 dX9_reads_14 (by decide) (fun h7 => ?_) (fun h7 => ?_)
    · refine z_bipush (pc := 26) F (v := -2) dX9_reads_26 (by decide) ?_
      exact z_iret (pc := 28) F E dX9_reads_28
    · refine z_aload_n (pc := 17) F dX9_reads_17 rfl ?_
      refine z_iload_n (pc := 18) F dX9_reads_18 rfl ?_
      refine z_iload_n (pc := 19) F dX9_reads_19 rfl ?_
      refine z_callVi (pc := 20) (st := []) F 21 0 [.int a1, .int a2] cl_RX9_109 (tX9_readBy (zln K) s3 a1 a2) rfl (by decide) (fun _ => ⟨_, rfl⟩) rfl (by rw [hR]; exact ⟨rfl, rfl, Nat.le_of_ble_eq_true rfl, Nat.le_of_ble_eq_true rfl⟩) rfl rfl (Nat.le_of_ble_eq_true rfl) dX9_reads_20 (fun x6 s5 => ?_)
      refine z_goto (pc := 23) F 28 dX9_reads_23 (by decide) ?_
      exact z_iret (pc := 28) F E dX9_reads_28
  · refine z_iconst (pc := 7) F (v := -1) dX9_reads_7 (by decide) ?_
    exact z_iret (pc := 8) F E dX9_reads_8
def fX9_row (a1 : Int32) (a2 : Int32) (a3 : Int32) (a4 : Int32) (σ : zS) : Option (Int32 × zS) := zCi (fX9_placeOf a1 σ) (fun x2 s1 => if x2 = (-9 : Int32) then some ((-1 : Int32), s1) else zCi (fX9_isNode a2 s1) (fun x4 s3 => if x4 = 0 then some ((-1 : Int32), s3) else zCi (fX9_rankOf x2 a2 s3) (fun x6 s5 => zCi (fX9_within a3 (0 : Int32) (x6 - (1 : Int32)) s5) (fun x8 s7 => if x8 = 0 then some ((-1 : Int32), s7) else zIx x2 3 (zCi (fX9_within a4 (0 : Int32) (((s7 28 0 x2.toNatClampNeg) + (3 : Int32)) - (1 : Int32)) s7) (fun x11 s10 => if x11 = 0 then some ((-2 : Int32), s10) else zCi (fX9_at x2 a2 a3 s10) (fun x13 s12 => zIx (x13 + a4) 480 (some (s12 30 0 (x13 + a4).toNatClampNeg, s12)))))))))
abbrev rmX9_row : Room := { frames := 2, cells := 0, slots := 0, locals := 42 }
set_option maxRecDepth 100000 in
set_option maxHeartbeats 4000000 in
theorem tX9_row (l : Launch) (σ : zS) (a1 : Int32) (a2 : Int32) (a3 : Int32) (a4 : Int32) : zMi l yX9_row cX9_row 6 (some .int) rmX9_row (fun ad => [.ref (ad 21 0), .int a1, .int a2, .int a3, .int a4]) σ (fX9_row a1 a2 a3 a4 σ) := by
  refine zMi.of RX9 (by decide +kernel) rfl (fun _ => Nat.le_of_ble_eq_true rfl) (fun _ => zcat rfl) (fun K t F hR hL E => ?_)
  show ZO K t 0 [some (.ref (zad K 21 0)), some (.int a1), some (.int a2), some (.int a3), some (.int a4), none] [] σ (zCi (fX9_placeOf a1 σ) (fun x2 s1 => if x2 = (-9 : Int32) then some ((-1 : Int32), s1) else zCi (fX9_isNode a2 s1) (fun x4 s3 => if x4 = 0 then some ((-1 : Int32), s3) else zCi (fX9_rankOf x2 a2 s3) (fun x6 s5 => zCi (fX9_within a3 (0 : Int32) (x6 - (1 : Int32)) s5) (fun x8 s7 => if x8 = 0 then some ((-1 : Int32), s7) else zIx x2 3 (zCi (fX9_within a4 (0 : Int32) (((s7 28 0 x2.toNatClampNeg) + (3 : Int32)) - (1 : Int32)) s7) (fun x11 s10 => if x11 = 0 then some ((-2 : Int32), s10) else zCi (fX9_at x2 a2 a3 s10) (fun x13 s12 => zIx (x13 + a4) 480 (some (s12 30 0 (x13 + a4).toNatClampNeg, s12))))))))))
  refine z_aload_n (pc := 0) F dX9_row_0 rfl ?_
  refine z_iload_n (pc := 1) F dX9_row_1 rfl ?_
  refine z_callVi (pc := 2) (st := []) F 21 0 [.int a1] cl_RX9_150 (tX9_placeOf (zln K) σ a1) rfl (by decide) (fun _ => ⟨_, rfl⟩) rfl (by rw [hR]; exact ⟨rfl, rfl, Nat.le_of_ble_eq_true rfl, Nat.le_of_ble_eq_true rfl⟩) rfl rfl (Nat.le_of_ble_eq_true rfl) dX9_row_2 (fun x2 s1 => ?_)
  refine z_istore (pc := 5) F (lv' := [some (.ref (zad K 21 0)), some (.int a1), some (.int a2), some (.int a3), some (.int a4), some (.int x2)]) dX9_row_5 (zlt rfl) rfl ?_
  refine z_iload (pc := 7) F dX9_row_7 rfl ?_
  refine z_bipush (pc := 9) F (v := -9) dX9_row_9 (by decide) ?_
  refine z_icmp_eq (pc := 11) F 38 dX9_row_11 (by decide) (fun h18 => ?_) (fun h18 => ?_)
  · refine z_iconst (pc := 38) F (v := -1) dX9_row_38 (by decide) ?_
    exact z_iret (pc := 39) F E dX9_row_39
  · refine z_iload_n (pc := 14) F dX9_row_14 rfl ?_
    refine z_callSi (pc := 15) (st := []) F [.int a2] cl_RX9_153 (tX9_isNode (zln K) s1 a2) rfl (by rw [hR]; exact ⟨rfl, rfl, Nat.le_of_ble_eq_true rfl, Nat.le_of_ble_eq_true rfl⟩) rfl rfl (Nat.le_of_ble_eq_true rfl) dX9_row_15 (fun x4 s3 => ?_)
    refine z_if_eq (pc := 18) F 38 dX9_row_18 (by decide) (fun h17 => ?_) (fun h17 => ?_)
    · refine z_iconst (pc := 38) F (v := -1) dX9_row_38 (by decide) ?_
      exact z_iret (pc := 39) F E dX9_row_39
    · refine z_iload_n (pc := 21) F dX9_row_21 rfl ?_
      refine z_iconst (pc := 22) F (v := 0) dX9_row_22 (by decide) ?_
      refine z_aload_n (pc := 23) F dX9_row_23 rfl ?_
      refine z_iload (pc := 24) F dX9_row_24 rfl ?_
      refine z_iload_n (pc := 26) F dX9_row_26 rfl ?_
      refine z_callVi (pc := 27) (st := [.int (0 : Int32), .int a3]) F 21 0 [.int x2, .int a2] cl_RX9_156 (tX9_rankOf (zln K) s3 x2 a2) rfl (by decide) (fun _ => ⟨_, rfl⟩) rfl (by rw [hR]; exact ⟨rfl, rfl, Nat.le_of_ble_eq_true rfl, Nat.le_of_ble_eq_true rfl⟩) rfl rfl (Nat.le_of_ble_eq_true rfl) dX9_row_27 (fun x6 s5 => ?_)
      refine z_iconst (pc := 30) F (v := 1) dX9_row_30 (by decide) ?_
      refine z_isub (pc := 31) F dX9_row_31 ?_
      refine z_callSi (pc := 32) (st := []) F [.int a3, .int (0 : Int32), .int (x6 - (1 : Int32))] cl_RX9_68 (tX9_within (zln K) s5 a3 (0 : Int32) (x6 - (1 : Int32))) rfl (by rw [hR]; exact ⟨rfl, rfl, Nat.le_of_ble_eq_true rfl, Nat.le_of_ble_eq_true rfl⟩) rfl rfl (Nat.le_of_ble_eq_true rfl) dX9_row_32 (fun x8 s7 => ?_)
      refine z_if_ne (pc := 35) F 40 dX9_row_35 (by decide) (fun h16 => ?_) (fun h16 => ?_)
      · refine z_iload (pc := 40) F dX9_row_40 rfl ?_
        refine z_iconst (pc := 42) F (v := 0) dX9_row_42 (by decide) ?_
        refine z_aload_n (pc := 43) F dX9_row_43 rfl ?_
        refine z_get (pc := 44) F 21 0 16 (v := .ref (zad K 28 0)) (by decide) (fun _ => rfl) rfl (by decide) inlX9 lk_RX9_38 rfl dX9_row_44 ?_
        refine z_iload (pc := 47) F dX9_row_47 rfl ?_
        refine z_ix (fun h9 => ?_)
        refine z_iald (pc := 49) F 28 0 (by decide) (fun _ => rfl) h9 dX9_row_49 ?_
        refine z_iconst (pc := 50) F (v := 3) dX9_row_50 (by decide) ?_
        refine z_iadd (pc := 51) F dX9_row_51 ?_
        refine z_iconst (pc := 52) F (v := 1) dX9_row_52 (by decide) ?_
        refine z_isub (pc := 53) F dX9_row_53 ?_
        refine z_callSi (pc := 54) (st := []) F [.int a4, .int (0 : Int32), .int (((s7 28 0 x2.toNatClampNeg) + (3 : Int32)) - (1 : Int32))] cl_RX9_68 (tX9_within (zln K) s7 a4 (0 : Int32) (((s7 28 0 x2.toNatClampNeg) + (3 : Int32)) - (1 : Int32))) rfl (by rw [hR]; exact ⟨rfl, rfl, Nat.le_of_ble_eq_true rfl, Nat.le_of_ble_eq_true rfl⟩) rfl rfl (Nat.le_of_ble_eq_true rfl) dX9_row_54 (fun x11 s10 => ?_)
        refine z_if_eq (pc := 57) F 78 dX9_row_57 (by decide) (fun h15 => ?_) (fun h15 => ?_)
        · refine z_bipush (pc := 78) F (v := -2) dX9_row_78 (by decide) ?_
          exact z_iret (pc := 80) F E dX9_row_80
        · refine z_aload_n (pc := 60) F dX9_row_60 rfl ?_
          refine z_get (pc := 61) F 21 0 18 (v := .ref (zad K 30 0)) (by decide) (fun _ => rfl) rfl (by decide) inlX9 lk_RX9_44 rfl dX9_row_61 ?_
          refine z_iload (pc := 64) F dX9_row_64 rfl ?_
          refine z_iload_n (pc := 66) F dX9_row_66 rfl ?_
          refine z_iload_n (pc := 67) F dX9_row_67 rfl ?_
          refine z_callSi (pc := 68) (st := [.ref (zad K 30 0)]) F [.int x2, .int a2, .int a3] cl_RX9_146 (tX9_at (zln K) s10 x2 a2 a3) rfl (by rw [hR]; exact ⟨rfl, rfl, Nat.le_of_ble_eq_true rfl, Nat.le_of_ble_eq_true rfl⟩) rfl rfl (Nat.le_of_ble_eq_true rfl) dX9_row_68 (fun x13 s12 => ?_)
          refine z_iload (pc := 71) F dX9_row_71 rfl ?_
          refine z_iadd (pc := 73) F dX9_row_73 ?_
          refine z_ix (fun h14 => ?_)
          refine z_iald (pc := 74) F 30 0 (by decide) (fun _ => rfl) h14 dX9_row_74 ?_
          refine z_goto (pc := 75) F 80 dX9_row_75 (by decide) ?_
          exact z_iret (pc := 80) F E dX9_row_80
      · refine z_iconst (pc := 38) F (v := -1) dX9_row_38 (by decide) ?_
        exact z_iret (pc := 39) F E dX9_row_39
def fX9_signAt (a1 : Int32) (σ : zS) : Option (Int32 × zS) := if 0 ≤ a1 then if (σ 21 0 26) ≤ a1 then some ((-9 : Int32), σ) else zIx a1 60 (some (σ 36 0 a1.toNatClampNeg, σ)) else some (σ 21 0 26, σ)
abbrev rmX9_signAt : Room := { frames := 0, cells := 0, slots := 0, locals := 0 }
set_option maxRecDepth 100000 in
set_option maxHeartbeats 4000000 in
theorem tX9_signAt (l : Launch) (σ : zS) (a1 : Int32) : zMi l yX9_signAt cX9_signAt 2 (some .int) rmX9_signAt (fun ad => [.ref (ad 21 0), .int a1]) σ (fX9_signAt a1 σ) := by
  refine zMi.of RX9 (by decide +kernel) rfl (fun _ => Nat.le_of_ble_eq_true rfl) (fun _ => zcat rfl) (fun K t F hR hL E => ?_)
  show ZO K t 0 [some (.ref (zad K 21 0)), some (.int a1)] [] σ (if 0 ≤ a1 then if (σ 21 0 26) ≤ a1 then some ((-9 : Int32), σ) else zIx a1 60 (some (σ 36 0 a1.toNatClampNeg, σ)) else some (σ 21 0 26, σ))
  refine z_iload_n (pc := 0) F dX9_signAt_0 rfl ?_
  refine z_if_ge (pc := 1) F 11 dX9_signAt_1 (by decide) (fun h3 => ?_) (fun h3 => ?_)
  · refine z_iload_n (pc := 11) F dX9_signAt_11 rfl ?_
    refine z_aload_n (pc := 12) F dX9_signAt_12 rfl ?_
    refine z_get (pc := 13) F 21 0 26 (v := .int (σ 21 0 26)) (by decide) (fun _ => rfl) rfl (by decide) inlX9 lk_RX9_199 rfl dX9_signAt_13 ?_
    refine z_icmp_ge (pc := 16) F 28 dX9_signAt_16 (by decide) (fun h2 => ?_) (fun h2 => ?_)
    · refine z_bipush (pc := 28) F (v := -9) dX9_signAt_28 (by decide) ?_
      exact z_iret (pc := 30) F E dX9_signAt_30
    · refine z_aload_n (pc := 19) F dX9_signAt_19 rfl ?_
      refine z_get (pc := 20) F 21 0 25 (v := .ref (zad K 36 0)) (by decide) (fun _ => rfl) rfl (by decide) inlX9 lk_RX9_65 rfl dX9_signAt_20 ?_
      refine z_iload_n (pc := 23) F dX9_signAt_23 rfl ?_
      refine z_ix (fun h1 => ?_)
      refine z_iald (pc := 24) F 36 0 (by decide) (fun _ => rfl) h1 dX9_signAt_24 ?_
      refine z_goto (pc := 25) F 30 dX9_signAt_25 (by decide) ?_
      exact z_iret (pc := 30) F E dX9_signAt_30
  · refine z_aload_n (pc := 4) F dX9_signAt_4 rfl ?_
    refine z_get (pc := 5) F 21 0 26 (v := .int (σ 21 0 26)) (by decide) (fun _ => rfl) rfl (by decide) inlX9 lk_RX9_199 rfl dX9_signAt_5 ?_
    refine z_goto (pc := 8) F 30 dX9_signAt_8 (by decide) ?_
    exact z_iret (pc := 30) F E dX9_signAt_30
def fX9_writes (a1 : Int32) (σ : zS) : Option (Int32 × zS) := zIx (σ 21 0 26) 60 (zB (zU σ 36 0 (σ 21 0 26).toNatClampNeg a1) (fun s2 => zB (zU s2 21 0 26 ((s2 21 0 26) + (1 : Int32))) (fun s3 => some ((0 : Int32), s3))))
abbrev rmX9_writes : Room := { frames := 0, cells := 0, slots := 0, locals := 0 }
set_option maxRecDepth 100000 in
set_option maxHeartbeats 4000000 in
theorem tX9_writes (l : Launch) (σ : zS) (a1 : Int32) : zMv l yX9_writes cX9_writes 2 none rmX9_writes (fun ad => [.ref (ad 21 0), .int a1]) σ (fX9_writes a1 σ) := by
  refine zMv.of RX9 (by decide +kernel) rfl (fun _ => Nat.le_of_ble_eq_true rfl) (fun _ => zcat rfl) (fun K t F hR hL E => ?_)
  show ZO K t 0 [some (.ref (zad K 21 0)), some (.int a1)] [] σ (zIx (σ 21 0 26) 60 (zB (zU σ 36 0 (σ 21 0 26).toNatClampNeg a1) (fun s2 => zB (zU s2 21 0 26 ((s2 21 0 26) + (1 : Int32))) (fun s3 => some ((0 : Int32), s3)))))
  refine z_aload_n (pc := 0) F dX9_writes_0 rfl ?_
  refine z_get (pc := 1) F 21 0 25 (v := .ref (zad K 36 0)) (by decide) (fun _ => rfl) rfl (by decide) inlX9 lk_RX9_65 rfl dX9_writes_1 ?_
  refine z_aload_n (pc := 4) F dX9_writes_4 rfl ?_
  refine z_get (pc := 5) F 21 0 26 (v := .int (σ 21 0 26)) (by decide) (fun _ => rfl) rfl (by decide) inlX9 lk_RX9_199 rfl dX9_writes_5 ?_
  refine z_iload_n (pc := 8) F dX9_writes_8 rfl ?_
  refine z_ix (fun h1 => ?_)
  refine z_iast (pc := 9) F 36 0 (by decide) (fun _ _ => rfl) h1 dX9_writes_9 (fun s2 => ?_)
  refine z_aload_n (pc := 10) F dX9_writes_10 rfl ?_
  refine z_dup (pc := 11) F dX9_writes_11 rfl ?_
  refine z_get (pc := 12) F 21 0 26 (v := .int (s2 21 0 26)) (by decide) (fun _ => rfl) rfl (by decide) inlX9 lk_RX9_199 rfl dX9_writes_12 ?_
  refine z_iconst (pc := 15) F (v := 1) dX9_writes_15 (by decide) ?_
  refine z_iadd (pc := 16) F dX9_writes_16 ?_
  refine z_put (pc := 17) F 21 0 26 tyX9 tyX9_ok nmX9 (by decide) (fun _ => rfl) rfl (by decide) inlX9 lk_RX9_199 rfl (by decide +kernel) (fun _ => Nat.le_of_ble_eq_true rfl) (fun _ => rfl) dX9_writes_17 (fun s3 => ?_)
  exact z_vret (pc := 20) (x := 0) F E dX9_writes_20
def fX9_rows_70 (a2 : Int32) (x2 : Int32) (v5_44_8 : Int32) (k70_13 : zS → Option (Int32 × zS)) : Nat → Int32 → zS → Option (Int32 × zS)
  | 0, _, _ => none
  | (n70_13 + 1), v6_70_13, w70_13 => zIx x2 3 (if ((w70_13 28 0 x2.toNatClampNeg) + (3 : Int32)) ≤ v6_70_13 then k70_13 w70_13 else zIx x2 3 (if v6_70_13 = (w70_13 28 0 x2.toNatClampNeg) then zCv (fX9_writes (58 : Int32) w70_13) (fun s22 => zCi (fX9_at x2 a2 v5_44_8 s22) (fun x24 s23 => zIx (x24 + v6_70_13) 480 (zCv (fX9_writes ((48 : Int32) + (s23 30 0 (x24 + v6_70_13).toNatClampNeg)) s23) (fun s26 => zB (v6_70_13 + 1) (fun x27 => fX9_rows_70 a2 x2 v5_44_8 k70_13 n70_13 x27 s26))))) else zCi (fX9_at x2 a2 v5_44_8 w70_13) (fun x18 s17 => zIx (x18 + v6_70_13) 480 (zCv (fX9_writes ((48 : Int32) + (s17 30 0 (x18 + v6_70_13).toNatClampNeg)) s17) (fun s20 => zB (v6_70_13 + 1) (fun x21 => fX9_rows_70 a2 x2 v5_44_8 k70_13 n70_13 x21 s20))))))
def fX9_rows_70_31 (a2 : Int32) (x2 : Int32) (v5_44_8 : Int32) (k70_31 : zS → Option (Int32 × zS)) : Nat → Int32 → zS → Option (Int32 × zS)
  | 0, _, _ => none
  | (n70_31 + 1), v6_70_31, w70_31 => zIx x2 3 (if ((w70_31 28 0 x2.toNatClampNeg) + (3 : Int32)) ≤ v6_70_31 then k70_31 w70_31 else zIx x2 3 (if v6_70_31 = (w70_31 28 0 x2.toNatClampNeg) then zCv (fX9_writes (58 : Int32) w70_31) (fun s40 => zCi (fX9_at x2 a2 v5_44_8 s40) (fun x42 s41 => zIx (x42 + v6_70_31) 480 (zCv (fX9_writes ((48 : Int32) + (s41 30 0 (x42 + v6_70_31).toNatClampNeg)) s41) (fun s44 => zB (v6_70_31 + 1) (fun x45 => fX9_rows_70_31 a2 x2 v5_44_8 k70_31 n70_31 x45 s44))))) else zCi (fX9_at x2 a2 v5_44_8 w70_31) (fun x36 s35 => zIx (x36 + v6_70_31) 480 (zCv (fX9_writes ((48 : Int32) + (s35 30 0 (x36 + v6_70_31).toNatClampNeg)) s35) (fun s38 => zB (v6_70_31 + 1) (fun x39 => fX9_rows_70_31 a2 x2 v5_44_8 k70_31 n70_31 x39 s38))))))
def fX9_rows_44 (a2 : Int32) (x2 : Int32) (k44_8 : zS → Option (Int32 × zS)) : Nat → Int32 → zS → Option (Int32 × zS)
  | 0, _, _ => none
  | (n44_8 + 1), v5_44_8, w44_8 => zCi (fX9_rankOf x2 a2 w44_8) (fun x12 s11 => if x12 ≤ v5_44_8 then k44_8 s11 else if v5_44_8 ≤ 0 then fX9_rows_70 a2 x2 v5_44_8 (fun (y70_13 : zS) => (zB (v5_44_8 + 1) (fun x14 => fX9_rows_44 a2 x2 k44_8 n44_8 x14 y70_13) : Option (Int32 × zS))) zN (0 : Int32) s11 else zCv (fX9_writes (32 : Int32) s11) (fun s30 => fX9_rows_70_31 a2 x2 v5_44_8 (fun (y70_31 : zS) => (zB (v5_44_8 + 1) (fun x32 => fX9_rows_44 a2 x2 k44_8 n44_8 x32 y70_31) : Option (Int32 × zS))) zN (0 : Int32) s30))
def fX9_rows (a1 : Int32) (a2 : Int32) (a3 : Int32) (σ : zS) : Option (Int32 × zS) := zCi (fX9_placeOf a1 σ) (fun x2 s1 => if x2 = (-9 : Int32) then some ((-1 : Int32), s1) else zCi (fX9_isNode a2 s1) (fun x4 s3 => if x4 = 0 then some ((-1 : Int32), s3) else zCi (fX9_within a3 (-1 : Int32) (59 : Int32) s3) (fun x6 s5 => if x6 = 0 then some ((-2 : Int32), s5) else zB (zU s5 21 0 26 (0 : Int32)) (fun s7 => fX9_rows_44 a2 x2 (fun (y44_8 : zS) => (zCi (fX9_signAt a3 y44_8) (fun x10 s9 => some (x10, s9)) : Option (Int32 × zS))) zN (0 : Int32) s7))))
abbrev rmX9_rows : Room := { frames := 2, cells := 0, slots := 0, locals := 42 }
set_option maxRecDepth 100000 in
set_option maxHeartbeats 4000000 in
theorem tX9_rows (l : Launch) (σ : zS) (a1 : Int32) (a2 : Int32) (a3 : Int32) : zMi l yX9_rows cX9_rows 7 (some .int) rmX9_rows (fun ad => [.ref (ad 21 0), .int a1, .int a2, .int a3]) σ (fX9_rows a1 a2 a3 σ) := by
  refine zMi.of RX9 (by decide +kernel) rfl (fun _ => Nat.le_of_ble_eq_true rfl) (fun _ => zcat rfl) (fun K t F hR hL E => ?_)
  show ZO K t 0 [some (.ref (zad K 21 0)), some (.int a1), some (.int a2), some (.int a3), none, none, none] [] σ (zCi (fX9_placeOf a1 σ) (fun x2 s1 => if x2 = (-9 : Int32) then some ((-1 : Int32), s1) else zCi (fX9_isNode a2 s1) (fun x4 s3 => if x4 = 0 then some ((-1 : Int32), s3) else zCi (fX9_within a3 (-1 : Int32) (59 : Int32) s3) (fun x6 s5 => if x6 = 0 then some ((-2 : Int32), s5) else zB (zU s5 21 0 26 (0 : Int32)) (fun s7 => fX9_rows_44 a2 x2 (fun (y44_8 : zS) => (zCi (fX9_signAt a3 y44_8) (fun x10 s9 => some (x10, s9)) : Option (Int32 × zS))) zN (0 : Int32) s7)))))
  refine z_aload_n (pc := 0) F dX9_rows_0 rfl ?_
  refine z_iload_n (pc := 1) F dX9_rows_1 rfl ?_
  refine z_callVi (pc := 2) (st := []) F 21 0 [.int a1] cl_RX9_150 (tX9_placeOf (zln K) σ a1) rfl (by decide) (fun _ => ⟨_, rfl⟩) rfl (by rw [hR]; exact ⟨rfl, rfl, Nat.le_of_ble_eq_true rfl, Nat.le_of_ble_eq_true rfl⟩) rfl rfl (Nat.le_of_ble_eq_true rfl) dX9_rows_2 (fun x2 s1 => ?_)
  refine z_istore (pc := 5) F (lv' := [some (.ref (zad K 21 0)), some (.int a1), some (.int a2), some (.int a3), some (.int x2), none, none]) dX9_rows_5 (zlt rfl) rfl ?_
  refine z_iload (pc := 7) F dX9_rows_7 rfl ?_
  refine z_bipush (pc := 9) F (v := -9) dX9_rows_9 (by decide) ?_
  refine z_icmp_eq (pc := 11) F 21 dX9_rows_11 (by decide) (fun h52 => ?_) (fun h52 => ?_)
  · refine z_iconst (pc := 21) F (v := -1) dX9_rows_21 (by decide) ?_
    exact z_iret (pc := 22) F E dX9_rows_22
  · refine z_iload_n (pc := 14) F dX9_rows_14 rfl ?_
    refine z_callSi (pc := 15) (st := []) F [.int a2] cl_RX9_153 (tX9_isNode (zln K) s1 a2) rfl (by rw [hR]; exact ⟨rfl, rfl, Nat.le_of_ble_eq_true rfl, Nat.le_of_ble_eq_true rfl⟩) rfl rfl (Nat.le_of_ble_eq_true rfl) dX9_rows_15 (fun x4 s3 => ?_)
    refine z_if_ne (pc := 18) F 23 dX9_rows_18 (by decide) (fun h51 => ?_) (fun h51 => ?_)
    · refine z_iload_n (pc := 23) F dX9_rows_23 rfl ?_
      refine z_iconst (pc := 24) F (v := -1) dX9_rows_24 (by decide) ?_
      refine z_bipush (pc := 25) F (v := 59) dX9_rows_25 (by decide) ?_
      refine z_callSi (pc := 27) (st := []) F [.int a3, .int (-1 : Int32), .int (59 : Int32)] cl_RX9_68 (tX9_within (zln K) s3 a3 (-1 : Int32) (59 : Int32)) rfl (by rw [hR]; exact ⟨rfl, rfl, Nat.le_of_ble_eq_true rfl, Nat.le_of_ble_eq_true rfl⟩) rfl rfl (Nat.le_of_ble_eq_true rfl) dX9_rows_27 (fun x6 s5 => ?_)
      refine z_if_ne (pc := 30) F 36 dX9_rows_30 (by decide) (fun h50 => ?_) (fun h50 => ?_)
      · refine z_aload_n (pc := 36) F dX9_rows_36 rfl ?_
        refine z_iconst (pc := 37) F (v := 0) dX9_rows_37 (by decide) ?_
        refine z_put (pc := 38) F 21 0 26 tyX9 tyX9_ok nmX9 (by decide) (fun _ => rfl) rfl (by decide) inlX9 lk_RX9_199 rfl (by decide +kernel) (fun _ => Nat.le_of_ble_eq_true rfl) (fun _ => rfl) dX9_rows_38 (fun s7 => ?_)
        refine z_iconst (pc := 41) F (v := 0) dX9_rows_41 (by decide) ?_
        refine z_istore (pc := 42) F (lv' := [some (.ref (zad K 21 0)), some (.int a1), some (.int a2), some (.int a3), some (.int x2), some (.int (0 : Int32)), none]) dX9_rows_42 (zlt rfl) rfl ?_
        refine z_wk [true, false, true, true, true, true, true] (lv' := [some (.ref (zad K 21 0)), none, some (.int a2), some (.int a3), some (.int x2), some (.int (0 : Int32)), none]) rfl ?_
        have hk44_8 : ∀ (y44_8 : zS), ZO K t 137 [some (.ref (zad K 21 0)), none, none, some (.int a3), none, none, none] [] y44_8 ((fun (y44_8 : zS) => (zCi (fX9_signAt a3 y44_8) (fun x10 s9 => some (x10, s9)) : Option (Int32 × zS))) y44_8) := by
          intro y44_8
          show ZO K t 137 [some (.ref (zad K 21 0)), none, none, some (.int a3), none, none, none] [] y44_8 (zCi (fX9_signAt a3 y44_8) (fun x10 s9 => some (x10, s9)))
          refine z_aload_n (pc := 137) F dX9_rows_137 rfl ?_
          refine z_iload_n (pc := 138) F dX9_rows_138 rfl ?_
          refine z_callVi (pc := 139) (st := []) F 21 0 [.int a3] cl_RX9_209 (tX9_signAt (zln K) y44_8 a3) rfl (by decide) (fun _ => ⟨_, rfl⟩) rfl (by rw [hR]; exact ⟨rfl, rfl, Nat.le_of_ble_eq_true rfl, Nat.le_of_ble_eq_true rfl⟩) rfl rfl (Nat.le_of_ble_eq_true rfl) dX9_rows_139 (fun x10 s9 => ?_)
          exact z_iret (pc := 142) F E dX9_rows_142
        have L44_8 : ∀ (n44_8 : Nat) (v5_44_8 : Int32) (w44_8 : zS), ZO K t 44 [some (.ref (zad K 21 0)), none, some (.int a2), some (.int a3), some (.int x2), some (.int v5_44_8), none] [] w44_8 (fX9_rows_44 a2 x2 (fun (y44_8 : zS) => (zCi (fX9_signAt a3 y44_8) (fun x10 s9 => some (x10, s9)) : Option (Int32 × zS))) n44_8 v5_44_8 w44_8) := by
          revert hk44_8; generalize (fun (y44_8 : zS) => (zCi (fX9_signAt a3 y44_8) (fun x10 s9 => some (x10, s9)) : Option (Int32 × zS))) = k44_8; intro hk44_8
          intro n44_8
          induction n44_8 with
          | zero => intro v5_44_8 w44_8; exact z_none
          | succ n44_8 ih44_8 =>
            intro v5_44_8 w44_8
            show ZO K t 44 [some (.ref (zad K 21 0)), none, some (.int a2), some (.int a3), some (.int x2), some (.int v5_44_8), none] [] w44_8 (zCi (fX9_rankOf x2 a2 w44_8) (fun x12 s11 => if x12 ≤ v5_44_8 then k44_8 s11 else if v5_44_8 ≤ 0 then fX9_rows_70 a2 x2 v5_44_8 (fun (y70_13 : zS) => (zB (v5_44_8 + 1) (fun x14 => fX9_rows_44 a2 x2 k44_8 n44_8 x14 y70_13) : Option (Int32 × zS))) zN (0 : Int32) s11 else zCv (fX9_writes (32 : Int32) s11) (fun s30 => fX9_rows_70_31 a2 x2 v5_44_8 (fun (y70_31 : zS) => (zB (v5_44_8 + 1) (fun x32 => fX9_rows_44 a2 x2 k44_8 n44_8 x32 y70_31) : Option (Int32 × zS))) zN (0 : Int32) s30)))
            refine z_iload (pc := 44) F dX9_rows_44 rfl ?_
            refine z_aload_n (pc := 46) F dX9_rows_46 rfl ?_
            refine z_iload (pc := 47) F dX9_rows_47 rfl ?_
            refine z_iload_n (pc := 49) F dX9_rows_49 rfl ?_
            refine z_callVi (pc := 50) (st := [.int v5_44_8]) F 21 0 [.int x2, .int a2] cl_RX9_156 (tX9_rankOf (zln K) w44_8 x2 a2) rfl (by decide) (fun _ => ⟨_, rfl⟩) rfl (by rw [hR]; exact ⟨rfl, rfl, Nat.le_of_ble_eq_true rfl, Nat.le_of_ble_eq_true rfl⟩) rfl rfl (Nat.le_of_ble_eq_true rfl) dX9_rows_50 (fun x12 s11 => ?_)
            refine z_icmp_ge (pc := 53) F 137 dX9_rows_53 (by decide) (fun h49 => ?_) (fun h49 => ?_)
            · refine z_wk [true, true, false, true, false, false, true] (lv' := [some (.ref (zad K 21 0)), none, none, some (.int a3), none, none, none]) rfl ?_
              exact hk44_8  s11
            · refine z_iload (pc := 56) F dX9_rows_56 rfl ?_
              refine z_if_le (pc := 58) F 67 dX9_rows_58 (by decide) (fun h48 => ?_) (fun h48 => ?_)
              · refine z_iconst (pc := 67) F (v := 0) dX9_rows_67 (by decide) ?_
                refine z_istore (pc := 68) F (lv' := [some (.ref (zad K 21 0)), none, some (.int a2), some (.int a3), some (.int x2), some (.int v5_44_8), some (.int (0 : Int32))]) dX9_rows_68 (zlt rfl) rfl ?_
                have hk70_13 : ∀ (y70_13 : zS), ZO K t 131 [some (.ref (zad K 21 0)), none, some (.int a2), some (.int a3), some (.int x2), some (.int v5_44_8), none] [] y70_13 ((fun (y70_13 : zS) => (zB (v5_44_8 + 1) (fun x14 => fX9_rows_44 a2 x2 k44_8 n44_8 x14 y70_13) : Option (Int32 × zS))) y70_13) := by
                  intro y70_13
                  show ZO K t 131 [some (.ref (zad K 21 0)), none, some (.int a2), some (.int a3), some (.int x2), some (.int v5_44_8), none] [] y70_13 (zB (v5_44_8 + 1) (fun x14 => fX9_rows_44 a2 x2 k44_8 n44_8 x14 y70_13))
                  refine z_iincB (pc := 131) F (lv' := fun x14 => [some (.ref (zad K 21 0)), none, some (.int a2), some (.int a3), some (.int x2), some (.int x14), none]) dX9_rows_131 rfl rfl (fun _ => rfl) (fun x14 => ?_)
                  refine z_goto (pc := 134) F 44 dX9_rows_134 (by decide) ?_
                  exact ih44_8 x14 y70_13
                have L70_13 : ∀ (n70_13 : Nat) (v6_70_13 : Int32) (w70_13 : zS), ZO K t 70 [some (.ref (zad K 21 0)), none, some (.int a2), some (.int a3), some (.int x2), some (.int v5_44_8), some (.int v6_70_13)] [] w70_13 (fX9_rows_70 a2 x2 v5_44_8 (fun (y70_13 : zS) => (zB (v5_44_8 + 1) (fun x14 => fX9_rows_44 a2 x2 k44_8 n44_8 x14 y70_13) : Option (Int32 × zS))) n70_13 v6_70_13 w70_13) := by
                  revert hk70_13; generalize (fun (y70_13 : zS) => (zB (v5_44_8 + 1) (fun x14 => fX9_rows_44 a2 x2 k44_8 n44_8 x14 y70_13) : Option (Int32 × zS))) = k70_13; intro hk70_13
                  intro n70_13
                  induction n70_13 with
                  | zero => intro v6_70_13 w70_13; exact z_none
                  | succ n70_13 ih70_13 =>
                    intro v6_70_13 w70_13
                    show ZO K t 70 [some (.ref (zad K 21 0)), none, some (.int a2), some (.int a3), some (.int x2), some (.int v5_44_8), some (.int v6_70_13)] [] w70_13 (zIx x2 3 (if ((w70_13 28 0 x2.toNatClampNeg) + (3 : Int32)) ≤ v6_70_13 then k70_13 w70_13 else zIx x2 3 (if v6_70_13 = (w70_13 28 0 x2.toNatClampNeg) then zCv (fX9_writes (58 : Int32) w70_13) (fun s22 => zCi (fX9_at x2 a2 v5_44_8 s22) (fun x24 s23 => zIx (x24 + v6_70_13) 480 (zCv (fX9_writes ((48 : Int32) + (s23 30 0 (x24 + v6_70_13).toNatClampNeg)) s23) (fun s26 => zB (v6_70_13 + 1) (fun x27 => fX9_rows_70 a2 x2 v5_44_8 k70_13 n70_13 x27 s26))))) else zCi (fX9_at x2 a2 v5_44_8 w70_13) (fun x18 s17 => zIx (x18 + v6_70_13) 480 (zCv (fX9_writes ((48 : Int32) + (s17 30 0 (x18 + v6_70_13).toNatClampNeg)) s17) (fun s20 => zB (v6_70_13 + 1) (fun x21 => fX9_rows_70 a2 x2 v5_44_8 k70_13 n70_13 x21 s20)))))))
                    refine z_iload (pc := 70) F dX9_rows_70 rfl ?_
                    refine z_aload_n (pc := 72) F dX9_rows_72 rfl ?_
                    refine z_get (pc := 73) F 21 0 16 (v := .ref (zad K 28 0)) (by decide) (fun _ => rfl) rfl (by decide) inlX9 lk_RX9_38 rfl dX9_rows_73 ?_
                    refine z_iload (pc := 76) F dX9_rows_76 rfl ?_
                    refine z_ix (fun h15 => ?_)
                    refine z_iald (pc := 78) F 28 0 (by decide) (fun _ => rfl) h15 dX9_rows_78 ?_
                    refine z_iconst (pc := 79) F (v := 3) dX9_rows_79 (by decide) ?_
                    refine z_iadd (pc := 80) F dX9_rows_80 ?_
                    refine z_icmp_ge (pc := 81) F 131 dX9_rows_81 (by decide) (fun h29 => ?_) (fun h29 => ?_)
                    · refine z_wk [true, true, true, true, true, true, false] (lv' := [some (.ref (zad K 21 0)), none, some (.int a2), some (.int a3), some (.int x2), some (.int v5_44_8), none]) rfl ?_
                      exact hk70_13  w70_13
                    · refine z_iload (pc := 84) F dX9_rows_84 rfl ?_
                      refine z_aload_n (pc := 86) F dX9_rows_86 rfl ?_
                      refine z_get (pc := 87) F 21 0 16 (v := .ref (zad K 28 0)) (by decide) (fun _ => rfl) rfl (by decide) inlX9 lk_RX9_38 rfl dX9_rows_87 ?_
                      refine z_iload (pc := 90) F dX9_rows_90 rfl ?_
                      refine z_ix (fun h16 => ?_)
                      refine z_iald (pc := 92) F 28 0 (by decide) (fun _ => rfl) h16 dX9_rows_92 ?_
                      refine z_icmp_ne (pc := 93) F 102 dX9_rows_93 (by decide) (fun h28 => ?_) (fun h28 => ?_)
                      · refine z_aload_n (pc := 102) F dX9_rows_102 rfl ?_
                        refine z_bipush (pc := 103) F (v := 48) dX9_rows_103 (by decide) ?_
                        refine z_aload_n (pc := 105) F dX9_rows_105 rfl ?_
                        refine z_get (pc := 106) F 21 0 18 (v := .ref (zad K 30 0)) (by decide) (fun _ => rfl) rfl (by decide) inlX9 lk_RX9_44 rfl dX9_rows_106 ?_
                        refine z_iload (pc := 109) F dX9_rows_109 rfl ?_
                        refine z_iload_n (pc := 111) F dX9_rows_111 rfl ?_
                        refine z_iload (pc := 112) F dX9_rows_112 rfl ?_
                        refine z_callSi (pc := 114) (st := [.ref (zad K 30 0), .int (48 : Int32), .ref (zad K 21 0)]) F [.int x2, .int a2, .int v5_44_8] cl_RX9_146 (tX9_at (zln K) w70_13 x2 a2 v5_44_8) rfl (by rw [hR]; exact ⟨rfl, rfl, Nat.le_of_ble_eq_true rfl, Nat.le_of_ble_eq_true rfl⟩) rfl rfl (Nat.le_of_ble_eq_true rfl) dX9_rows_114 (fun x18 s17 => ?_)
                        refine z_iload (pc := 117) F dX9_rows_117 rfl ?_
                        refine z_iadd (pc := 119) F dX9_rows_119 ?_
                        refine z_ix (fun h19 => ?_)
                        refine z_iald (pc := 120) F 30 0 (by decide) (fun _ => rfl) h19 dX9_rows_120 ?_
                        refine z_iadd (pc := 121) F dX9_rows_121 ?_
                        refine z_callVv (pc := 122) (st := []) F 21 0 [.int ((48 : Int32) + (s17 30 0 (x18 + v6_70_13).toNatClampNeg))] cl_RX9_202 (tX9_writes (zln K) s17 ((48 : Int32) + (s17 30 0 (x18 + v6_70_13).toNatClampNeg))) rfl (by decide) (fun _ => ⟨_, rfl⟩) rfl (by rw [hR]; exact ⟨rfl, rfl, Nat.le_of_ble_eq_true rfl, Nat.le_of_ble_eq_true rfl⟩) rfl rfl (Nat.le_of_ble_eq_true rfl) dX9_rows_122 (fun s20 => ?_)
                        refine z_iincB (pc := 125) F (lv' := fun x21 => [some (.ref (zad K 21 0)), none, some (.int a2), some (.int a3), some (.int x2), some (.int v5_44_8), some (.int x21)]) dX9_rows_125 rfl rfl (fun _ => rfl) (fun x21 => ?_)
                        refine z_goto (pc := 128) F 70 dX9_rows_128 (by decide) ?_
                        exact ih70_13 x21 s20
                      · refine z_aload_n (pc := 96) F dX9_rows_96 rfl ?_
                        refine z_bipush (pc := 97) F (v := 58) dX9_rows_97 (by decide) ?_
                        refine z_callVv (pc := 99) (st := []) F 21 0 [.int (58 : Int32)] cl_RX9_202 (tX9_writes (zln K) w70_13 (58 : Int32)) rfl (by decide) (fun _ => ⟨_, rfl⟩) rfl (by rw [hR]; exact ⟨rfl, rfl, Nat.le_of_ble_eq_true rfl, Nat.le_of_ble_eq_true rfl⟩) rfl rfl (Nat.le_of_ble_eq_true rfl) dX9_rows_99 (fun s22 => ?_)
                        refine z_aload_n (pc := 102) F dX9_rows_102 rfl ?_
                        refine z_bipush (pc := 103) F (v := 48) dX9_rows_103 (by decide) ?_
                        refine z_aload_n (pc := 105) F dX9_rows_105 rfl ?_
                        refine z_get (pc := 106) F 21 0 18 (v := .ref (zad K 30 0)) (by decide) (fun _ => rfl) rfl (by decide) inlX9 lk_RX9_44 rfl dX9_rows_106 ?_
                        refine z_iload (pc := 109) F dX9_rows_109 rfl ?_
                        refine z_iload_n (pc := 111) F dX9_rows_111 rfl ?_
                        refine z_iload (pc := 112) F dX9_rows_112 rfl ?_
                        refine z_callSi (pc := 114) (st := [.ref (zad K 30 0), .int (48 : Int32), .ref (zad K 21 0)]) F [.int x2, .int a2, .int v5_44_8] cl_RX9_146 (tX9_at (zln K) s22 x2 a2 v5_44_8) rfl (by rw [hR]; exact ⟨rfl, rfl, Nat.le_of_ble_eq_true rfl, Nat.le_of_ble_eq_true rfl⟩) rfl rfl (Nat.le_of_ble_eq_true rfl) dX9_rows_114 (fun x24 s23 => ?_)
                        refine z_iload (pc := 117) F dX9_rows_117 rfl ?_
                        refine z_iadd (pc := 119) F dX9_rows_119 ?_
                        refine z_ix (fun h25 => ?_)
                        refine z_iald (pc := 120) F 30 0 (by decide) (fun _ => rfl) h25 dX9_rows_120 ?_
                        refine z_iadd (pc := 121) F dX9_rows_121 ?_
                        refine z_callVv (pc := 122) (st := []) F 21 0 [.int ((48 : Int32) + (s23 30 0 (x24 + v6_70_13).toNatClampNeg))] cl_RX9_202 (tX9_writes (zln K) s23 ((48 : Int32) + (s23 30 0 (x24 + v6_70_13).toNatClampNeg))) rfl (by decide) (fun _ => ⟨_, rfl⟩) rfl (by rw [hR]; exact ⟨rfl, rfl, Nat.le_of_ble_eq_true rfl, Nat.le_of_ble_eq_true rfl⟩) rfl rfl (Nat.le_of_ble_eq_true rfl) dX9_rows_122 (fun s26 => ?_)
                        refine z_iincB (pc := 125) F (lv' := fun x27 => [some (.ref (zad K 21 0)), none, some (.int a2), some (.int a3), some (.int x2), some (.int v5_44_8), some (.int x27)]) dX9_rows_125 rfl rfl (fun _ => rfl) (fun x27 => ?_)
                        refine z_goto (pc := 128) F 70 dX9_rows_128 (by decide) ?_
                        exact ih70_13 x27 s26
                exact L70_13 zN (0 : Int32) s11
              · refine z_aload_n (pc := 61) F dX9_rows_61 rfl ?_
                refine z_bipush (pc := 62) F (v := 32) dX9_rows_62 (by decide) ?_
                refine z_callVv (pc := 64) (st := []) F 21 0 [.int (32 : Int32)] cl_RX9_202 (tX9_writes (zln K) s11 (32 : Int32)) rfl (by decide) (fun _ => ⟨_, rfl⟩) rfl (by rw [hR]; exact ⟨rfl, rfl, Nat.le_of_ble_eq_true rfl, Nat.le_of_ble_eq_true rfl⟩) rfl rfl (Nat.le_of_ble_eq_true rfl) dX9_rows_64 (fun s30 => ?_)
                refine z_iconst (pc := 67) F (v := 0) dX9_rows_67 (by decide) ?_
                refine z_istore (pc := 68) F (lv' := [some (.ref (zad K 21 0)), none, some (.int a2), some (.int a3), some (.int x2), some (.int v5_44_8), some (.int (0 : Int32))]) dX9_rows_68 (zlt rfl) rfl ?_
                have hk70_31 : ∀ (y70_31 : zS), ZO K t 131 [some (.ref (zad K 21 0)), none, some (.int a2), some (.int a3), some (.int x2), some (.int v5_44_8), none] [] y70_31 ((fun (y70_31 : zS) => (zB (v5_44_8 + 1) (fun x32 => fX9_rows_44 a2 x2 k44_8 n44_8 x32 y70_31) : Option (Int32 × zS))) y70_31) := by
                  intro y70_31
                  show ZO K t 131 [some (.ref (zad K 21 0)), none, some (.int a2), some (.int a3), some (.int x2), some (.int v5_44_8), none] [] y70_31 (zB (v5_44_8 + 1) (fun x32 => fX9_rows_44 a2 x2 k44_8 n44_8 x32 y70_31))
                  refine z_iincB (pc := 131) F (lv' := fun x32 => [some (.ref (zad K 21 0)), none, some (.int a2), some (.int a3), some (.int x2), some (.int x32), none]) dX9_rows_131 rfl rfl (fun _ => rfl) (fun x32 => ?_)
                  refine z_goto (pc := 134) F 44 dX9_rows_134 (by decide) ?_
                  exact ih44_8 x32 y70_31
                have L70_31 : ∀ (n70_31 : Nat) (v6_70_31 : Int32) (w70_31 : zS), ZO K t 70 [some (.ref (zad K 21 0)), none, some (.int a2), some (.int a3), some (.int x2), some (.int v5_44_8), some (.int v6_70_31)] [] w70_31 (fX9_rows_70_31 a2 x2 v5_44_8 (fun (y70_31 : zS) => (zB (v5_44_8 + 1) (fun x32 => fX9_rows_44 a2 x2 k44_8 n44_8 x32 y70_31) : Option (Int32 × zS))) n70_31 v6_70_31 w70_31) := by
                  revert hk70_31; generalize (fun (y70_31 : zS) => (zB (v5_44_8 + 1) (fun x32 => fX9_rows_44 a2 x2 k44_8 n44_8 x32 y70_31) : Option (Int32 × zS))) = k70_31; intro hk70_31
                  intro n70_31
                  induction n70_31 with
                  | zero => intro v6_70_31 w70_31; exact z_none
                  | succ n70_31 ih70_31 =>
                    intro v6_70_31 w70_31
                    show ZO K t 70 [some (.ref (zad K 21 0)), none, some (.int a2), some (.int a3), some (.int x2), some (.int v5_44_8), some (.int v6_70_31)] [] w70_31 (zIx x2 3 (if ((w70_31 28 0 x2.toNatClampNeg) + (3 : Int32)) ≤ v6_70_31 then k70_31 w70_31 else zIx x2 3 (if v6_70_31 = (w70_31 28 0 x2.toNatClampNeg) then zCv (fX9_writes (58 : Int32) w70_31) (fun s40 => zCi (fX9_at x2 a2 v5_44_8 s40) (fun x42 s41 => zIx (x42 + v6_70_31) 480 (zCv (fX9_writes ((48 : Int32) + (s41 30 0 (x42 + v6_70_31).toNatClampNeg)) s41) (fun s44 => zB (v6_70_31 + 1) (fun x45 => fX9_rows_70_31 a2 x2 v5_44_8 k70_31 n70_31 x45 s44))))) else zCi (fX9_at x2 a2 v5_44_8 w70_31) (fun x36 s35 => zIx (x36 + v6_70_31) 480 (zCv (fX9_writes ((48 : Int32) + (s35 30 0 (x36 + v6_70_31).toNatClampNeg)) s35) (fun s38 => zB (v6_70_31 + 1) (fun x39 => fX9_rows_70_31 a2 x2 v5_44_8 k70_31 n70_31 x39 s38)))))))
                    refine z_iload (pc := 70) F dX9_rows_70 rfl ?_
                    refine z_aload_n (pc := 72) F dX9_rows_72 rfl ?_
                    refine z_get (pc := 73) F 21 0 16 (v := .ref (zad K 28 0)) (by decide) (fun _ => rfl) rfl (by decide) inlX9 lk_RX9_38 rfl dX9_rows_73 ?_
                    refine z_iload (pc := 76) F dX9_rows_76 rfl ?_
                    refine z_ix (fun h33 => ?_)
                    refine z_iald (pc := 78) F 28 0 (by decide) (fun _ => rfl) h33 dX9_rows_78 ?_
                    refine z_iconst (pc := 79) F (v := 3) dX9_rows_79 (by decide) ?_
                    refine z_iadd (pc := 80) F dX9_rows_80 ?_
                    refine z_icmp_ge (pc := 81) F 131 dX9_rows_81 (by decide) (fun h47 => ?_) (fun h47 => ?_)
                    · refine z_wk [true, true, true, true, true, true, false] (lv' := [some (.ref (zad K 21 0)), none, some (.int a2), some (.int a3), some (.int x2), some (.int v5_44_8), none]) rfl ?_
                      exact hk70_31  w70_31
                    · refine z_iload (pc := 84) F dX9_rows_84 rfl ?_
                      refine z_aload_n (pc := 86) F dX9_rows_86 rfl ?_
                      refine z_get (pc := 87) F 21 0 16 (v := .ref (zad K 28 0)) (by decide) (fun _ => rfl) rfl (by decide) inlX9 lk_RX9_38 rfl dX9_rows_87 ?_
                      refine z_iload (pc := 90) F dX9_rows_90 rfl ?_
                      refine z_ix (fun h34 => ?_)
                      refine z_iald (pc := 92) F 28 0 (by decide) (fun _ => rfl) h34 dX9_rows_92 ?_
                      refine z_icmp_ne (pc := 93) F 102 dX9_rows_93 (by decide) (fun h46 => ?_) (fun h46 => ?_)
                      · refine z_aload_n (pc := 102) F dX9_rows_102 rfl ?_
                        refine z_bipush (pc := 103) F (v := 48) dX9_rows_103 (by decide) ?_
                        refine z_aload_n (pc := 105) F dX9_rows_105 rfl ?_
                        refine z_get (pc := 106) F 21 0 18 (v := .ref (zad K 30 0)) (by decide) (fun _ => rfl) rfl (by decide) inlX9 lk_RX9_44 rfl dX9_rows_106 ?_
                        refine z_iload (pc := 109) F dX9_rows_109 rfl ?_
                        refine z_iload_n (pc := 111) F dX9_rows_111 rfl ?_
                        refine z_iload (pc := 112) F dX9_rows_112 rfl ?_
                        refine z_callSi (pc := 114) (st := [.ref (zad K 30 0), .int (48 : Int32), .ref (zad K 21 0)]) F [.int x2, .int a2, .int v5_44_8] cl_RX9_146 (tX9_at (zln K) w70_31 x2 a2 v5_44_8) rfl (by rw [hR]; exact ⟨rfl, rfl, Nat.le_of_ble_eq_true rfl, Nat.le_of_ble_eq_true rfl⟩) rfl rfl (Nat.le_of_ble_eq_true rfl) dX9_rows_114 (fun x36 s35 => ?_)
                        refine z_iload (pc := 117) F dX9_rows_117 rfl ?_
                        refine z_iadd (pc := 119) F dX9_rows_119 ?_
                        refine z_ix (fun h37 => ?_)
                        refine z_iald (pc := 120) F 30 0 (by decide) (fun _ => rfl) h37 dX9_rows_120 ?_
                        refine z_iadd (pc := 121) F dX9_rows_121 ?_
                        refine z_callVv (pc := 122) (st := []) F 21 0 [.int ((48 : Int32) + (s35 30 0 (x36 + v6_70_31).toNatClampNeg))] cl_RX9_202 (tX9_writes (zln K) s35 ((48 : Int32) + (s35 30 0 (x36 + v6_70_31).toNatClampNeg))) rfl (by decide) (fun _ => ⟨_, rfl⟩) rfl (by rw [hR]; exact ⟨rfl, rfl, Nat.le_of_ble_eq_true rfl, Nat.le_of_ble_eq_true rfl⟩) rfl rfl (Nat.le_of_ble_eq_true rfl) dX9_rows_122 (fun s38 => ?_)
                        refine z_iincB (pc := 125) F (lv' := fun x39 => [some (.ref (zad K 21 0)), none, some (.int a2), some (.int a3), some (.int x2), some (.int v5_44_8), some (.int x39)]) dX9_rows_125 rfl rfl (fun _ => rfl) (fun x39 => ?_)
                        refine z_goto (pc := 128) F 70 dX9_rows_128 (by decide) ?_
                        exact ih70_31 x39 s38
                      · refine z_aload_n (pc := 96) F dX9_rows_96 rfl ?_
                        refine z_bipush (pc := 97) F (v := 58) dX9_rows_97 (by decide) ?_
                        refine z_callVv (pc := 99) (st := []) F 21 0 [.int (58 : Int32)] cl_RX9_202 (tX9_writes (zln K) w70_31 (58 : Int32)) rfl (by decide) (fun _ => ⟨_, rfl⟩) rfl (by rw [hR]; exact ⟨rfl, rfl, Nat.le_of_ble_eq_true rfl, Nat.le_of_ble_eq_true rfl⟩) rfl rfl (Nat.le_of_ble_eq_true rfl) dX9_rows_99 (fun s40 => ?_)
                        refine z_aload_n (pc := 102) F dX9_rows_102 rfl ?_
                        refine z_bipush (pc := 103) F (v := 48) dX9_rows_103 (by decide) ?_
                        refine z_aload_n (pc := 105) F dX9_rows_105 rfl ?_
                        refine z_get (pc := 106) F 21 0 18 (v := .ref (zad K 30 0)) (by decide) (fun _ => rfl) rfl (by decide) inlX9 lk_RX9_44 rfl dX9_rows_106 ?_
                        refine z_iload (pc := 109) F dX9_rows_109 rfl ?_
                        refine z_iload_n (pc := 111) F dX9_rows_111 rfl ?_
                        refine z_iload (pc := 112) F dX9_rows_112 rfl ?_
                        refine z_callSi (pc := 114) (st := [.ref (zad K 30 0), .int (48 : Int32), .ref (zad K 21 0)]) F [.int x2, .int a2, .int v5_44_8] cl_RX9_146 (tX9_at (zln K) s40 x2 a2 v5_44_8) rfl (by rw [hR]; exact ⟨rfl, rfl, Nat.le_of_ble_eq_true rfl, Nat.le_of_ble_eq_true rfl⟩) rfl rfl (Nat.le_of_ble_eq_true rfl) dX9_rows_114 (fun x42 s41 => ?_)
                        refine z_iload (pc := 117) F dX9_rows_117 rfl ?_
                        refine z_iadd (pc := 119) F dX9_rows_119 ?_
                        refine z_ix (fun h43 => ?_)
                        refine z_iald (pc := 120) F 30 0 (by decide) (fun _ => rfl) h43 dX9_rows_120 ?_
                        refine z_iadd (pc := 121) F dX9_rows_121 ?_
                        refine z_callVv (pc := 122) (st := []) F 21 0 [.int ((48 : Int32) + (s41 30 0 (x42 + v6_70_31).toNatClampNeg))] cl_RX9_202 (tX9_writes (zln K) s41 ((48 : Int32) + (s41 30 0 (x42 + v6_70_31).toNatClampNeg))) rfl (by decide) (fun _ => ⟨_, rfl⟩) rfl (by rw [hR]; exact ⟨rfl, rfl, Nat.le_of_ble_eq_true rfl, Nat.le_of_ble_eq_true rfl⟩) rfl rfl (Nat.le_of_ble_eq_true rfl) dX9_rows_122 (fun s44 => ?_)
                        refine z_iincB (pc := 125) F (lv' := fun x45 => [some (.ref (zad K 21 0)), none, some (.int a2), some (.int a3), some (.int x2), some (.int v5_44_8), some (.int x45)]) dX9_rows_125 rfl rfl (fun _ => rfl) (fun x45 => ?_)
                        refine z_goto (pc := 128) F 70 dX9_rows_128 (by decide) ?_
                        exact ih70_31 x45 s44
                exact L70_31 zN (0 : Int32) s30
        exact L44_8 zN (0 : Int32) s7
      · refine z_bipush (pc := 33) F (v := -2) dX9_rows_33 (by decide) ?_
        exact z_iret (pc := 35) F E dX9_rows_35
    · refine z_iconst (pc := 21) F (v := -1) dX9_rows_21 (by decide) ?_
      exact z_iret (pc := 22) F E dX9_rows_22
