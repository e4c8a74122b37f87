def fX9_open_139 (a1 : Int32) (a2 : Int32) (v4_84_9 : Int32) (x13 : Int32) (k139_15 : zS → Option (Int32 × zS)) : Nat → Int32 → zS → Option (Int32 × zS)
  | 0, _, _ => none
  | (n139_15 + 1), v6_139_15, w139_15 => if (3 : Int32) ≤ v6_139_15 then k139_15 w139_15 else zGd (¬ (w139_15 21 0 12) = 0) (zIx ((x13 + a1) + v6_139_15) 480 (zB (zU w139_15 30 0 ((x13 + a1) + v6_139_15).toNatClampNeg ((((a2.toUInt32 >>> (((2 : Int32) * (((3 : Int32) * v4_84_9) + v6_139_15)).toUInt32 &&& Int32.toUInt32 31)).toInt32) &&& (3 : Int32)) - (((a2.toUInt32 >>> (((2 : Int32) * (((3 : Int32) * v4_84_9) + v6_139_15)).toUInt32 &&& Int32.toUInt32 31)).toInt32) &&& (3 : Int32)) / (w139_15 21 0 12) * (w139_15 21 0 12))) (fun s19 => zB (v6_139_15 + 1) (fun x20 => fX9_open_139 a1 a2 v4_84_9 x13 k139_15 n139_15 x20 s19))))
def fX9_open_102 (a1 : Int32) (v4_84_9 : Int32) (x13 : Int32) (k102_14 : zS → Option (Int32 × zS)) : Nat → Int32 → zS → Option (Int32 × zS)
  | 0, _, _ => none
  | (n102_14 + 1), v6_102_14, w102_14 => if a1 ≤ v6_102_14 then k102_14 w102_14 else if v6_102_14 = v4_84_9 then zIx (x13 + v6_102_14) 480 (zB (zU w102_14 30 0 (x13 + v6_102_14).toNatClampNeg (1 : Int32)) (fun s26 => zB (v6_102_14 + 1) (fun x27 => fX9_open_102 a1 v4_84_9 x13 k102_14 n102_14 x27 s26))) else zIx (x13 + v6_102_14) 480 (zB (zU w102_14 30 0 (x13 + v6_102_14).toNatClampNeg (0 : Int32)) (fun s23 => zB (v6_102_14 + 1) (fun x24 => fX9_open_102 a1 v4_84_9 x13 k102_14 n102_14 x24 s23)))
def fX9_open_84 (a1 : Int32) (a2 : Int32) (x3 : Int32) (k84_9 : zS → Option (Int32 × zS)) : Nat → Int32 → zS → Option (Int32 × zS)
  | 0, _, _ => none
  | (n84_9 + 1), v4_84_9, w84_9 => if a1 ≤ v4_84_9 then k84_9 w84_9 else zCi (fX9_at x3 (0 : Int32) v4_84_9 w84_9) (fun x13 s12 => fX9_open_102 a1 v4_84_9 x13 (fun (y102_14 : zS) => (fX9_open_139 a1 a2 v4_84_9 x13 (fun (y139_15 : zS) => (zB (v4_84_9 + 1) (fun x16 => fX9_open_84 a1 a2 x3 k84_9 n84_9 x16 y139_15) : Option (Int32 × zS))) zN (0 : Int32) y102_14 : Option (Int32 × zS))) zN (0 : Int32) s12)
def fX9_open_48 (a1 : Int32) (x3 : Int32) (k48_8 : zS → Option (Int32 × zS)) : Nat → Int32 → zS → Option (Int32 × zS)
  | 0, _, _ => none
  | (n48_8 + 1), v4_48_8, w48_8 => if (4 : Int32) ≤ v4_48_8 then k48_8 w48_8 else if v4_48_8 = 0 then zIx (((4 : Int32) * x3) + v4_48_8) 12 (zB (zU w48_8 29 0 (((4 : Int32) * x3) + v4_48_8).toNatClampNeg a1) (fun s35 => zB (v4_48_8 + 1) (fun x36 => fX9_open_48 a1 x3 k48_8 n48_8 x36 s35))) else zIx (((4 : Int32) * x3) + v4_48_8) 12 (zB (zU w48_8 29 0 (((4 : Int32) * x3) + v4_48_8).toNatClampNeg (0 : Int32)) (fun s32 => zB (v4_48_8 + 1) (fun x33 => fX9_open_48 a1 x3 k48_8 n48_8 x33 s32)))
def fX9_open (a1 : Int32) (a2 : Int32) (σ : zS) : Option (Int32 × zS) := zCi (fX9_within a1 (1 : Int32) (5 : Int32) σ) (fun x2 s1 => if x2 = 0 then some ((-2 : Int32), s1) else if (s1 21 0 14) = (3 : Int32) then some ((-4 : Int32), s1) else zB (s1 21 0 14) (fun x3 => zIx x3 3 (zB (zU s1 27 0 x3.toNatClampNeg (s1 21 0 13)) (fun s5 => zIx x3 3 (zB (zU s5 28 0 x3.toNatClampNeg a1) (fun s7 => fX9_open_48 a1 x3 (fun (y48_8 : zS) => (fX9_open_84 a1 a2 x3 (fun (y84_9 : zS) => (zB (zU y84_9 21 0 14 ((y84_9 21 0 14) + (1 : Int32))) (fun s10 => zB (zU s10 21 0 13 ((s10 21 0 13) + (1 : Int32))) (fun s11 => some ((s11 21 0 13) - (1 : Int32), s11))) : Option (Int32 × zS))) zN (0 : Int32) y48_8 : Option (Int32 × zS))) zN (0 : Int32) s7))))))
abbrev rmX9_open : Room := { frames := 1, cells := 0, slots := 0, locals := 22 }
set_option maxRecDepth 100000 in
set_option maxHeartbeats 4000000 in
theorem tX9_open (l : Launch) (σ : zS) (a1 : Int32) (a2 : Int32) : zMi l yX9_open cX9_open 7 (some .int) rmX9_open (fun ad => [.ref (ad 21 0), .int a1, .int a2]) σ (fX9_open a1 a2 σ) := by
  refine zMi.of RX9 (by decide +kernel) rfl (fun _ => Nat.le_of_ble_eq_true rfl) (fun _ => zcat rfl) (fun K t F hR hL E => ?_)
  show ZO K t 0 [some (.ref (zad K 21 0)), some (.int a1), some (.int a2), none, none, none, none] [] σ (zCi (fX9_within a1 (1 : Int32) (5 : Int32) σ) (fun x2 s1 => if x2 = 0 then some ((-2 : Int32), s1) else if (s1 21 0 14) = (3 : Int32) then some ((-4 : Int32), s1) else zB (s1 21 0 14) (fun x3 => zIx x3 3 (zB (zU s1 27 0 x3.toNatClampNeg (s1 21 0 13)) (fun s5 => zIx x3 3 (zB (zU s5 28 0 x3.toNatClampNeg a1) (fun s7 => fX9_open_48 a1 x3 (fun (y48_8 : zS) => (fX9_open_84 a1 a2 x3 (fun (y84_9 : zS) => (zB (zU y84_9 21 0 14 ((y84_9 21 0 14) + (1 : Int32))) (fun s10 => zB (zU s10 21 0 13 ((s10 21 0 13) + (1 : Int32))) (fun s11 => some ((s11 21 0 13) - (1 : Int32), s11))) : Option (Int32 × zS))) zN (0 : Int32) y48_8 : Option (Int32 × zS))) zN (0 : Int32) s7)))))))
  refine z_iload_n (pc := 0) F dX9_open_0 rfl ?_
  refine z_iconst (pc := 1) F (v := 1) dX9_open_1 (by decide) ?_
  refine z_iconst (pc := 2) F (v := 5) dX9_open_2 (by decide) ?_
  refine z_callSi (pc := 3) (st := []) F [.int a1, .int (1 : Int32), .int (5 : Int32)] cl_RX9_68 (tX9_within (zln K) σ a1 (1 : Int32) (5 : Int32)) rfl (by rw [hR]; exact ⟨rfl, rfl, Nat.le_of_ble_eq_true rfl, Nat.le_of_ble_eq_true rfl⟩) rfl rfl (Nat.le_of_ble_eq_true rfl) dX9_open_3 (fun x2 s1 => ?_)
  refine z_if_ne (pc := 6) F 12 dX9_open_6 (by decide) (fun h40 => ?_) (fun h40 => ?_)
  · refine z_aload_n (pc := 12) F dX9_open_12 rfl ?_
    refine z_get (pc := 13) F 21 0 14 (v := .int (s1 21 0 14)) (by decide) (fun _ => rfl) rfl (by decide) inlX9 lk_RX9_140 rfl dX9_open_13 ?_
    refine z_iconst (pc := 16) F (v := 3) dX9_open_16 (by decide) ?_
    refine z_icmp_ne (pc := 17) F 23 dX9_open_17 (by decide) (fun h39 => ?_) (fun h39 => ?_)
    · refine z_aload_n (pc := 23) F dX9_open_23 rfl ?_
      refine z_get (pc := 24) F 21 0 14 (v := .int (s1 21 0 14)) (by decide) (fun _ => rfl) rfl (by decide) inlX9 lk_RX9_140 rfl dX9_open_24 ?_
      refine z_Bi (fun x3 => ?_)
      refine z_istore_n (pc := 27) F (lv' := [some (.ref (zad K 21 0)), some (.int a1), some (.int a2), some (.int x3), none, none, none]) dX9_open_27 (zlt rfl) rfl ?_
      refine z_aload_n (pc := 28) F dX9_open_28 rfl ?_
      refine z_get (pc := 29) F 21 0 15 (v := .ref (zad K 27 0)) (by decide) (fun _ => rfl) rfl (by decide) inlX9 lk_RX9_35 rfl dX9_open_29 ?_
      refine z_iload_n (pc := 32) F dX9_open_32 rfl ?_
      refine z_aload_n (pc := 33) F dX9_open_33 rfl ?_
      refine z_get (pc := 34) F 21 0 13 (v := .int (s1 21 0 13)) (by decide) (fun _ => rfl) rfl (by decide) inlX9 lk_RX9_143 rfl dX9_open_34 ?_
      refine z_ix (fun h4 => ?_)
      refine z_iast (pc := 37) F 27 0 (by decide) (fun _ _ => rfl) h4 dX9_open_37 (fun s5 => ?_)
      refine z_aload_n (pc := 38) F dX9_open_38 rfl ?_
      refine z_get (pc := 39) F 21 0 16 (v := .ref (zad K 28 0)) (by decide) (fun _ => rfl) rfl (by decide) inlX9 lk_RX9_38 rfl dX9_open_39 ?_
      refine z_iload_n (pc := 42) F dX9_open_42 rfl ?_
      refine z_iload_n (pc := 43) F dX9_open_43 rfl ?_
      refine z_ix (fun h6 => ?_)
      refine z_iast (pc := 44) F 28 0 (by decide) (fun _ _ => rfl) h6 dX9_open_44 (fun s7 => ?_)
      refine z_iconst (pc := 45) F (v := 0) dX9_open_45 (by decide) ?_
      refine z_istore (pc := 46) F (lv' := [some (.ref (zad K 21 0)), some (.int a1), some (.int a2), some (.int x3), some (.int (0 : Int32)), none, none]) dX9_open_46 (zlt rfl) rfl ?_
      have hk48_8 : ∀ (y48_8 : zS), ZO K t 81 [some (.ref (zad K 21 0)), some (.int a1), some (.int a2), some (.int x3), none, none, none] [] y48_8 ((fun (y48_8 : zS) => (fX9_open_84 a1 a2 x3 (fun (y84_9 : zS) => (zB (zU y84_9 21 0 14 ((y84_9 21 0 14) + (1 : Int32))) (fun s10 => zB (zU s10 21 0 13 ((s10 21 0 13) + (1 : Int32))) (fun s11 => some ((s11 21 0 13) - (1 : Int32), s11))) : Option (Int32 × zS))) zN (0 : Int32) y48_8 : Option (Int32 × zS))) y48_8) := by
        intro y48_8
        show ZO K t 81 [some (.ref (zad K 21 0)), some (.int a1), some (.int a2), some (.int x3), none, none, none] [] y48_8 (fX9_open_84 a1 a2 x3 (fun (y84_9 : zS) => (zB (zU y84_9 21 0 14 ((y84_9 21 0 14) + (1 : Int32))) (fun s10 => zB (zU s10 21 0 13 ((s10 21 0 13) + (1 : Int32))) (fun s11 => some ((s11 21 0 13) - (1 : Int32), s11))) : Option (Int32 × zS))) zN (0 : Int32) y48_8)
        refine z_iconst (pc := 81) F (v := 0) dX9_open_81 (by decide) ?_
        refine z_istore (pc := 82) F (lv' := [some (.ref (zad K 21 0)), some (.int a1), some (.int a2), some (.int x3), some (.int (0 : Int32)), none, none]) dX9_open_82 (zlt rfl) rfl ?_
        have hk84_9 : ∀ (y84_9 : zS), ZO K t 187 [some (.ref (zad K 21 0)), none, none, none, none, none, none] [] y84_9 ((fun (y84_9 : zS) => (zB (zU y84_9 21 0 14 ((y84_9 21 0 14) + (1 : Int32))) (fun s10 => zB (zU s10 21 0 13 ((s10 21 0 13) + (1 : Int32))) (fun s11 => some ((s11 21 0 13) - (1 : Int32), s11))) : Option (Int32 × zS))) y84_9) := by
          intro y84_9
          show ZO K t 187 [some (.ref (zad K 21 0)), none, none, none, none, none, none] [] y84_9 (zB (zU y84_9 21 0 14 ((y84_9 21 0 14) + (1 : Int32))) (fun s10 => zB (zU s10 21 0 13 ((s10 21 0 13) + (1 : Int32))) (fun s11 => some ((s11 21 0 13) - (1 : Int32), s11))))
          refine z_aload_n (pc := 187) F dX9_open_187 rfl ?_
          refine z_dup (pc := 188) F dX9_open_188 rfl ?_
          refine z_get (pc := 189) F 21 0 14 (v := .int (y84_9 21 0 14)) (by decide) (fun _ => rfl) rfl (by decide) inlX9 lk_RX9_140 rfl dX9_open_189 ?_
          refine z_iconst (pc := 192) F (v := 1) dX9_open_192 (by decide) ?_
          refine z_iadd (pc := 193) F dX9_open_193 ?_
          refine z_put (pc := 194) F 21 0 14 tyX9 tyX9_ok nmX9 (by decide) (fun _ => rfl) rfl (by decide) inlX9 lk_RX9_140 rfl (by decide +kernel) (fun _ => Nat.le_of_ble_eq_true rfl) (fun _ => rfl) dX9_open_194 (fun s10 => ?_)
          refine z_aload_n (pc := 197) F dX9_open_197 rfl ?_
          refine z_dup (pc := 198) F dX9_open_198 rfl ?_
          refine z_get (pc := 199) F 21 0 13 (v := .int (s10 21 0 13)) (by decide) (fun _ => rfl) rfl (by decide) inlX9 lk_RX9_143 rfl dX9_open_199 ?_
          refine z_iconst (pc := 202) F (v := 1) dX9_open_202 (by decide) ?_
          refine z_iadd (pc := 203) F dX9_open_203 ?_
          refine z_put (pc := 204) F 21 0 13 tyX9 tyX9_ok nmX9 (by decide) (fun _ => rfl) rfl (by decide) inlX9 lk_RX9_143 rfl (by decide +kernel) (fun _ => Nat.le_of_ble_eq_true rfl) (fun _ => rfl) dX9_open_204 (fun s11 => ?_)
          refine z_aload_n (pc := 207) F dX9_open_207 rfl ?_
          refine z_get (pc := 208) F 21 0 13 (v := .int (s11 21 0 13)) (by decide) (fun _ => rfl) rfl (by decide) inlX9 lk_RX9_143 rfl dX9_open_208 ?_
          refine z_iconst (pc := 211) F (v := 1) dX9_open_211 (by decide) ?_
          refine z_isub (pc := 212) F dX9_open_212 ?_
          exact z_iret (pc := 213) F E dX9_open_213
        have L84_9 : ∀ (n84_9 : Nat) (v4_84_9 : Int32) (w84_9 : zS), ZO K t 84 [some (.ref (zad K 21 0)), some (.int a1), some (.int a2), some (.int x3), some (.int v4_84_9), none, none] [] w84_9 (fX9_open_84 a1 a2 x3 (fun (y84_9 : zS) => (zB (zU y84_9 21 0 14 ((y84_9 21 0 14) + (1 : Int32))) (fun s10 => zB (zU s10 21 0 13 ((s10 21 0 13) + (1 : Int32))) (fun s11 => some ((s11 21 0 13) - (1 : Int32), s11))) : Option (Int32 × zS))) n84_9 v4_84_9 w84_9) := by
          revert hk84_9; generalize (fun (y84_9 : zS) => (zB (zU y84_9 21 0 14 ((y84_9 21 0 14) + (1 : Int32))) (fun s10 => zB (zU s10 21 0 13 ((s10 21 0 13) + (1 : Int32))) (fun s11 => some ((s11 21 0 13) - (1 : Int32), s11))) : Option (Int32 × zS))) = k84_9; intro hk84_9
          intro n84_9
          induction n84_9 with
          | zero => intro v4_84_9 w84_9; exact z_none
          | succ n84_9 ih84_9 =>
            intro v4_84_9 w84_9
            show ZO K t 84 [some (.ref (zad K 21 0)), some (.int a1), some (.int a2), some (.int x3), some (.int v4_84_9), none, none] [] w84_9 (if a1 ≤ v4_84_9 then k84_9 w84_9 else zCi (fX9_at x3 (0 : Int32) v4_84_9 w84_9) (fun x13 s12 => fX9_open_102 a1 v4_84_9 x13 (fun (y102_14 : zS) => (fX9_open_139 a1 a2 v4_84_9 x13 (fun (y139_15 : zS) => (zB (v4_84_9 + 1) (fun x16 => fX9_open_84 a1 a2 x3 k84_9 n84_9 x16 y139_15) : Option (Int32 × zS))) zN (0 : Int32) y102_14 : Option (Int32 × zS))) zN (0 : Int32) s12))
            refine z_iload (pc := 84) F dX9_open_84 rfl ?_
            refine z_iload_n (pc := 86) F dX9_open_86 rfl ?_
            refine z_icmp_ge (pc := 87) F 187 dX9_open_87 (by decide) (fun h30 => ?_) (fun h30 => ?_)
            · refine z_wk [true, false, false, false, false, true, true] (lv' := [some (.ref (zad K 21 0)), none, none, none, none, none, none]) rfl ?_
              exact hk84_9  w84_9
            · refine z_iload_n (pc := 90) F dX9_open_90 rfl ?_
              refine z_iconst (pc := 91) F (v := 0) dX9_open_91 (by decide) ?_
              refine z_iload (pc := 92) F dX9_open_92 rfl ?_
              refine z_callSi (pc := 94) (st := []) F [.int x3, .int (0 : Int32), .int v4_84_9] cl_RX9_146 (tX9_at (zln K) w84_9 x3 (0 : Int32) v4_84_9) rfl (by rw [hR]; exact ⟨rfl, rfl, Nat.le_of_ble_eq_true rfl, Nat.le_of_ble_eq_true rfl⟩) rfl rfl (Nat.le_of_ble_eq_true rfl) dX9_open_94 (fun x13 s12 => ?_)
              refine z_istore (pc := 97) F (lv' := [some (.ref (zad K 21 0)), some (.int a1), some (.int a2), some (.int x3), some (.int v4_84_9), some (.int x13), none]) dX9_open_97 (zlt rfl) rfl ?_
              refine z_iconst (pc := 99) F (v := 0) dX9_open_99 (by decide) ?_
              refine z_istore (pc := 100) F (lv' := [some (.ref (zad K 21 0)), some (.int a1), some (.int a2), some (.int x3), some (.int v4_84_9), some (.int x13), some (.int (0 : Int32))]) dX9_open_100 (zlt rfl) rfl ?_
              have hk102_14 : ∀ (y102_14 : zS), ZO K t 136 [some (.ref (zad K 21 0)), some (.int a1), some (.int a2), some (.int x3), some (.int v4_84_9), some (.int x13), none] [] y102_14 ((fun (y102_14 : zS) => (fX9_open_139 a1 a2 v4_84_9 x13 (fun (y139_15 : zS) => (zB (v4_84_9 + 1) (fun x16 => fX9_open_84 a1 a2 x3 k84_9 n84_9 x16 y139_15) : Option (Int32 × zS))) zN (0 : Int32) y102_14 : Option (Int32 × zS))) y102_14) := by
                intro y102_14
                show ZO K t 136 [some (.ref (zad K 21 0)), some (.int a1), some (.int a2), some (.int x3), some (.int v4_84_9), some (.int x13), none] [] y102_14 (fX9_open_139 a1 a2 v4_84_9 x13 (fun (y139_15 : zS) => (zB (v4_84_9 + 1) (fun x16 => fX9_open_84 a1 a2 x3 k84_9 n84_9 x16 y139_15) : Option (Int32 × zS))) zN (0 : Int32) y102_14)
                refine z_iconst (pc := 136) F (v := 0) dX9_open_136 (by decide) ?_
                refine z_istore (pc := 137) F (lv' := [some (.ref (zad K 21 0)), some (.int a1), some (.int a2), some (.int x3), some (.int v4_84_9), some (.int x13), some (.int (0 : Int32))]) dX9_open_137 (zlt rfl) rfl ?_
                have hk139_15 : ∀ (y139_15 : zS), ZO K t 181 [some (.ref (zad K 21 0)), some (.int a1), some (.int a2), some (.int x3), some (.int v4_84_9), none, none] [] y139_15 ((fun (y139_15 : zS) => (zB (v4_84_9 + 1) (fun x16 => fX9_open_84 a1 a2 x3 k84_9 n84_9 x16 y139_15) : Option (Int32 × zS))) y139_15) := by
                  intro y139_15
                  show ZO K t 181 [some (.ref (zad K 21 0)), some (.int a1), some (.int a2), some (.int x3), some (.int v4_84_9), none, none] [] y139_15 (zB (v4_84_9 + 1) (fun x16 => fX9_open_84 a1 a2 x3 k84_9 n84_9 x16 y139_15))
                  refine z_iincB (pc := 181) F (lv' := fun x16 => [some (.ref (zad K 21 0)), some (.int a1), some (.int a2), some (.int x3), some (.int x16), none, none]) dX9_open_181 rfl rfl (fun _ => rfl) (fun x16 => ?_)
                  refine z_goto (pc := 184) F 84 dX9_open_184 (by decide) ?_
                  exact ih84_9 x16 y139_15
                have L139_15 : ∀ (n139_15 : Nat) (v6_139_15 : Int32) (w139_15 : zS), ZO K t 139 [some (.ref (zad K 21 0)), some (.int a1), some (.int a2), some (.int x3), some (.int v4_84_9), some (.int x13), some (.int v6_139_15)] [] w139_15 (fX9_open_139 a1 a2 v4_84_9 x13 (fun (y139_15 : zS) => (zB (v4_84_9 + 1) (fun x16 => fX9_open_84 a1 a2 x3 k84_9 n84_9 x16 y139_15) : Option (Int32 × zS))) n139_15 v6_139_15 w139_15) := by
                  revert hk139_15; generalize (fun (y139_15 : zS) => (zB (v4_84_9 + 1) (fun x16 => fX9_open_84 a1 a2 x3 k84_9 n84_9 x16 y139_15) : Option (Int32 × zS))) = k139_15; intro hk139_15
                  intro n139_15
                  induction n139_15 with
                  | zero => intro v6_139_15 w139_15; exact z_none
                  | succ n139_15 ih139_15 =>
                    intro v6_139_15 w139_15
                    show ZO K t 139 [some (.ref (zad K 21 0)), some (.int a1), some (.int a2), some (.int x3), some (.int v4_84_9), some (.int x13), some (.int v6_139_15)] [] w139_15 (if (3 : Int32) ≤ v6_139_15 then k139_15 w139_15 else zGd (¬ (w139_15 21 0 12) = 0) (zIx ((x13 + a1) + v6_139_15) 480 (zB (zU w139_15 30 0 ((x13 + a1) + v6_139_15).toNatClampNeg ((((a2.toUInt32 >>> (((2 : Int32) * (((3 : Int32) * v4_84_9) + v6_139_15)).toUInt32 &&& Int32.toUInt32 31)).toInt32) &&& (3 : Int32)) - (((a2.toUInt32 >>> (((2 : Int32) * (((3 : Int32) * v4_84_9) + v6_139_15)).toUInt32 &&& Int32.toUInt32 31)).toInt32) &&& (3 : Int32)) / (w139_15 21 0 12) * (w139_15 21 0 12))) (fun s19 => zB (v6_139_15 + 1) (fun x20 => fX9_open_139 a1 a2 v4_84_9 x13 k139_15 n139_15 x20 s19)))))
                    refine z_iload (pc := 139) F dX9_open_139 rfl ?_
                    refine z_iconst (pc := 141) F (v := 3) dX9_open_141 (by decide) ?_
                    refine z_icmp_ge (pc := 142) F 181 dX9_open_142 (by decide) (fun h21 => ?_) (fun h21 => ?_)
                    · refine z_wk [true, true, true, true, true, false, false] (lv' := [some (.ref (zad K 21 0)), some (.int a1), some (.int a2), some (.int x3), some (.int v4_84_9), none, none]) rfl ?_
                      exact hk139_15  w139_15
                    · refine z_aload_n (pc := 145) F dX9_open_145 rfl ?_
                      refine z_get (pc := 146) F 21 0 18 (v := .ref (zad K 30 0)) (by decide) (fun _ => rfl) rfl (by decide) inlX9 lk_RX9_44 rfl dX9_open_146 ?_
                      refine z_iload (pc := 149) F dX9_open_149 rfl ?_
                      refine z_iload_n (pc := 151) F dX9_open_151 rfl ?_
                      refine z_iadd (pc := 152) F dX9_open_152 ?_
                      refine z_iload (pc := 153) F dX9_open_153 rfl ?_
                      refine z_iadd (pc := 155) F dX9_open_155 ?_
                      refine z_iload_n (pc := 156) F dX9_open_156 rfl ?_
                      refine z_iconst (pc := 157) F (v := 2) dX9_open_157 (by decide) ?_
                      refine z_iconst (pc := 158) F (v := 3) dX9_open_158 (by decide) ?_
                      refine z_iload (pc := 159) F dX9_open_159 rfl ?_
                      refine z_imul (pc := 161) F dX9_open_161 ?_
                      refine z_iload (pc := 162) F dX9_open_162 rfl ?_
                      refine z_iadd (pc := 164) F dX9_open_164 ?_
                      refine z_imul (pc := 165) F dX9_open_165 ?_
                      refine z_iushr (pc := 166) F dX9_open_166 ?_
                      refine z_iconst (pc := 167) F (v := 3) dX9_open_167 (by decide) ?_
                      refine z_iand (pc := 168) F dX9_open_168 ?_
                      refine z_aload_n (pc := 169) F dX9_open_169 rfl ?_
                      refine z_get (pc := 170) F 21 0 12 (v := .int (w139_15 21 0 12)) (by decide) (fun _ => rfl) rfl (by decide) inlX9 lk_RX9_32 rfl dX9_open_170 ?_
                      refine z_gd (fun h17 => ?_)
                      refine z_irem (pc := 173) F h17 dX9_open_173 ?_
                      refine z_ix (fun h18 => ?_)
                      refine z_iast (pc := 174) F 30 0 (by decide) (fun _ _ => rfl) h18 dX9_open_174 (fun s19 => ?_)
                      refine z_iincB (pc := 175) F (lv' := fun x20 => [some (.ref (zad K 21 0)), some (.int a1), some (.int a2), some (.int x3), some (.int v4_84_9), some (.int x13), some (.int x20)]) dX9_open_175 rfl rfl (fun _ => rfl) (fun x20 => ?_)
                      refine z_goto (pc := 178) F 139 dX9_open_178 (by decide) ?_
                      exact ih139_15 x20 s19
                exact L139_15 zN (0 : Int32) y102_14
              have L102_14 : ∀ (n102_14 : Nat) (v6_102_14 : Int32) (w102_14 : zS), ZO K t 102 [some (.ref (zad K 21 0)), some (.int a1), some (.int a2), some (.int x3), some (.int v4_84_9), some (.int x13), some (.int v6_102_14)] [] w102_14 (fX9_open_102 a1 v4_84_9 x13 (fun (y102_14 : zS) => (fX9_open_139 a1 a2 v4_84_9 x13 (fun (y139_15 : zS) => (zB (v4_84_9 + 1) (fun x16 => fX9_open_84 a1 a2 x3 k84_9 n84_9 x16 y139_15) : Option (Int32 × zS))) zN (0 : Int32) y102_14 : Option (Int32 × zS))) n102_14 v6_102_14 w102_14) := by
                revert hk102_14; generalize (fun (y102_14 : zS) => (fX9_open_139 a1 a2 v4_84_9 x13 (fun (y139_15 : zS) => (zB (v4_84_9 + 1) (fun x16 => fX9_open_84 a1 a2 x3 k84_9 n84_9 x16 y139_15) : Option (Int32 × zS))) zN (0 : Int32) y102_14 : Option (Int32 × zS))) = k102_14; intro hk102_14
                intro n102_14
                induction n102_14 with
                | zero => intro v6_102_14 w102_14; exact z_none
                | succ n102_14 ih102_14 =>
                  intro v6_102_14 w102_14
                  show ZO K t 102 [some (.ref (zad K 21 0)), some (.int a1), some (.int a2), some (.int x3), some (.int v4_84_9), some (.int x13), some (.int v6_102_14)] [] w102_14 (if a1 ≤ v6_102_14 then k102_14 w102_14 else if v6_102_14 = v4_84_9 then zIx (x13 + v6_102_14) 480 (zB (zU w102_14 30 0 (x13 + v6_102_14).toNatClampNeg (1 : Int32)) (fun s26 => zB (v6_102_14 + 1) (fun x27 => fX9_open_102 a1 v4_84_9 x13 k102_14 n102_14 x27 s26))) else zIx (x13 + v6_102_14) 480 (zB (zU w102_14 30 0 (x13 + v6_102_14).toNatClampNeg (0 : Int32)) (fun s23 => zB (v6_102_14 + 1) (fun x24 => fX9_open_102 a1 v4_84_9 x13 k102_14 n102_14 x24 s23))))
                  refine z_iload (pc := 102) F dX9_open_102 rfl ?_
                  refine z_iload_n (pc := 104) F dX9_open_104 rfl ?_
                  refine z_icmp_ge (pc := 105) F 136 dX9_open_105 (by decide) (fun h29 => ?_) (fun h29 => ?_)
                  · refine z_wk [true, true, true, true, true, true, false] (lv' := [some (.ref (zad K 21 0)), some (.int a1), some (.int a2), some (.int x3), some (.int v4_84_9), some (.int x13), none]) rfl ?_
                    exact hk102_14  w102_14
                  · refine z_aload_n (pc := 108) F dX9_open_108 rfl ?_
                    refine z_get (pc := 109) F 21 0 18 (v := .ref (zad K 30 0)) (by decide) (fun _ => rfl) rfl (by decide) inlX9 lk_RX9_44 rfl dX9_open_109 ?_
                    refine z_iload (pc := 112) F dX9_open_112 rfl ?_
                    refine z_iload (pc := 114) F dX9_open_114 rfl ?_
                    refine z_iadd (pc := 116) F dX9_open_116 ?_
                    refine z_iload (pc := 117) F dX9_open_117 rfl ?_
                    refine z_iload (pc := 119) F dX9_open_119 rfl ?_
                    refine z_icmp_ne (pc := 121) F 128 dX9_open_121 (by decide) (fun h28 => ?_) (fun h28 => ?_)
                    · refine z_iconst (pc := 128) F (v := 0) dX9_open_128 (by decide) ?_
                      refine z_ix (fun h22 => ?_)
                      refine z_iast (pc := 129) F 30 0 (by decide) (fun _ _ => rfl) h22 dX9_open_129 (fun s23 => ?_)
                      refine z_iincB (pc := 130) F (lv' := fun x24 => [some (.ref (zad K 21 0)), some (.int a1), some (.int a2), some (.int x3), some (.int v4_84_9), some (.int x13), some (.int x24)]) dX9_open_130 rfl rfl (fun _ => rfl) (fun x24 => ?_)
                      refine z_goto (pc := 133) F 102 dX9_open_133 (by decide) ?_
                      exact ih102_14 x24 s23
                    · refine z_iconst (pc := 124) F (v := 1) dX9_open_124 (by decide) ?_
                      refine z_goto (pc := 125) F 129 dX9_open_125 (by decide) ?_
                      refine z_ix (fun h25 => ?_)
                      refine z_iast (pc := 129) F 30 0 (by decide) (fun _ _ => rfl) h25 dX9_open_129 (fun s26 => ?_)
                      refine z_iincB (pc := 130) F (lv' := fun x27 => [some (.ref (zad K 21 0)), some (.int a1), some (.int a2), some (.int x3), some (.int v4_84_9), some (.int x13), some (.int x27)]) dX9_open_130 rfl rfl (fun _ => rfl) (fun x27 => ?_)
                      refine z_goto (pc := 133) F 102 dX9_open_133 (by decide) ?_
                      exact ih102_14 x27 s26
              exact L102_14 zN (0 : Int32) s12
        exact L84_9 zN (0 : Int32) y48_8
      have L48_8 : ∀ (n48_8 : Nat) (v4_48_8 : Int32) (w48_8 : zS), ZO K t 48 [some (.ref (zad K 21 0)), some (.int a1), some (.int a2), some (.int x3), some (.int v4_48_8), none, none] [] w48_8 (fX9_open_48 a1 x3 (fun (y48_8 : zS) => (fX9_open_84 a1 a2 x3 (fun (y84_9 : zS) => (zB (zU y84_9 21 0 14 ((y84_9 21 0 14) + (1 : Int32))) (fun s10 => zB (zU s10 21 0 13 ((s10 21 0 13) + (1 : Int32))) (fun s11 => some ((s11 21 0 13) - (1 : Int32), s11))) : Option (Int32 × zS))) zN (0 : Int32) y48_8 : Option (Int32 × zS))) n48_8 v4_48_8 w48_8) := by
        revert hk48_8; generalize (fun (y48_8 : zS) => (fX9_open_84 a1 a2 x3 (fun (y84_9 : zS) => (zB (zU y84_9 21 0 14 ((y84_9 21 0 14) + (1 : Int32))) (fun s10 => zB (zU s10 21 0 13 ((s10 21 0 13) + (1 : Int32))) (fun s11 => some ((s11 21 0 13) - (1 : Int32), s11))) : Option (Int32 × zS))) zN (0 : Int32) y48_8 : Option (Int32 × zS))) = k48_8; intro hk48_8
        intro n48_8
        induction n48_8 with
        | zero => intro v4_48_8 w48_8; exact z_none
        | succ n48_8 ih48_8 =>
          intro v4_48_8 w48_8
          show ZO K t 48 [some (.ref (zad K 21 0)), some (.int a1), some (.int a2), some (.int x3), some (.int v4_48_8), none, none] [] w48_8 (if (4 : Int32) ≤ v4_48_8 then k48_8 w48_8 else if v4_48_8 = 0 then zIx (((4 : Int32) * x3) + v4_48_8) 12 (zB (zU w48_8 29 0 (((4 : Int32) * x3) + v4_48_8).toNatClampNeg a1) (fun s35 => zB (v4_48_8 + 1) (fun x36 => fX9_open_48 a1 x3 k48_8 n48_8 x36 s35))) else zIx (((4 : Int32) * x3) + v4_48_8) 12 (zB (zU w48_8 29 0 (((4 : Int32) * x3) + v4_48_8).toNatClampNeg (0 : Int32)) (fun s32 => zB (v4_48_8 + 1) (fun x33 => fX9_open_48 a1 x3 k48_8 n48_8 x33 s32))))
          refine z_iload (pc := 48) F dX9_open_48 rfl ?_
          refine z_iconst (pc := 50) F (v := 4) dX9_open_50 (by decide) ?_
          refine z_icmp_ge (pc := 51) F 81 dX9_open_51 (by decide) (fun h38 => ?_) (fun h38 => ?_)
          · refine z_wk [true, true, true, true, false, true, true] (lv' := [some (.ref (zad K 21 0)), some (.int a1), some (.int a2), some (.int x3), none, none, none]) rfl ?_
            exact hk48_8  w48_8
          · refine z_aload_n (pc := 54) F dX9_open_54 rfl ?_
            refine z_get (pc := 55) F 21 0 17 (v := .ref (zad K 29 0)) (by decide) (fun _ => rfl) rfl (by decide) inlX9 lk_RX9_41 rfl dX9_open_55 ?_
            refine z_iconst (pc := 58) F (v := 4) dX9_open_58 (by decide) ?_
            refine z_iload_n (pc := 59) F dX9_open_59 rfl ?_
            refine z_imul (pc := 60) F dX9_open_60 ?_
            refine z_iload (pc := 61) F dX9_open_61 rfl ?_
            refine z_iadd (pc := 63) F dX9_open_63 ?_
            refine z_iload (pc := 64) F dX9_open_64 rfl ?_
            refine z_if_ne (pc := 66) F 73 dX9_open_66 (by decide) (fun h37 => ?_) (fun h37 => ?_)
            · refine z_iconst (pc := 73) F (v := 0) dX9_open_73 (by decide) ?_
              refine z_ix (fun h31 => ?_)
              refine z_iast (pc := 74) F 29 0 (by decide) (fun _ _ => rfl) h31 dX9_open_74 (fun s32 => ?_)
              refine z_iincB (pc := 75) F (lv' := fun x33 => [some (.ref (zad K 21 0)), some (.int a1), some (.int a2), some (.int x3), some (.int x33), none, none]) dX9_open_75 rfl rfl (fun _ => rfl) (fun x33 => ?_)
              refine z_goto (pc := 78) F 48 dX9_open_78 (by decide) ?_
              exact ih48_8 x33 s32
            · refine z_iload_n (pc := 69) F dX9_open_69 rfl ?_
              refine z_goto (pc := 70) F 74 dX9_open_70 (by decide) ?_
              refine z_ix (fun h34 => ?_)
              refine z_iast (pc := 74) F 29 0 (by decide) (fun _ _ => rfl) h34 dX9_open_74 (fun s35 => ?_)
              refine z_iincB (pc := 75) F (lv' := fun x36 => [some (.ref (zad K 21 0)), some (.int a1), some (.int a2), some (.int x3), some (.int x36), none, none]) dX9_open_75 rfl rfl (fun _ => rfl) (fun x36 => ?_)
              refine z_goto (pc := 78) F 48 dX9_open_78 (by decide) ?_
              exact ih48_8 x36 s35
      exact L48_8 zN (0 : Int32) s7
    · refine z_bipush (pc := 20) F (v := -4) dX9_open_20 (by decide) ?_
      exact z_iret (pc := 22) F E dX9_open_22
  · refine z_bipush (pc := 9) F (v := -2) dX9_open_9 (by decide) ?_
    exact z_iret (pc := 11) F E dX9_open_11
def fX9_opened (a1 : Int32) (σ : zS) : Option (Int32 × zS) := zCi (fX9_within a1 (0 : Int32) ((σ 21 0 14) - (1 : Int32)) σ) (fun x2 s1 => if x2 = 0 then some ((-1 : Int32), s1) else zIx a1 3 (some (s1 27 0 a1.toNatClampNeg, s1)))
abbrev rmX9_opened : Room := { frames := 1, cells := 0, slots := 0, locals := 22 }
set_option maxRecDepth 100000 in
set_option maxHeartbeats 4000000 in
theorem tX9_opened (l : Launch) (σ : zS) (a1 : Int32) : zMi l yX9_opened cX9_opened 2 (some .int) rmX9_opened (fun ad => [.ref (ad 21 0), .int a1]) σ (fX9_opened a1 σ) := by
  refine zMi.of RX9 (by decide +kernel) rfl (fun _ => Nat.le_of_ble_eq_true rfl) (fun _ => zcat rfl) (fun K t F hR hL E => ?_)
  show ZO K t 0 [some (.ref (zad K 21 0)), some (.int a1)] [] σ (zCi (fX9_within a1 (0 : Int32) ((σ 21 0 14) - (1 : Int32)) σ) (fun x2 s1 => if x2 = 0 then some ((-1 : Int32), s1) else zIx a1 3 (some (s1 27 0 a1.toNatClampNeg, s1))))
  refine z_iload_n (pc := 0) F dX9_opened_0 rfl ?_
  refine z_iconst (pc := 1) F (v := 0) dX9_opened_1 (by decide) ?_
  refine z_aload_n (pc := 2) F dX9_opened_2 rfl ?_
  refine z_get (pc := 3) F 21 0 14 (v := .int (σ 21 0 14)) (by decide) (fun _ => rfl) rfl (by decide) inlX9 lk_RX9_140 rfl dX9_opened_3 ?_
  refine z_iconst (pc := 6) F (v := 1) dX9_opened_6 (by decide) ?_
  refine z_isub (pc := 7) F dX9_opened_7 ?_
  refine z_callSi (pc := 8) (st := []) F [.int a1, .int (0 : Int32), .int ((σ 21 0 14) - (1 : Int32))] cl_RX9_68 (tX9_within (zln K) σ a1 (0 : Int32) ((σ 21 0 14) - (1 : Int32))) rfl (by rw [hR]; exact ⟨rfl, rfl, Nat.le_of_ble_eq_true rfl, Nat.le_of_ble_eq_true rfl⟩) rfl rfl (Nat.le_of_ble_eq_true rfl) dX9_opened_8 (fun x2 s1 => ?_)
  refine z_if_eq (pc := 11) F 23 dX9_opened_11 (by decide) (fun h4 => ?_) (fun h4 => ?_)
  · refine z_iconst (pc := 23) F (v := -1) dX9_opened_23 (by decide) ?_
    exact z_iret (pc := 24) F E dX9_opened_24
  · refine z_aload_n (pc := 14) F dX9_opened_14 rfl ?_
    refine z_get (pc := 15) F 21 0 15 (v := .ref (zad K 27 0)) (by decide) (fun _ => rfl) rfl (by decide) inlX9 lk_RX9_35 rfl dX9_opened_15 ?_
    refine z_iload_n (pc := 18) F dX9_opened_18 rfl ?_
    refine z_ix (fun h3 => ?_)
    refine z_iald (pc := 19) F 27 0 (by decide) (fun _ => rfl) h3 dX9_opened_19 ?_
    refine z_goto (pc := 20) F 24 dX9_opened_20 (by decide) ?_
    exact z_iret (pc := 24) F E dX9_opened_24
def fX9_openers_4 (a1 : Int32) (k4_1 : Int32 → zS → Option (Int32 × zS)) : Nat → Int32 → Int32 → zS → Option (Int32 × zS)
  | 0, _, _, _ => none
  | (n4_1 + 1), v2_4_1, v3_4_1, w4_1 => if (8 : Int32) ≤ v3_4_1 then k4_1 v2_4_1 w4_1 else zCi (fX9_isIn (w4_1 21 0 6) v3_4_1 w4_1) (fun x3 s2 => if x3 = 0 then zB (v2_4_1 ||| (0 : Int32)) (fun x4 => zB (v3_4_1 + 1) (fun x5 => fX9_openers_4 a1 k4_1 n4_1 x4 x5 s2)) else zCi (fX9_readBy v3_4_1 a1 s2) (fun x7 s6 => if x7 = (-9 : Int32) then zB (v2_4_1 ||| (0 : Int32)) (fun x8 => zB (v3_4_1 + 1) (fun x9 => fX9_openers_4 a1 k4_1 n4_1 x8 x9 s6)) else zB (v2_4_1 ||| ((1 : Int32) <<< (v3_4_1 &&& 31))) (fun x10 => zB (v3_4_1 + 1) (fun x11 => fX9_openers_4 a1 k4_1 n4_1 x10 x11 s6))))
def fX9_openers (a1 : Int32) (σ : zS) : Option (Int32 × zS) := fX9_openers_4 a1 (fun (u2_4_1 : Int32) (y4_1 : zS) => (some (u2_4_1, y4_1) : Option (Int32 × zS))) zN (0 : Int32) (0 : Int32) σ
abbrev rmX9_openers : Room := { frames := 2, cells := 0, slots := 0, locals := 46 }
set_option maxRecDepth 100000 in
set_option maxHeartbeats 4000000 in
theorem tX9_openers (l : Launch) (σ : zS) (a1 : Int32) : zMi l yX9_openers cX9_openers 4 (some .int) rmX9_openers (fun ad => [.ref (ad 21 0), .int a1]) σ (fX9_openers a1 σ) := by
  refine zMi.of RX9 (by decide +kernel) rfl (fun _ => Nat.le_of_ble_eq_true rfl) (fun _ => zcat rfl) (fun K t F hR hL E => ?_)
  show ZO K t 0 [some (.ref (zad K 21 0)), some (.int a1), none, none] [] σ (fX9_openers_4 a1 (fun (u2_4_1 : Int32) (y4_1 : zS) => (some (u2_4_1, y4_1) : Option (Int32 × zS))) zN (0 : Int32) (0 : Int32) σ)
  refine z_iconst (pc := 0) F (v := 0) dX9_openers_0 (by decide) ?_
  refine z_istore_n (pc := 1) F (lv' := [some (.ref (zad K 21 0)), some (.int a1), some (.int (0 : Int32)), none]) dX9_openers_1 (zlt rfl) rfl ?_
  refine z_iconst (pc := 2) F (v := 0) dX9_openers_2 (by decide) ?_
  refine z_istore_n (pc := 3) F (lv' := [some (.ref (zad K 21 0)), some (.int a1), some (.int (0 : Int32)), some (.int (0 : Int32))]) dX9_openers_3 (zlt rfl) rfl ?_
  have hk4_1 : ∀ (u2_4_1 : Int32) (y4_1 : zS), ZO K t 48 [none, none, some (.int u2_4_1), none] [] y4_1 ((fun (u2_4_1 : Int32) (y4_1 : zS) => (some (u2_4_1, y4_1) : Option (Int32 × zS))) u2_4_1 y4_1) := by
    intro u2_4_1 y4_1
    show ZO K t 48 [none, none, some (.int u2_4_1), none] [] y4_1 (some (u2_4_1, y4_1))
    refine z_iload_n (pc := 48) F dX9_openers_48 rfl ?_
    exact z_iret (pc := 49) F E dX9_openers_49
  have L4_1 : ∀ (n4_1 : Nat) (v2_4_1 : Int32) (v3_4_1 : Int32) (w4_1 : zS), ZO K t 4 [some (.ref (zad K 21 0)), some (.int a1), some (.int v2_4_1), some (.int v3_4_1)] [] w4_1 (fX9_openers_4 a1 (fun (u2_4_1 : Int32) (y4_1 : zS) => (some (u2_4_1, y4_1) : Option (Int32 × zS))) n4_1 v2_4_1 v3_4_1 w4_1) := by
    revert hk4_1; generalize (fun (u2_4_1 : Int32) (y4_1 : zS) => (some (u2_4_1, y4_1) : Option (Int32 × zS))) = k4_1; intro hk4_1
    intro n4_1
    induction n4_1 with
    | zero => intro v2_4_1 v3_4_1 w4_1; exact z_none
    | succ n4_1 ih4_1 =>
      intro v2_4_1 v3_4_1 w4_1
      show ZO K t 4 [some (.ref (zad K 21 0)), some (.int a1), some (.int v2_4_1), some (.int v3_4_1)] [] w4_1 (if (8 : Int32) ≤ v3_4_1 then k4_1 v2_4_1 w4_1 else zCi (fX9_isIn (w4_1 21 0 6) v3_4_1 w4_1) (fun x3 s2 => if x3 = 0 then zB (v2_4_1 ||| (0 : Int32)) (fun x4 => zB (v3_4_1 + 1) (fun x5 => fX9_openers_4 a1 k4_1 n4_1 x4 x5 s2)) else zCi (fX9_readBy v3_4_1 a1 s2) (fun x7 s6 => if x7 = (-9 : Int32) then zB (v2_4_1 ||| (0 : Int32)) (fun x8 => zB (v3_4_1 + 1) (fun x9 => fX9_openers_4 a1 k4_1 n4_1 x8 x9 s6)) else zB (v2_4_1 ||| ((1 : Int32) <<< (v3_4_1 &&& 31))) (fun x10 => zB (v3_4_1 + 1) (fun x11 => fX9_openers_4 a1 k4_1 n4_1 x10 x11 s6)))))
      refine z_iload_n (pc := 4) F dX9_openers_4 rfl ?_
      refine z_bipush (pc := 5) F (v := 8) dX9_openers_5 (by decide) ?_
      refine z_icmp_ge (pc := 7) F 48 dX9_openers_7 (by decide) (fun h14 => ?_) (fun h14 => ?_)
      · refine z_wk [false, false, true, false] (lv' := [none, none, some (.int v2_4_1), none]) rfl ?_
        exact hk4_1 v2_4_1 w4_1
      · refine z_iload_n (pc := 10) F dX9_openers_10 rfl ?_
        refine z_aload_n (pc := 11) F dX9_openers_11 rfl ?_
        refine z_get (pc := 12) F 21 0 6 (v := .int (w4_1 21 0 6)) (by decide) (fun _ => rfl) rfl (by decide) inlX9 lk_RX9_22 rfl dX9_openers_12 ?_
        refine z_iload_n (pc := 15) F dX9_openers_15 rfl ?_
        refine z_callSi (pc := 16) (st := [.int v2_4_1]) F [.int (w4_1 21 0 6), .int v3_4_1] cl_RX9_75 (tX9_isIn (zln K) w4_1 (w4_1 21 0 6) v3_4_1) rfl (by rw [hR]; exact ⟨rfl, rfl, Nat.le_of_ble_eq_true rfl, Nat.le_of_ble_eq_true rfl⟩) rfl rfl (Nat.le_of_ble_eq_true rfl) dX9_openers_16 (fun x3 s2 => ?_)
        refine z_if_eq (pc := 19) F 39 dX9_openers_19 (by decide) (fun h13 => ?_) (fun h13 => ?_)
        · refine z_iconst (pc := 39) F (v := 0) dX9_openers_39 (by decide) ?_
          refine z_ior (pc := 40) F dX9_openers_40 ?_
          refine z_Bi (fun x4 => ?_)
          refine z_istore_n (pc := 41) F (lv' := [some (.ref (zad K 21 0)), some (.int a1), some (.int x4), some (.int v3_4_1)]) dX9_openers_41 (zlt rfl) rfl ?_
          refine z_iincB (pc := 42) F (lv' := fun x5 => [some (.ref (zad K 21 0)), some (.int a1), some (.int x4), some (.int x5)]) dX9_openers_42 rfl rfl (fun _ => rfl) (fun x5 => ?_)
          refine z_goto (pc := 45) F 4 dX9_openers_45 (by decide) ?_
          exact ih4_1 x4 x5 s2
        · refine z_aload_n (pc := 22) F dX9_openers_22 rfl ?_
          refine z_iload_n (pc := 23) F dX9_openers_23 rfl ?_
          refine z_iload_n (pc := 24) F dX9_openers_24 rfl ?_
          refine z_callVi (pc := 25) (st := [.int v2_4_1]) F 21 0 [.int v3_4_1, .int a1] cl_RX9_109 (tX9_readBy (zln K) s2 v3_4_1 a1) rfl (by decide) (fun _ => ⟨_, rfl⟩) rfl (by rw [hR]; exact ⟨rfl, rfl, Nat.le_of_ble_eq_true rfl, Nat.le_of_ble_eq_true rfl⟩) rfl rfl (Nat.le_of_ble_eq_true rfl) dX9_openers_25 (fun x7 s6 => ?_)
          refine z_bipush (pc := 28) F (v := -9) dX9_openers_28 (by decide) ?_
          refine z_icmp_eq (pc := 30) F 39 dX9_openers_30 (by decide) (fun h12 => ?_) (fun h12 => ?_)
          · refine z_iconst (pc := 39) F (v := 0) dX9_openers_39 (by decide) ?_
            refine z_ior (pc := 40) F dX9_openers_40 ?_
            refine z_Bi (fun x8 => ?_)
            refine z_istore_n (pc := 41) F (lv' := [some (.ref (zad K 21 0)), some (.int a1), some (.int x8), some (.int v3_4_1)]) dX9_openers_41 (zlt rfl) rfl ?_
            refine z_iincB (pc := 42) F (lv' := fun x9 => [some (.ref (zad K 21 0)), some (.int a1), some (.int x8), some (.int x9)]) dX9_openers_42 rfl rfl (fun _ => rfl) (fun x9 => ?_)
            refine z_goto (pc := 45) F 4 dX9_openers_45 (by decide) ?_
            exact ih4_1 x8 x9 s6
          · refine z_iconst (pc := 33) F (v := 1) dX9_openers_33 (by decide) ?_
            refine z_iload_n (pc := 34) F dX9_openers_34 rfl ?_
            refine z_ishl (pc := 35) F dX9_openers_35 ?_
            refine z_goto (pc := 36) F 40 dX9_openers_36 (by decide) ?_
            refine z_ior (pc := 40) F dX9_openers_40 ?_
            refine z_Bi (fun x10 => ?_)
            refine z_istore_n (pc := 41) F (lv' := [some (.ref (zad K 21 0)), some (.int a1), some (.int x10), some (.int v3_4_1)]) dX9_openers_41 (zlt rfl) rfl ?_
            refine z_iincB (pc := 42) F (lv' := fun x11 => [some (.ref (zad K 21 0)), some (.int a1), some (.int x10), some (.int x11)]) dX9_openers_42 rfl rfl (fun _ => rfl) (fun x11 => ?_)
            refine z_goto (pc := 45) F 4 dX9_openers_45 (by decide) ?_
            exact ih4_1 x10 x11 s6
  exact L4_1 zN (0 : Int32) (0 : Int32) σ
def fX9_primeOnTape_35 (v1_4_1 : Int32) (v2_4_1 : Int32) (k35_3 : Int32 → zS → Option (Int32 × zS)) : Nat → Int32 → Int32 → zS → Option (Int32 × zS)
  | 0, _, _, _ => none
  | (n35_3 + 1), v3_35_3, v4_35_3, w35_3 => zIx v2_4_1 4 (if (w35_3 32 0 v2_4_1.toNatClampNeg) ≤ v4_35_3 then k35_3 v3_35_3 w35_3 else if v3_35_3 = 0 then k35_3 v3_35_3 w35_3 else zIx v4_35_3 12 (zIx (v1_4_1 + v4_35_3) 17 (if (w35_3 26 0 v4_35_3.toNatClampNeg) = (w35_3 33 0 (v1_4_1 + v4_35_3).toNatClampNeg) then zB (v4_35_3 + 1) (fun x13 => fX9_primeOnTape_35 v1_4_1 v2_4_1 k35_3 n35_3 (1 : Int32) x13 w35_3) else zB (v4_35_3 + 1) (fun x12 => fX9_primeOnTape_35 v1_4_1 v2_4_1 k35_3 n35_3 (0 : Int32) x12 w35_3))))
def fX9_primeOnTape_35_17 (v1_4_1 : Int32) (v2_4_1 : Int32) (k35_17 : Int32 → zS → Option (Int32 × zS)) : Nat → Int32 → Int32 → zS → Option (Int32 × zS)
  | 0, _, _, _ => none
  | (n35_17 + 1), v3_35_17, v4_35_17, w35_17 => zIx v2_4_1 4 (if (w35_17 32 0 v2_4_1.toNatClampNeg) ≤ v4_35_17 then k35_17 v3_35_17 w35_17 else if v3_35_17 = 0 then k35_17 v3_35_17 w35_17 else zIx v4_35_17 12 (zIx (v1_4_1 + v4_35_17) 17 (if (w35_17 26 0 v4_35_17.toNatClampNeg) = (w35_17 33 0 (v1_4_1 + v4_35_17).toNatClampNeg) then zB (v4_35_17 + 1) (fun x27 => fX9_primeOnTape_35_17 v1_4_1 v2_4_1 k35_17 n35_17 (1 : Int32) x27 w35_17) else zB (v4_35_17 + 1) (fun x26 => fX9_primeOnTape_35_17 v1_4_1 v2_4_1 k35_17 n35_17 (0 : Int32) x26 w35_17))))
def fX9_primeOnTape_4 (k4_1 : zS → Option (Int32 × zS)) : Nat → Int32 → Int32 → zS → Option (Int32 × zS)
  | 0, _, _, _ => none
  | (n4_1 + 1), v1_4_1, v2_4_1, w4_1 => if (4 : Int32) ≤ v2_4_1 then k4_1 w4_1 else zIx v2_4_1 4 (if (w4_1 21 0 11) = (w4_1 32 0 v2_4_1.toNatClampNeg) then fX9_primeOnTape_35_17 v1_4_1 v2_4_1 (fun (u3_35_17 : Int32) (y35_17 : zS) => (if u3_35_17 = 0 then zIx v2_4_1 4 (zB (v1_4_1 + (y35_17 32 0 v2_4_1.toNatClampNeg)) (fun x19 => zB (v2_4_1 + 1) (fun x20 => fX9_primeOnTape_4 k4_1 n4_1 x19 x20 y35_17))) else zIx v2_4_1 4 (some (y35_17 31 0 v2_4_1.toNatClampNeg, y35_17)) : Option (Int32 × zS))) zN (1 : Int32) (0 : Int32) w4_1 else fX9_primeOnTape_35 v1_4_1 v2_4_1 (fun (u3_35_3 : Int32) (y35_3 : zS) => (if u3_35_3 = 0 then zIx v2_4_1 4 (zB (v1_4_1 + (y35_3 32 0 v2_4_1.toNatClampNeg)) (fun x5 => zB (v2_4_1 + 1) (fun x6 => fX9_primeOnTape_4 k4_1 n4_1 x5 x6 y35_3))) else zIx v2_4_1 4 (some (y35_3 31 0 v2_4_1.toNatClampNeg, y35_3)) : Option (Int32 × zS))) zN (0 : Int32) (0 : Int32) w4_1)
def fX9_primeOnTape (σ : zS) : Option (Int32 × zS) := fX9_primeOnTape_4 (fun (y4_1 : zS) => (some ((-9 : Int32), y4_1) : Option (Int32 × zS))) zN (0 : Int32) (0 : Int32) σ
abbrev rmX9_primeOnTape : Room := { frames := 0, cells := 0, slots := 0, locals := 0 }
set_option maxRecDepth 100000 in
set_option maxHeartbeats 4000000 in
theorem tX9_primeOnTape (l : Launch) (σ : zS) : zMi l yX9_primeOnTape cX9_primeOnTape 5 (some .int) rmX9_primeOnTape (fun ad => [.ref (ad 21 0)]) σ (fX9_primeOnTape σ) := by
  refine zMi.of RX9 (by decide +kernel) rfl (fun _ => Nat.le_of_ble_eq_true rfl) (fun _ => zcat rfl) (fun K t F hR hL E => ?_)
  show ZO K t 0 [some (.ref (zad K 21 0)), none, none, none, none] [] σ (fX9_primeOnTape_4 (fun (y4_1 : zS) => (some ((-9 : Int32), y4_1) : Option (Int32 × zS))) zN (0 : Int32) (0 : Int32) σ)
  refine z_iconst (pc := 0) F (v := 0) dX9_primeOnTape_0 (by decide) ?_
  refine z_istore_n (pc := 1) F (lv' := [some (.ref (zad K 21 0)), some (.int (0 : Int32)), none, none, none]) dX9_primeOnTape_1 (zlt rfl) rfl ?_
  refine z_iconst (pc := 2) F (v := 0) dX9_primeOnTape_2 (by decide) ?_
  refine z_istore_n (pc := 3) F (lv' := [some (.ref (zad K 21 0)), some (.int (0 : Int32)), some (.int (0 : Int32)), none, none]) dX9_primeOnTape_3 (zlt rfl) rfl ?_
  have hk4_1 : ∀ (y4_1 : zS), ZO K t 107 [none, none, none, none, none] [] y4_1 ((fun (y4_1 : zS) => (some ((-9 : Int32), y4_1) : Option (Int32 × zS))) y4_1) := by
    intro y4_1
    show ZO K t 107 [none, none, none, none, none] [] y4_1 (some ((-9 : Int32), y4_1))
    refine z_bipush (pc := 107) F (v := -9) dX9_primeOnTape_107 (by decide) ?_
    exact z_iret (pc := 109) F E dX9_primeOnTape_109
  have L4_1 : ∀ (n4_1 : Nat) (v1_4_1 : Int32) (v2_4_1 : Int32) (w4_1 : zS), ZO K t 4 [some (.ref (zad K 21 0)), some (.int v1_4_1), some (.int v2_4_1), none, none] [] w4_1 (fX9_primeOnTape_4 (fun (y4_1 : zS) => (some ((-9 : Int32), y4_1) : Option (Int32 × zS))) n4_1 v1_4_1 v2_4_1 w4_1) := by
    revert hk4_1; generalize (fun (y4_1 : zS) => (some ((-9 : Int32), y4_1) : Option (Int32 × zS))) = k4_1; intro hk4_1
    intro n4_1
    induction n4_1 with
    | zero => intro v1_4_1 v2_4_1 w4_1; exact z_none
    | succ n4_1 ih4_1 =>
      intro v1_4_1 v2_4_1 w4_1
      show ZO K t 4 [some (.ref (zad K 21 0)), some (.int v1_4_1), some (.int v2_4_1), none, none] [] w4_1 (if (4 : Int32) ≤ v2_4_1 then k4_1 w4_1 else zIx v2_4_1 4 (if (w4_1 21 0 11) = (w4_1 32 0 v2_4_1.toNatClampNeg) then fX9_primeOnTape_35_17 v1_4_1 v2_4_1 (fun (u3_35_17 : Int32) (y35_17 : zS) => (if u3_35_17 = 0 then zIx v2_4_1 4 (zB (v1_4_1 + (y35_17 32 0 v2_4_1.toNatClampNeg)) (fun x19 => zB (v2_4_1 + 1) (fun x20 => fX9_primeOnTape_4 k4_1 n4_1 x19 x20 y35_17))) else zIx v2_4_1 4 (some (y35_17 31 0 v2_4_1.toNatClampNeg, y35_17)) : Option (Int32 × zS))) zN (1 : Int32) (0 : Int32) w4_1 else fX9_primeOnTape_35 v1_4_1 v2_4_1 (fun (u3_35_3 : Int32) (y35_3 : zS) => (if u3_35_3 = 0 then zIx v2_4_1 4 (zB (v1_4_1 + (y35_3 32 0 v2_4_1.toNatClampNeg)) (fun x5 => zB (v2_4_1 + 1) (fun x6 => fX9_primeOnTape_4 k4_1 n4_1 x5 x6 y35_3))) else zIx v2_4_1 4 (some (y35_3 31 0 v2_4_1.toNatClampNeg, y35_3)) : Option (Int32 × zS))) zN (0 : Int32) (0 : Int32) w4_1))
      refine z_iload_n (pc := 4) F dX9_primeOnTape_4 rfl ?_
      refine z_aload_n (pc := 5) F dX9_primeOnTape_5 rfl ?_
      refine z_get (pc := 6) F 21 0 20 (v := .ref (zad K 31 0)) (by decide) (fun _ => rfl) rfl (by decide) inlX9 lk_RX9_50 rfl dX9_primeOnTape_6 ?_
      refine z_alen (pc := 9) F 31 0 (v := 4) (by decide) (fun _ => rfl) (by decide) dX9_primeOnTape_9 ?_
      refine z_icmp_ge (pc := 10) F 107 dX9_primeOnTape_10 (by decide) (fun h32 => ?_) (fun h32 => ?_)
      · refine z_wk [false, false, false, true, true] (lv' := [none, none, none, none, none]) rfl ?_
        exact hk4_1  w4_1
      · refine z_aload_n (pc := 13) F dX9_primeOnTape_13 rfl ?_
        refine z_get (pc := 14) F 21 0 11 (v := .int (w4_1 21 0 11)) (by decide) (fun _ => rfl) rfl (by decide) inlX9 lk_RX9_134 rfl dX9_primeOnTape_14 ?_
        refine z_aload_n (pc := 17) F dX9_primeOnTape_17 rfl ?_
        refine z_get (pc := 18) F 21 0 21 (v := .ref (zad K 32 0)) (by decide) (fun _ => rfl) rfl (by decide) inlX9 lk_RX9_53 rfl dX9_primeOnTape_18 ?_
        refine z_iload_n (pc := 21) F dX9_primeOnTape_21 rfl ?_
        refine z_ix (fun h2 => ?_)
        refine z_iald (pc := 22) F 32 0 (by decide) (fun _ => rfl) h2 dX9_primeOnTape_22 ?_
        refine z_icmp_ne (pc := 23) F 30 dX9_primeOnTape_23 (by decide) (fun h31 => ?_) (fun h31 => ?_)
        · refine z_iconst (pc := 30) F (v := 0) dX9_primeOnTape_30 (by decide) ?_
          refine z_istore_n (pc := 31) F (lv' := [some (.ref (zad K 21 0)), some (.int v1_4_1), some (.int v2_4_1), some (.int (0 : Int32)), none]) dX9_primeOnTape_31 (zlt rfl) rfl ?_
          refine z_iconst (pc := 32) F (v := 0) dX9_primeOnTape_32 (by decide) ?_
          refine z_istore (pc := 33) F (lv' := [some (.ref (zad K 21 0)), some (.int v1_4_1), some (.int v2_4_1), some (.int (0 : Int32)), some (.int (0 : Int32))]) dX9_primeOnTape_33 (zlt rfl) rfl ?_
          have hk35_3 : ∀ (u3_35_3 : Int32) (y35_3 : zS), ZO K t 81 [some (.ref (zad K 21 0)), some (.int v1_4_1), some (.int v2_4_1), some (.int u3_35_3), none] [] y35_3 ((fun (u3_35_3 : Int32) (y35_3 : zS) => (if u3_35_3 = 0 then zIx v2_4_1 4 (zB (v1_4_1 + (y35_3 32 0 v2_4_1.toNatClampNeg)) (fun x5 => zB (v2_4_1 + 1) (fun x6 => fX9_primeOnTape_4 k4_1 n4_1 x5 x6 y35_3))) else zIx v2_4_1 4 (some (y35_3 31 0 v2_4_1.toNatClampNeg, y35_3)) : Option (Int32 × zS))) u3_35_3 y35_3) := by
            intro u3_35_3 y35_3
            show ZO K t 81 [some (.ref (zad K 21 0)), some (.int v1_4_1), some (.int v2_4_1), some (.int u3_35_3), none] [] y35_3 (if u3_35_3 = 0 then zIx v2_4_1 4 (zB (v1_4_1 + (y35_3 32 0 v2_4_1.toNatClampNeg)) (fun x5 => zB (v2_4_1 + 1) (fun x6 => fX9_primeOnTape_4 k4_1 n4_1 x5 x6 y35_3))) else zIx v2_4_1 4 (some (y35_3 31 0 v2_4_1.toNatClampNeg, y35_3)))
            refine z_iload_n (pc := 81) F dX9_primeOnTape_81 rfl ?_
            refine z_if_eq (pc := 82) F 92 dX9_primeOnTape_82 (by decide) (fun h8 => ?_) (fun h8 => ?_)
            · refine z_iload_n (pc := 92) F dX9_primeOnTape_92 rfl ?_
              refine z_aload_n (pc := 93) F dX9_primeOnTape_93 rfl ?_
              refine z_get (pc := 94) F 21 0 21 (v := .ref (zad K 32 0)) (by decide) (fun _ => rfl) rfl (by decide) inlX9 lk_RX9_53 rfl dX9_primeOnTape_94 ?_
              refine z_iload_n (pc := 97) F dX9_primeOnTape_97 rfl ?_
              refine z_ix (fun h4 => ?_)
              refine z_iald (pc := 98) F 32 0 (by decide) (fun _ => rfl) h4 dX9_primeOnTape_98 ?_
              refine z_iadd (pc := 99) F dX9_primeOnTape_99 ?_
              refine z_Bi (fun x5 => ?_)
              refine z_istore_n (pc := 100) F (lv' := [some (.ref (zad K 21 0)), some (.int x5), some (.int v2_4_1), some (.int u3_35_3), none]) dX9_primeOnTape_100 (zlt rfl) rfl ?_
              refine z_iincB (pc := 101) F (lv' := fun x6 => [some (.ref (zad K 21 0)), some (.int x5), some (.int x6), some (.int u3_35_3), none]) dX9_primeOnTape_101 rfl rfl (fun _ => rfl) (fun x6 => ?_)
              refine z_goto (pc := 104) F 4 dX9_primeOnTape_104 (by decide) ?_
              refine z_wk [true, true, true, false, true] (lv' := [some (.ref (zad K 21 0)), some (.int x5), some (.int x6), none, none]) rfl ?_
              exact ih4_1 x5 x6 y35_3
            · refine z_aload_n (pc := 85) F dX9_primeOnTape_85 rfl ?_
              refine z_get (pc := 86) F 21 0 20 (v := .ref (zad K 31 0)) (by decide) (fun _ => rfl) rfl (by decide) inlX9 lk_RX9_50 rfl dX9_primeOnTape_86 ?_
              refine z_iload_n (pc := 89) F dX9_primeOnTape_89 rfl ?_
              refine z_ix (fun h7 => ?_)
              refine z_iald (pc := 90) F 31 0 (by decide) (fun _ => rfl) h7 dX9_primeOnTape_90 ?_
              exact z_iret (pc := 91) F E dX9_primeOnTape_91
          have L35_3 : ∀ (n35_3 : Nat) (v3_35_3 : Int32) (v4_35_3 : Int32) (w35_3 : zS), ZO K t 35 [some (.ref (zad K 21 0)), some (.int v1_4_1), some (.int v2_4_1), some (.int v3_35_3), some (.int v4_35_3)] [] w35_3 (fX9_primeOnTape_35 v1_4_1 v2_4_1 (fun (u3_35_3 : Int32) (y35_3 : zS) => (if u3_35_3 = 0 then zIx v2_4_1 4 (zB (v1_4_1 + (y35_3 32 0 v2_4_1.toNatClampNeg)) (fun x5 => zB (v2_4_1 + 1) (fun x6 => fX9_primeOnTape_4 k4_1 n4_1 x5 x6 y35_3))) else zIx v2_4_1 4 (some (y35_3 31 0 v2_4_1.toNatClampNeg, y35_3)) : Option (Int32 × zS))) n35_3 v3_35_3 v4_35_3 w35_3) := by
            revert hk35_3; generalize (fun (u3_35_3 : Int32) (y35_3 : zS) => (if u3_35_3 = 0 then zIx v2_4_1 4 (zB (v1_4_1 + (y35_3 32 0 v2_4_1.toNatClampNeg)) (fun x5 => zB (v2_4_1 + 1) (fun x6 => fX9_primeOnTape_4 k4_1 n4_1 x5 x6 y35_3))) else zIx v2_4_1 4 (some (y35_3 31 0 v2_4_1.toNatClampNeg, y35_3)) : Option (Int32 × zS))) = k35_3; intro hk35_3
            intro n35_3
            induction n35_3 with
            | zero => intro v3_35_3 v4_35_3 w35_3; exact z_none
            | succ n35_3 ih35_3 =>
              intro v3_35_3 v4_35_3 w35_3
              show ZO K t 35 [some (.ref (zad K 21 0)), some (.int v1_4_1), some (.int v2_4_1), some (.int v3_35_3), some (.int v4_35_3)] [] w35_3 (zIx v2_4_1 4 (if (w35_3 32 0 v2_4_1.toNatClampNeg) ≤ v4_35_3 then k35_3 v3_35_3 w35_3 else if v3_35_3 = 0 then k35_3 v3_35_3 w35_3 else zIx v4_35_3 12 (zIx (v1_4_1 + v4_35_3) 17 (if (w35_3 26 0 v4_35_3.toNatClampNeg) = (w35_3 33 0 (v1_4_1 + v4_35_3).toNatClampNeg) then zB (v4_35_3 + 1) (fun x13 => fX9_primeOnTape_35 v1_4_1 v2_4_1 k35_3 n35_3 (1 : Int32) x13 w35_3) else zB (v4_35_3 + 1) (fun x12 => fX9_primeOnTape_35 v1_4_1 v2_4_1 k35_3 n35_3 (0 : Int32) x12 w35_3)))))
              refine z_iload (pc := 35) F dX9_primeOnTape_35 rfl ?_
              refine z_aload_n (pc := 37) F dX9_primeOnTape_37 rfl ?_
              refine z_get (pc := 38) F 21 0 21 (v := .ref (zad K 32 0)) (by decide) (fun _ => rfl) rfl (by decide) inlX9 lk_RX9_53 rfl dX9_primeOnTape_38 ?_
              refine z_iload_n (pc := 41) F dX9_primeOnTape_41 rfl ?_
              refine z_ix (fun h9 => ?_)
              refine z_iald (pc := 42) F 32 0 (by decide) (fun _ => rfl) h9 dX9_primeOnTape_42 ?_
              refine z_icmp_ge (pc := 43) F 81 dX9_primeOnTape_43 (by decide) (fun h16 => ?_) (fun h16 => ?_)
              · refine z_wk [true, true, true, true, false] (lv' := [some (.ref (zad K 21 0)), some (.int v1_4_1), some (.int v2_4_1), some (.int v3_35_3), none]) rfl ?_
                exact hk35_3 v3_35_3 w35_3
              · refine z_iload_n (pc := 46) F dX9_primeOnTape_46 rfl ?_
                refine z_if_eq (pc := 47) F 81 dX9_primeOnTape_47 (by decide) (fun h15 => ?_) (fun h15 => ?_)
                · refine z_wk [true, true, true, true, false] (lv' := [some (.ref (zad K 21 0)), some (.int v1_4_1), some (.int v2_4_1), some (.int v3_35_3), none]) rfl ?_
                  exact hk35_3 v3_35_3 w35_3
                · refine z_aload_n (pc := 50) F dX9_primeOnTape_50 rfl ?_
                  refine z_get (pc := 51) F 21 0 10 (v := .ref (zad K 26 0)) (by decide) (fun _ => rfl) rfl (by decide) inlX9 lk_RX9_29 rfl dX9_primeOnTape_51 ?_
                  refine z_iload (pc := 54) F dX9_primeOnTape_54 rfl ?_
                  refine z_ix (fun h10 => ?_)
                  refine z_iald (pc := 56) F 26 0 (by decide) (fun _ => rfl) h10 dX9_primeOnTape_56 ?_
                  refine z_aload_n (pc := 57) F dX9_primeOnTape_57 rfl ?_
                  refine z_get (pc := 58) F 21 0 22 (v := .ref (zad K 33 0)) (by decide) (fun _ => rfl) rfl (by decide) inlX9 lk_RX9_56 rfl dX9_primeOnTape_58 ?_
                  refine z_iload_n (pc := 61) F dX9_primeOnTape_61 rfl ?_
                  refine z_iload (pc := 62) F dX9_primeOnTape_62 rfl ?_
                  refine z_iadd (pc := 64) F dX9_primeOnTape_64 ?_
                  refine z_ix (fun h11 => ?_)
                  refine z_iald (pc := 65) F 33 0 (by decide) (fun _ => rfl) h11 dX9_primeOnTape_65 ?_
                  refine z_icmp_ne (pc := 66) F 73 dX9_primeOnTape_66 (by decide) (fun h14 => ?_) (fun h14 => ?_)
                  · refine z_iconst (pc := 73) F (v := 0) dX9_primeOnTape_73 (by decide) ?_
                    refine z_istore_n (pc := 74) F (lv' := [some (.ref (zad K 21 0)), some (.int v1_4_1), some (.int v2_4_1), some (.int (0 : Int32)), some (.int v4_35_3)]) dX9_primeOnTape_74 (zlt rfl) rfl ?_
                    refine z_iincB (pc := 75) F (lv' := fun x12 => [some (.ref (zad K 21 0)), some (.int v1_4_1), some (.int v2_4_1), some (.int (0 : Int32)), some (.int x12)]) dX9_primeOnTape_75 rfl rfl (fun _ => rfl) (fun x12 => ?_)
                    refine z_goto (pc := 78) F 35 dX9_primeOnTape_78 (by decide) ?_
                    exact ih35_3 (0 : Int32) x12 w35_3
                  · refine z_iconst (pc := 69) F (v := 1) dX9_primeOnTape_69 (by decide) ?_
                    refine z_goto (pc := 70) F 74 dX9_primeOnTape_70 (by decide) ?_
                    refine z_istore_n (pc := 74) F (lv' := [some (.ref (zad K 21 0)), some (.int v1_4_1), some (.int v2_4_1), some (.int (1 : Int32)), some (.int v4_35_3)]) dX9_primeOnTape_74 (zlt rfl) rfl ?_
                    refine z_iincB (pc := 75) F (lv' := fun x13 => [some (.ref (zad K 21 0)), some (.int v1_4_1), some (.int v2_4_1), some (.int (1 : Int32)), some (.int x13)]) dX9_primeOnTape_75 rfl rfl (fun _ => rfl) (fun x13 => ?_)
                    refine z_goto (pc := 78) F 35 dX9_primeOnTape_78 (by decide) ?_
                    exact ih35_3 (1 : Int32) x13 w35_3
          exact L35_3 zN (0 : Int32) (0 : Int32) w4_1
        · refine z_iconst (pc := 26) F (v := 1) dX9_primeOnTape_26 (by decide) ?_
          refine z_goto (pc := 27) F 31 dX9_primeOnTape_27 (by decide) ?_
          refine z_istore_n (pc := 31) F (lv' := [some (.ref (zad K 21 0)), some (.int v1_4_1), some (.int v2_4_1), some (.int (1 : Int32)), none]) dX9_primeOnTape_31 (zlt rfl) rfl ?_
          refine z_iconst (pc := 32) F (v := 0) dX9_primeOnTape_32 (by decide) ?_
          refine z_istore (pc := 33) F (lv' := [some (.ref (zad K 21 0)), some (.int v1_4_1), some (.int v2_4_1), some (.int (1 : Int32)), some (.int (0 : Int32))]) dX9_primeOnTape_33 (zlt rfl) rfl ?_
          have hk35_17 : ∀ (u3_35_17 : Int32) (y35_17 : zS), ZO K t 81 [some (.ref (zad K 21 0)), some (.int v1_4_1), some (.int v2_4_1), some (.int u3_35_17), none] [] y35_17 ((fun (u3_35_17 : Int32) (y35_17 : zS) => (if u3_35_17 = 0 then zIx v2_4_1 4 (zB (v1_4_1 + (y35_17 32 0 v2_4_1.toNatClampNeg)) (fun x19 => zB (v2_4_1 + 1) (fun x20 => fX9_primeOnTape_4 k4_1 n4_1 x19 x20 y35_17))) else zIx v2_4_1 4 (some (y35_17 31 0 v2_4_1.toNatClampNeg, y35_17)) : Option (Int32 × zS))) u3_35_17 y35_17) := by
            intro u3_35_17 y35_17
            show ZO K t 81 [some (.ref (zad K 21 0)), some (.int v1_4_1), some (.int v2_4_1), some (.int u3_35_17), none] [] y35_17 (if u3_35_17 = 0 then zIx v2_4_1 4 (zB (v1_4_1 + (y35_17 32 0 v2_4_1.toNatClampNeg)) (fun x19 => zB (v2_4_1 + 1) (fun x20 => fX9_primeOnTape_4 k4_1 n4_1 x19 x20 y35_17))) else zIx v2_4_1 4 (some (y35_17 31 0 v2_4_1.toNatClampNeg, y35_17)))
            refine z_iload_n (pc := 81) F dX9_primeOnTape_81 rfl ?_
            refine z_if_eq (pc := 82) F 92 dX9_primeOnTape_82 (by decide) (fun h22 => ?_) (fun h22 => ?_)
            · refine z_iload_n (pc := 92) F dX9_primeOnTape_92 rfl ?_
              refine z_aload_n (pc := 93) F dX9_primeOnTape_93 rfl ?_
              refine z_get (pc := 94) F 21 0 21 (v := .ref (zad K 32 0)) (by decide) (fun _ => rfl) rfl (by decide) inlX9 lk_RX9_53 rfl dX9_primeOnTape_94 ?_
              refine z_iload_n (pc := 97) F dX9_primeOnTape_97 rfl ?_
              refine z_ix (fun h18 => ?_)
              refine z_iald (pc := 98) F 32 0 (by decide) (fun _ => rfl) h18 dX9_primeOnTape_98 ?_
              refine z_iadd (pc := 99) F dX9_primeOnTape_99 ?_
              refine z_Bi (fun x19 => ?_)
              refine z_istore_n (pc := 100) F (lv' := [some (.ref (zad K 21 0)), some (.int x19), some (.int v2_4_1), some (.int u3_35_17), none]) dX9_primeOnTape_100 (zlt rfl) rfl ?_
              refine z_iincB (pc := 101) F (lv' := fun x20 => [some (.ref (zad K 21 0)), some (.int x19), some (.int x20), some (.int u3_35_17), none]) dX9_primeOnTape_101 rfl rfl (fun _ => rfl) (fun x20 => ?_)
              refine z_goto (pc := 104) F 4 dX9_primeOnTape_104 (by decide) ?_
              refine z_wk [true, true, true, false, true] (lv' := [some (.ref (zad K 21 0)), some (.int x19), some (.int x20), none, none]) rfl ?_
              exact ih4_1 x19 x20 y35_17
            · refine z_aload_n (pc := 85) F dX9_primeOnTape_85 rfl ?_
              refine z_get (pc := 86) F 21 0 20 (v := .ref (zad K 31 0)) (by decide) (fun _ => rfl) rfl (by decide) inlX9 lk_RX9_50 rfl dX9_primeOnTape_86 ?_
              refine z_iload_n (pc := 89) F dX9_primeOnTape_89 rfl ?_
              refine z_ix (fun h21 => ?_)
              refine z_iald (pc := 90) F 31 0 (by decide) (fun _ => rfl) h21 dX9_primeOnTape_90 ?_
              exact z_iret (pc := 91) F E dX9_primeOnTape_91
          have L35_17 : ∀ (n35_17 : Nat) (v3_35_17 : Int32) (v4_35_17 : Int32) (w35_17 : zS), ZO K t 35 [some (.ref (zad K 21 0)), some (.int v1_4_1), some (.int v2_4_1), some (.int v3_35_17), some (.int v4_35_17)] [] w35_17 (fX9_primeOnTape_35_17 v1_4_1 v2_4_1 (fun (u3_35_17 : Int32) (y35_17 : zS) => (if u3_35_17 = 0 then zIx v2_4_1 4 (zB (v1_4_1 + (y35_17 32 0 v2_4_1.toNatClampNeg)) (fun x19 => zB (v2_4_1 + 1) (fun x20 => fX9_primeOnTape_4 k4_1 n4_1 x19 x20 y35_17))) else zIx v2_4_1 4 (some (y35_17 31 0 v2_4_1.toNatClampNeg, y35_17)) : Option (Int32 × zS))) n35_17 v3_35_17 v4_35_17 w35_17) := by
            revert hk35_17; generalize (fun (u3_35_17 : Int32) (y35_17 : zS) => (if u3_35_17 = 0 then zIx v2_4_1 4 (zB (v1_4_1 + (y35_17 32 0 v2_4_1.toNatClampNeg)) (fun x19 => zB (v2_4_1 + 1) (fun x20 => fX9_primeOnTape_4 k4_1 n4_1 x19 x20 y35_17))) else zIx v2_4_1 4 (some (y35_17 31 0 v2_4_1.toNatClampNeg, y35_17)) : Option (Int32 × zS))) = k35_17; intro hk35_17
            intro n35_17
            induction n35_17 with
            | zero => intro v3_35_17 v4_35_17 w35_17; exact z_none
            | succ n35_17 ih35_17 =>
              intro v3_35_17 v4_35_17 w35_17
              show ZO K t 35 [some (.ref (zad K 21 0)), some (.int v1_4_1), some (.int v2_4_1), some (.int v3_35_17), some (.int v4_35_17)] [] w35_17 (zIx v2_4_1 4 (if (w35_17 32 0 v2_4_1.toNatClampNeg) ≤ v4_35_17 then k35_17 v3_35_17 w35_17 else if v3_35_17 = 0 then k35_17 v3_35_17 w35_17 else zIx v4_35_17 12 (zIx (v1_4_1 + v4_35_17) 17 (if (w35_17 26 0 v4_35_17.toNatClampNeg) = (w35_17 33 0 (v1_4_1 + v4_35_17).toNatClampNeg) then zB (v4_35_17 + 1) (fun x27 => fX9_primeOnTape_35_17 v1_4_1 v2_4_1 k35_17 n35_17 (1 : Int32) x27 w35_17) else zB (v4_35_17 + 1) (fun x26 => fX9_primeOnTape_35_17 v1_4_1 v2_4_1 k35_17 n35_17 (0 : Int32) x26 w35_17)))))
              refine z_iload (pc := 35) F dX9_primeOnTape_35 rfl ?_
              refine z_aload_n (pc := 37) F dX9_primeOnTape_37 rfl ?_
              refine z_get (pc := 38) F 21 0 21 (v := .ref (zad K 32 0)) (by decide) (fun _ => rfl) rfl (by decide) inlX9 lk_RX9_53 rfl dX9_primeOnTape_38 ?_
              refine z_iload_n (pc := 41) F dX9_primeOnTape_41 rfl ?_
              refine z_ix (fun h23 => ?_)
              refine z_iald (pc := 42) F 32 0 (by decide) (fun _ => rfl) h23 dX9_primeOnTape_42 ?_
              refine z_icmp_ge (pc := 43) F 81 dX9_primeOnTape_43 (by decide) (fun h30 => ?_) (fun h30 => ?_)
              · refine z_wk [true, true, true, true, false] (lv' := [some (.ref (zad K 21 0)), some (.int v1_4_1), some (.int v2_4_1), some (.int v3_35_17), none]) rfl ?_
                exact hk35_17 v3_35_17 w35_17
              · refine z_iload_n (pc := 46) F dX9_primeOnTape_46 rfl ?_
                refine z_if_eq (pc := 47) F 81 dX9_primeOnTape_47 (by decide) (fun h29 => ?_) (fun h29 => ?_)
                · refine z_wk [true, true, true, true, false] (lv' := [some (.ref (zad K 21 0)), some (.int v1_4_1), some (.int v2_4_1), some (.int v3_35_17), none]) rfl ?_
                  exact hk35_17 v3_35_17 w35_17
                · refine z_aload_n (pc := 50) F dX9_primeOnTape_50 rfl ?_
                  refine z_get (pc := 51) F 21 0 10 (v := .ref (zad K 26 0)) (by decide) (fun _ => rfl) rfl (by decide) inlX9 lk_RX9_29 rfl dX9_primeOnTape_51 ?_
                  refine z_iload (pc := 54) F dX9_primeOnTape_54 rfl ?_
                  refine z_ix (fun h24 => ?_)
                  refine z_iald (pc := 56) F 26 0 (by decide) (fun _ => rfl) h24 dX9_primeOnTape_56 ?_
                  refine z_aload_n (pc := 57) F dX9_primeOnTape_57 rfl ?_
                  refine z_get (pc := 58) F 21 0 22 (v := .ref (zad K 33 0)) (by decide) (fun _ => rfl) rfl (by decide) inlX9 lk_RX9_56 rfl dX9_primeOnTape_58 ?_
                  refine z_iload_n (pc := 61) F dX9_primeOnTape_61 rfl ?_
                  refine z_iload (pc := 62) F dX9_primeOnTape_62 rfl ?_
                  refine z_iadd (pc := 64) F dX9_primeOnTape_64 ?_
                  refine z_ix (fun h25 => ?_)
                  refine z_iald (pc := 65) F 33 0 (by decide) (fun _ => rfl) h25 dX9_primeOnTape_65 ?_
                  refine z_icmp_ne (pc := 66) F 73 dX9_primeOnTape_66 (by decide) (fun h28 => ?_) (fun h28 => ?_)
                  · refine z_iconst (pc := 73) F (v := 0) dX9_primeOnTape_73 (by decide) ?_
                    refine z_istore_n (pc := 74) F (lv' := [some (.ref (zad K 21 0)), some (.int v1_4_1), some (.int v2_4_1), some (.int (0 : Int32)), some (.int v4_35_17)]) dX9_primeOnTape_74 (zlt rfl) rfl ?_
                    refine z_iincB (pc := 75) F (lv' := fun x26 => [some (.ref (zad K 21 0)), some (.int v1_4_1), some (.int v2_4_1), some (.int (0 : Int32)), some (.int x26)]) dX9_primeOnTape_75 rfl rfl (fun _ => rfl) (fun x26 => ?_)
                    refine z_goto (pc := 78) F 35 dX9_primeOnTape_78 (by decide) ?_
                    exact ih35_17 (0 : Int32) x26 w35_17
                  · refine z_iconst (pc := 69) F (v := 1) dX9_primeOnTape_69 (by decide) ?_
                    refine z_goto (pc := 70) F 74 dX9_primeOnTape_70 (by decide) ?_
                    refine z_istore_n (pc := 74) F (lv' := [some (.ref (zad K 21 0)), some (.int v1_4_1), some (.int v2_4_1), some (.int (1 : Int32)), some (.int v4_35_17)]) dX9_primeOnTape_74 (zlt rfl) rfl ?_
                    refine z_iincB (pc := 75) F (lv' := fun x27 => [some (.ref (zad K 21 0)), some (.int v1_4_1), some (.int v2_4_1), some (.int (1 : Int32)), some (.int x27)]) dX9_primeOnTape_75 rfl rfl (fun _ => rfl) (fun x27 => ?_)
                    refine z_goto (pc := 78) F 35 dX9_primeOnTape_78 (by decide) ?_
                    exact ih35_17 (1 : Int32) x27 w35_17
          exact L35_17 zN (1 : Int32) (0 : Int32) w4_1
  exact L4_1 zN (0 : Int32) (0 : Int32) σ
