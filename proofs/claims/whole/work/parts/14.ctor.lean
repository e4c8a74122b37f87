
theorem ol_RX5_3 : Cond.methodLink RX5 3 objectInit ∈ zT := (zTin (zm1 (List.mem_of_getElem? (i := 36) rfl)) rfl)
theorem ol_inst : Cond.instanceMethod objectInit ∈ zT := (zTin (zm1 (List.mem_of_getElem? (i := 23) rfl)) rfl)
theorem ol_code : Cond.code objectInit ⟨#[0xb1]⟩ 1 none ∈ zT := (zTin (zm1 (List.mem_of_getElem? (i := 24) rfl)) rfl)
theorem ac_int : Cond.arrayClass (newarray.typeOf .int) ∈ zT := (zTin (zm1 (List.mem_of_getElem? (i := 53) rfl)) rfl)
theorem ol_RX6_3 : Cond.methodLink RX6 3 objectInit ∈ zT := (zTin (zm1 (List.mem_of_getElem? (i := 30) rfl)) rfl)
theorem cl2_RX6_18 : Cond.classLink RX6 18 RX5 ∈ zT := (zTin (zm1 (List.mem_of_getElem? (i := 31) rfl)) rfl)
theorem it_5 : Cond.instantiable RX5 3 ∈ zT := (zTin (zm1 (List.mem_of_getElem? (i := 32) rfl)) rfl)
theorem in_5 : Cond.initialized RX5 ∈ zT := (zTin (zm1 (List.mem_of_getElem? (i := 3) rfl)) rfl)
theorem ni_RX6_20 : Cond.methodLinkNest RX6 20 yX5_init "AddedLetters" ∈ zNest := List.mem_of_getElem? (i := 28) rfl
theorem ii_5 : Cond.instanceMethod yX5_init ∈ zT := (zTin (zm1 (List.mem_of_getElem? (i := 34) rfl)) rfl)
theorem ic_5 : Cond.code yX5_init cX5_init 1 none ∈ zT := (zTin (zm1 (List.mem_of_getElem? (i := 35) rfl)) rfl)
theorem ol_RX7_3 : Cond.methodLink RX7 3 objectInit ∈ zT := (zTin (zm1 (List.mem_of_getElem? (i := 91) rfl)) rfl)
theorem ol_RX0_3 : Cond.methodLink RX0 3 objectInit ∈ zT := (zTin (zm1 (List.mem_of_getElem? (i := 105) rfl)) rfl)
theorem ol_RX3_3 : Cond.methodLink RX3 3 objectInit ∈ zT := (zTin (zm1 (List.mem_of_getElem? (i := 135) rfl)) rfl)
theorem cl3_RX3_9 : Cond.classLink RX3 9 "[[I" ∈ zT := (zTin (zm1 (List.mem_of_getElem? (i := 136) rfl)) rfl)
theorem ac_int0 : Cond.arrayClass .int ∈ zT := (zTin (zm1 (List.mem_of_getElem? (i := 53) rfl)) rfl)
theorem ac_boolean : Cond.arrayClass (newarray.typeOf .boolean) ∈ zT := (zTin (zm1 (List.mem_of_getElem? (i := 148) rfl)) rfl)
theorem ol_RX1_3 : Cond.methodLink RX1 3 objectInit ∈ zT := (zTin (zm1 (List.mem_of_getElem? (i := 128) rfl)) rfl)
theorem cl3_RX1_9 : Cond.classLink RX1 9 "AddedLetters$Node" ∈ zT := (zTin (zm1 (List.mem_of_getElem? (i := 129) rfl)) rfl)
theorem cl2_RX1_9 : Cond.classLink RX1 9 RX3 ∈ zT := (zTin (zm1 (List.mem_of_getElem? (i := 129) rfl)) rfl)
theorem it_3 : Cond.instantiable RX3 2 ∈ zT := (zTin (zm1 (List.mem_of_getElem? (i := 131) rfl)) rfl)
theorem in_3 : Cond.initialized RX3 ∈ zT := (zTin (zm1 (List.mem_of_getElem? (i := 8) rfl)) rfl)
theorem ni_RX1_17 : Cond.methodLinkNest RX1 17 yX3_init "AddedLetters" ∈ zNest := List.mem_of_getElem? (i := 33) rfl
theorem ii_3 : Cond.instanceMethod yX3_init ∈ zT := (zTin (zm1 (List.mem_of_getElem? (i := 133) rfl)) rfl)
theorem ic_3 : Cond.code yX3_init cX3_init 1 none ∈ zT := (zTin (zm1 (List.mem_of_getElem? (i := 134) rfl)) rfl)
theorem ol_RX2_3 : Cond.methodLink RX2 3 objectInit ∈ zT := (zTin (zm1 (List.mem_of_getElem? (i := 121) rfl)) rfl)
theorem cl3_RX2_9 : Cond.classLink RX2 9 "AddedLetters$Generation" ∈ zT := (zTin (zm1 (List.mem_of_getElem? (i := 122) rfl)) rfl)
theorem cl2_RX2_9 : Cond.classLink RX2 9 RX1 ∈ zT := (zTin (zm1 (List.mem_of_getElem? (i := 122) rfl)) rfl)
theorem it_1 : Cond.instantiable RX1 3 ∈ zT := (zTin (zm1 (List.mem_of_getElem? (i := 124) rfl)) rfl)
theorem in_1 : Cond.initialized RX1 ∈ zT := (zTin (zm1 (List.mem_of_getElem? (i := 7) rfl)) rfl)
theorem ni_RX2_29 : Cond.methodLinkNest RX2 29 yX1_init "AddedLetters" ∈ zNest := List.mem_of_getElem? (i := 32) rfl
theorem ii_1 : Cond.instanceMethod yX1_init ∈ zT := (zTin (zm1 (List.mem_of_getElem? (i := 126) rfl)) rfl)
theorem ic_1 : Cond.code yX1_init cX1_init 2 none ∈ zT := (zTin (zm1 (List.mem_of_getElem? (i := 127) rfl)) rfl)
theorem ol_RX4_3 : Cond.methodLink RX4 3 objectInit ∈ zT := (zTin (zm1 (List.mem_of_getElem? (i := 190) rfl)) rfl)
theorem ol_RX8_3 : Cond.methodLink RX8 3 objectInit ∈ zT := (zTin (zm1 (List.mem_of_getElem? (i := 22) rfl)) rfl)
theorem cl2_RX8_9 : Cond.classLink RX8 9 RX6 ∈ zT := (zTin (zm1 (List.mem_of_getElem? (i := 25) rfl)) rfl)
theorem it_6 : Cond.instantiable RX6 8 ∈ zT := (zTin (zm1 (List.mem_of_getElem? (i := 26) rfl)) rfl)
theorem in_6 : Cond.initialized RX6 ∈ zT := (zTin (zm1 (List.mem_of_getElem? (i := 2) rfl)) rfl)
theorem ni_RX8_11 : Cond.methodLinkNest RX8 11 yX6_init "AddedLetters" ∈ zNest := List.mem_of_getElem? (i := 27) rfl
theorem ii_6 : Cond.instanceMethod yX6_init ∈ zT := (zTin (zm1 (List.mem_of_getElem? (i := 28) rfl)) rfl)
theorem ic_6 : Cond.code yX6_init cX6_init 1 none ∈ zT := (zTin (zm1 (List.mem_of_getElem? (i := 29) rfl)) rfl)
theorem cl2_RX8_16 : Cond.classLink RX8 16 RX7 ∈ zT := (zTin (zm1 (List.mem_of_getElem? (i := 86) rfl)) rfl)
theorem it_7 : Cond.instantiable RX7 2 ∈ zT := (zTin (zm1 (List.mem_of_getElem? (i := 87) rfl)) rfl)
theorem in_7 : Cond.initialized RX7 ∈ zT := (zTin (zm1 (List.mem_of_getElem? (i := 4) rfl)) rfl)
theorem ni_RX8_18 : Cond.methodLinkNest RX8 18 yX7_init "AddedLetters" ∈ zNest := List.mem_of_getElem? (i := 29) rfl
theorem ii_7 : Cond.instanceMethod yX7_init ∈ zT := (zTin (zm1 (List.mem_of_getElem? (i := 89) rfl)) rfl)
theorem ic_7 : Cond.code yX7_init cX7_init 1 none ∈ zT := (zTin (zm1 (List.mem_of_getElem? (i := 90) rfl)) rfl)
theorem cl2_RX8_23 : Cond.classLink RX8 23 RX0 ∈ zT := (zTin (zm1 (List.mem_of_getElem? (i := 100) rfl)) rfl)
theorem it_0 : Cond.instantiable RX0 2 ∈ zT := (zTin (zm1 (List.mem_of_getElem? (i := 101) rfl)) rfl)
theorem in_0 : Cond.initialized RX0 ∈ zT := (zTin (zm1 (List.mem_of_getElem? (i := 5) rfl)) rfl)
theorem ni_RX8_25 : Cond.methodLinkNest RX8 25 yX0_init "AddedLetters" ∈ zNest := List.mem_of_getElem? (i := 30) rfl
theorem ii_0 : Cond.instanceMethod yX0_init ∈ zT := (zTin (zm1 (List.mem_of_getElem? (i := 103) rfl)) rfl)
theorem ic_0 : Cond.code yX0_init cX0_init 1 none ∈ zT := (zTin (zm1 (List.mem_of_getElem? (i := 104) rfl)) rfl)
theorem cl2_RX8_30 : Cond.classLink RX8 30 RX2 ∈ zT := (zTin (zm1 (List.mem_of_getElem? (i := 116) rfl)) rfl)
theorem it_2 : Cond.instantiable RX2 6 ∈ zT := (zTin (zm1 (List.mem_of_getElem? (i := 117) rfl)) rfl)
theorem in_2 : Cond.initialized RX2 ∈ zT := (zTin (zm1 (List.mem_of_getElem? (i := 6) rfl)) rfl)
theorem ni_RX8_32 : Cond.methodLinkNest RX8 32 yX2_init "AddedLetters" ∈ zNest := List.mem_of_getElem? (i := 31) rfl
theorem ii_2 : Cond.instanceMethod yX2_init ∈ zT := (zTin (zm1 (List.mem_of_getElem? (i := 119) rfl)) rfl)
theorem ic_2 : Cond.code yX2_init cX2_init 3 none ∈ zT := (zTin (zm1 (List.mem_of_getElem? (i := 120) rfl)) rfl)
theorem cl2_RX8_39 : Cond.classLink RX8 39 RX4 ∈ zT := (zTin (zm1 (List.mem_of_getElem? (i := 185) rfl)) rfl)
theorem it_4 : Cond.instantiable RX4 2 ∈ zT := (zTin (zm1 (List.mem_of_getElem? (i := 186) rfl)) rfl)
theorem in_4 : Cond.initialized RX4 ∈ zT := (zTin (zm1 (List.mem_of_getElem? (i := 9) rfl)) rfl)
theorem ni_RX8_41 : Cond.methodLinkNest RX8 41 yX4_init "AddedLetters" ∈ zNest := List.mem_of_getElem? (i := 34) rfl
theorem ii_4 : Cond.instanceMethod yX4_init ∈ zT := (zTin (zm1 (List.mem_of_getElem? (i := 188) rfl)) rfl)
theorem ic_4 : Cond.code yX4_init cX4_init 1 none ∈ zT := (zTin (zm1 (List.mem_of_getElem? (i := 189) rfl)) rfl)
theorem ol_RX9_1 : Cond.methodLink RX9 1 objectInit ∈ zT := (zTin (zm3 (List.mem_of_getElem? (i := 171) rfl)) rfl)
abbrev rmX5_init : Room := { frames := 1, cells := 2, slots := 32, locals := 20 }
set_option maxRecDepth 100000 in
set_option maxHeartbeats 8000000 in
theorem kX5 (l : Launch) (g : zG) (h0 : Nat) : zMk l yX5_init cX5_init 1 rmX5_init [.ref h0] g [(h0, .inr (5, [.null, .null, .int 0]))] 2 32 (fun q => [(h0, .inr (5, [.ref (q 0), .ref (q 1), .int 0])), ((q 0), .inl (g.2.1 0, 16, .inl (fun _ => 0))), ((q 1), .inl (g.2.1 0, 16, .inl (fun _ => 0)))]) := by
  refine zMk.of RX5 (by decide +kernel) rfl rfl (Nat.le_of_ble_eq_true rfl) (zcat rfl) (fun K F hm hR hL hG E => ?_)
  subst hG
  show ZI K 0 [some (.ref h0)] [] [(h0, .inr (5, [.null, .null, .int 0]))] 0 0
  refine zi_aload_n (pc := 0) F dX5_init_0 rfl ?_
  refine zi_obj (pc := 1) F ol_RX5_3 ol_inst ol_code (by rw [hR]; exact ⟨Nat.le_of_ble_eq_true rfl, Nat.le_of_ble_eq_true rfl⟩) (Nat.le_of_ble_eq_true rfl) dX5_init_1 ?_
  refine zi_aload_n (pc := 4) F dX5_init_4 rfl ?_
  refine zi_bipush (pc := 5) F (v := 16) dX5_init_5 (by decide) ?_
  refine zi_newa (pc := 7) F (atype := .int) (ty := .int) 0 (N' := 16) rfl (fun _ => rfl) (fun _ _ => rfl) ac_int (fun _ => rfl) (by decide) (by decide) (by decide) (by rw [hR]; exact ⟨Nat.le_of_ble_eq_true rfl, Nat.le_of_ble_eq_true rfl⟩) dX5_init_7 (fun n1 => ?_)
  show ZI K 9 [some (.ref h0)] [.ref n1, .ref h0] [(h0, .inr (5, [.null, .null, .int 0])), (n1, .inl ((zgg K).2.1 0, 16, .inl (fun _ => 0)))] 1 16
  refine zi_putF (pc := 9) F hm 0 0 (ws' := [(h0, .inr (5, [.ref n1, .null, .int 0])), (n1, .inl ((zgg K).2.1 0, 16, .inl (fun _ => 0)))]) tyX5 tyX5_ok nmX5 rfl rfl (by decide) inlX5 lk_RX5_9 rfl rfl (tyX5_ok 0 (by decide)) rfl rfl (zlt rfl) rfl dX5_init_9 ?_
  refine zi_aload_n (pc := 12) F dX5_init_12 rfl ?_
  refine zi_bipush (pc := 13) F (v := 16) dX5_init_13 (by decide) ?_
  refine zi_newa (pc := 15) F (atype := .int) (ty := .int) 0 (N' := 16) rfl (fun _ => rfl) (fun _ _ => rfl) ac_int (fun _ => rfl) (by decide) (by decide) (by decide) (by rw [hR]; exact ⟨Nat.le_of_ble_eq_true rfl, Nat.le_of_ble_eq_true rfl⟩) dX5_init_15 (fun n2 => ?_)
  show ZI K 17 [some (.ref h0)] [.ref n2, .ref h0] [(h0, .inr (5, [.ref n1, .null, .int 0])), (n1, .inl ((zgg K).2.1 0, 16, .inl (fun _ => 0))), (n2, .inl ((zgg K).2.1 0, 16, .inl (fun _ => 0)))] 2 32
  refine zi_putF (pc := 17) F hm 0 1 (ws' := [(h0, .inr (5, [.ref n1, .ref n2, .int 0])), (n1, .inl ((zgg K).2.1 0, 16, .inl (fun _ => 0))), (n2, .inl ((zgg K).2.1 0, 16, .inl (fun _ => 0)))]) tyX5 tyX5_ok nmX5 rfl rfl (by decide) inlX5 lk_RX5_15 rfl rfl (tyX5_ok 1 (by decide)) rfl rfl (zlt rfl) rfl dX5_init_17 ?_
  exact zi_ret (pc := 20) F hm E (fun i => [n1, n2].getD i 0) [0, 1, 2] rfl (by decide) rfl dX5_init_20
abbrev rmX6_init : Room := { frames := 2, cells := 5, slots := 53, locals := 40 }
set_option maxRecDepth 100000 in
set_option maxHeartbeats 8000000 in
theorem kX6 (l : Launch) (g : zG) (h0 : Nat) : zMk l yX6_init cX6_init 1 rmX6_init [.ref h0] g [(h0, .inr (6, [.null, .null, .null, .int 0, .int 0, .int 0, .int 0, .int 0]))] 5 53 (fun q => [(h0, .inr (6, [.ref (q 0), .ref (q 1), .ref (q 2), .int 0, .int 255, .int 4, .int 0, .int 0])), ((q 0), .inl (g.2.1 0, 10, .inl (fun _ => 0))), ((q 1), .inl (g.2.1 0, 8, .inl (fun _ => 0))), ((q 2), .inr (5, [.ref (q 3), .ref (q 4), .int 0])), ((q 3), .inl (g.2.1 0, 16, .inl (fun _ => 0))), ((q 4), .inl (g.2.1 0, 16, .inl (fun _ => 0)))]) := by
  refine zMk.of RX6 (by decide +kernel) rfl rfl (Nat.le_of_ble_eq_true rfl) (zcat rfl) (fun K F hm hR hL hG E => ?_)
  subst hG
  show ZI K 0 [some (.ref h0)] [] [(h0, .inr (6, [.null, .null, .null, .int 0, .int 0, .int 0, .int 0, .int 0]))] 0 0
  refine zi_aload_n (pc := 0) F dX6_init_0 rfl ?_
  refine zi_obj (pc := 1) F ol_RX6_3 ol_inst ol_code (by rw [hR]; exact ⟨Nat.le_of_ble_eq_true rfl, Nat.le_of_ble_eq_true rfl⟩) (Nat.le_of_ble_eq_true rfl) dX6_init_1 ?_
  refine zi_aload_n (pc := 4) F dX6_init_4 rfl ?_
  refine zi_bipush (pc := 5) F (v := 10) dX6_init_5 (by decide) ?_
  refine zi_newa (pc := 7) F (atype := .int) (ty := .int) 0 (N' := 10) rfl (fun _ => rfl) (fun _ _ => rfl) ac_int (fun _ => rfl) (by decide) (by decide) (by decide) (by rw [hR]; exact ⟨Nat.le_of_ble_eq_true rfl, Nat.le_of_ble_eq_true rfl⟩) dX6_init_7 (fun n1 => ?_)
  show ZI K 9 [some (.ref h0)] [.ref n1, .ref h0] [(h0, .inr (6, [.null, .null, .null, .int 0, .int 0, .int 0, .int 0, .int 0])), (n1, .inl ((zgg K).2.1 0, 10, .inl (fun _ => 0)))] 1 10
  refine zi_putF (pc := 9) F hm 0 0 (ws' := [(h0, .inr (6, [.ref n1, .null, .null, .int 0, .int 0, .int 0, .int 0, .int 0])), (n1, .inl ((zgg K).2.1 0, 10, .inl (fun _ => 0)))]) tyX6 tyX6_ok nmX6 rfl rfl (by decide) inlX6 lk_RX6_9 rfl rfl (tyX6_ok 0 (by decide)) rfl rfl (zlt rfl) rfl dX6_init_9 ?_
  refine zi_aload_n (pc := 12) F dX6_init_12 rfl ?_
  refine zi_bipush (pc := 13) F (v := 8) dX6_init_13 (by decide) ?_
  refine zi_newa (pc := 15) F (atype := .int) (ty := .int) 0 (N' := 8) rfl (fun _ => rfl) (fun _ _ => rfl) ac_int (fun _ => rfl) (by decide) (by decide) (by decide) (by rw [hR]; exact ⟨Nat.le_of_ble_eq_true rfl, Nat.le_of_ble_eq_true rfl⟩) dX6_init_15 (fun n2 => ?_)
  show ZI K 17 [some (.ref h0)] [.ref n2, .ref h0] [(h0, .inr (6, [.ref n1, .null, .null, .int 0, .int 0, .int 0, .int 0, .int 0])), (n1, .inl ((zgg K).2.1 0, 10, .inl (fun _ => 0))), (n2, .inl ((zgg K).2.1 0, 8, .inl (fun _ => 0)))] 2 18
  refine zi_putF (pc := 17) F hm 0 1 (ws' := [(h0, .inr (6, [.ref n1, .ref n2, .null, .int 0, .int 0, .int 0, .int 0, .int 0])), (n1, .inl ((zgg K).2.1 0, 10, .inl (fun _ => 0))), (n2, .inl ((zgg K).2.1 0, 8, .inl (fun _ => 0)))]) tyX6 tyX6_ok nmX6 rfl rfl (by decide) inlX6 lk_RX6_15 rfl rfl (tyX6_ok 1 (by decide)) rfl rfl (zlt rfl) rfl dX6_init_17 ?_
  refine zi_aload_n (pc := 20) F dX6_init_20 rfl ?_
  refine zi_new (pc := 21) F (ci := 5) (fs := [.null, .null, .int 0]) tyX5 tyX5_ok inlX5 rfl cl2_RX6_18 it_5 in_5 (fun j hj => match j, hj with | 0, _ => rfl | 1, _ => rfl | 2, _ => rfl | (j + 3), hj => absurd hj (by omega)) (by rw [hR]; exact ⟨Nat.le_of_ble_eq_true rfl, Nat.le_of_ble_eq_true rfl⟩) dX6_init_21 (fun n3 => ?_)
  show ZI K 24 [some (.ref h0)] [.ref n3, .ref h0] [(h0, .inr (6, [.ref n1, .ref n2, .null, .int 0, .int 0, .int 0, .int 0, .int 0])), (n1, .inl ((zgg K).2.1 0, 10, .inl (fun _ => 0))), (n2, .inl ((zgg K).2.1 0, 8, .inl (fun _ => 0))), (n3, .inr (5, [.null, .null, .int 0]))] 3 21
  refine zi_dup (pc := 24) F dX6_init_24 rfl ?_
  refine zi_call (pc := 25) (n := 0) (st := [.ref n3, .ref h0]) (wr := [(h0, .inr (6, [.ref n1, .ref n2, .null, .int 0, .int 0, .int 0, .int 0, .int 0])), (n1, .inl ((zgg K).2.1 0, 10, .inl (fun _ => 0))), (n2, .inl ((zgg K).2.1 0, 8, .inl (fun _ => 0)))]) F [] [3] [0, 1, 2] ni_RX6_20 ii_5 in_5 ic_5 (by decide +kernel) rfl (kX5 (zln K) (zgg K) n3) (by rw [hR]; exact ⟨rfl, rfl, Nat.le_of_ble_eq_true rfl, Nat.le_of_ble_eq_true rfl⟩) (by rw [hR]; exact ⟨Nat.le_of_ble_eq_true rfl, Nat.le_of_ble_eq_true rfl⟩) rfl rfl (Nat.le_of_ble_eq_true rfl) rfl rfl (by decide) rfl (by decide) (by decide) dX6_init_25 (fun q4 => ?_)
  show ZI K 28 [some (.ref h0)] [.ref n3, .ref h0] [(h0, .inr (6, [.ref n1, .ref n2, .null, .int 0, .int 0, .int 0, .int 0, .int 0])), (n1, .inl ((zgg K).2.1 0, 10, .inl (fun _ => 0))), (n2, .inl ((zgg K).2.1 0, 8, .inl (fun _ => 0))), (n3, .inr (5, [.ref (q4 0), .ref (q4 1), .int 0])), ((q4 0), .inl ((zgg K).2.1 0, 16, .inl (fun _ => 0))), ((q4 1), .inl ((zgg K).2.1 0, 16, .inl (fun _ => 0)))] 5 53
  refine zi_putF (pc := 28) F hm 0 2 (ws' := [(h0, .inr (6, [.ref n1, .ref n2, .ref n3, .int 0, .int 0, .int 0, .int 0, .int 0])), (n1, .inl ((zgg K).2.1 0, 10, .inl (fun _ => 0))), (n2, .inl ((zgg K).2.1 0, 8, .inl (fun _ => 0))), (n3, .inr (5, [.ref (q4 0), .ref (q4 1), .int 0])), ((q4 0), .inl ((zgg K).2.1 0, 16, .inl (fun _ => 0))), ((q4 1), .inl ((zgg K).2.1 0, 16, .inl (fun _ => 0)))]) tyX6 tyX6_ok nmX6 rfl rfl (by decide) inlX6 lk_RX6_21 rfl rfl (tyX6_ok 2 (by decide)) rfl rfl (zlt rfl) rfl dX6_init_28 ?_
  refine zi_aload_n (pc := 31) F dX6_init_31 rfl ?_
  refine zi_sipush (pc := 32) F (v := 255) dX6_init_32 (by decide) ?_
  refine zi_put (pc := 35) F 0 4 (ws' := [(h0, .inr (6, [.ref n1, .ref n2, .ref n3, .int 0, .int 255, .int 0, .int 0, .int 0])), (n1, .inl ((zgg K).2.1 0, 10, .inl (fun _ => 0))), (n2, .inl ((zgg K).2.1 0, 8, .inl (fun _ => 0))), (n3, .inr (5, [.ref (q4 0), .ref (q4 1), .int 0])), ((q4 0), .inl ((zgg K).2.1 0, 16, .inl (fun _ => 0))), ((q4 1), .inl ((zgg K).2.1 0, 16, .inl (fun _ => 0)))]) tyX6 tyX6_ok nmX6 rfl rfl (by decide) inlX6 lk_RX6_25 rfl (tyX6_ok 4 (by decide)) rfl rfl (zlt rfl) rfl dX6_init_35 ?_
  refine zi_aload_n (pc := 38) F dX6_init_38 rfl ?_
  refine zi_iconst (pc := 39) F (v := 4) dX6_init_39 (by decide) ?_
  refine zi_put (pc := 40) F 0 5 (ws' := [(h0, .inr (6, [.ref n1, .ref n2, .ref n3, .int 0, .int 255, .int 4, .int 0, .int 0])), (n1, .inl ((zgg K).2.1 0, 10, .inl (fun _ => 0))), (n2, .inl ((zgg K).2.1 0, 8, .inl (fun _ => 0))), (n3, .inr (5, [.ref (q4 0), .ref (q4 1), .int 0])), ((q4 0), .inl ((zgg K).2.1 0, 16, .inl (fun _ => 0))), ((q4 1), .inl ((zgg K).2.1 0, 16, .inl (fun _ => 0)))]) tyX6 tyX6_ok nmX6 rfl rfl (by decide) inlX6 lk_RX6_29 rfl (tyX6_ok 5 (by decide)) rfl rfl (zlt rfl) rfl dX6_init_40 ?_
  exact zi_ret (pc := 43) F hm E (fun i => [n1, n2, n3, (q4 0), (q4 1)].getD i 0) [0, 1, 2, 3, 4, 5] rfl (by decide) rfl dX6_init_43
abbrev rmX7_init : Room := { frames := 1, cells := 1, slots := 12, locals := 20 }
set_option maxRecDepth 100000 in
set_option maxHeartbeats 8000000 in
theorem kX7 (l : Launch) (g : zG) (h0 : Nat) : zMk l yX7_init cX7_init 1 rmX7_init [.ref h0] g [(h0, .inr (7, [.null, .int 0]))] 1 12 (fun q => [(h0, .inr (7, [.ref (q 0), .int 0])), ((q 0), .inl (g.2.1 0, 12, .inl (fun _ => 0)))]) := by
  refine zMk.of RX7 (by decide +kernel) rfl rfl (Nat.le_of_ble_eq_true rfl) (zcat rfl) (fun K F hm hR hL hG E => ?_)
  subst hG
  show ZI K 0 [some (.ref h0)] [] [(h0, .inr (7, [.null, .int 0]))] 0 0
  refine zi_aload_n (pc := 0) F dX7_init_0 rfl ?_
  refine zi_obj (pc := 1) F ol_RX7_3 ol_inst ol_code (by rw [hR]; exact ⟨Nat.le_of_ble_eq_true rfl, Nat.le_of_ble_eq_true rfl⟩) (Nat.le_of_ble_eq_true rfl) dX7_init_1 ?_
  refine zi_aload_n (pc := 4) F dX7_init_4 rfl ?_
  refine zi_bipush (pc := 5) F (v := 12) dX7_init_5 (by decide) ?_
  refine zi_newa (pc := 7) F (atype := .int) (ty := .int) 0 (N' := 12) rfl (fun _ => rfl) (fun _ _ => rfl) ac_int (fun _ => rfl) (by decide) (by decide) (by decide) (by rw [hR]; exact ⟨Nat.le_of_ble_eq_true rfl, Nat.le_of_ble_eq_true rfl⟩) dX7_init_7 (fun n1 => ?_)
  show ZI K 9 [some (.ref h0)] [.ref n1, .ref h0] [(h0, .inr (7, [.null, .int 0])), (n1, .inl ((zgg K).2.1 0, 12, .inl (fun _ => 0)))] 1 12
  refine zi_putF (pc := 9) F hm 0 0 (ws' := [(h0, .inr (7, [.ref n1, .int 0])), (n1, .inl ((zgg K).2.1 0, 12, .inl (fun _ => 0)))]) tyX7 tyX7_ok nmX7 rfl rfl (by decide) inlX7 lk_RX7_9 rfl rfl (tyX7_ok 0 (by decide)) rfl rfl (zlt rfl) rfl dX7_init_9 ?_
  exact zi_ret (pc := 12) F hm E (fun i => [n1].getD i 0) [0, 1] rfl (by decide) rfl dX7_init_12
abbrev rmX0_init : Room := { frames := 1, cells := 0, slots := 0, locals := 20 }
set_option maxRecDepth 100000 in
set_option maxHeartbeats 8000000 in
theorem kX0 (l : Launch) (g : zG) (h0 : Nat) : zMk l yX0_init cX0_init 1 rmX0_init [.ref h0] g [(h0, .inr (0, [.int 0, .int 0]))] 0 0 (fun q => [(h0, .inr (0, [.int 2, .int 1]))]) := by
  refine zMk.of RX0 (by decide +kernel) rfl rfl (Nat.le_of_ble_eq_true rfl) (zcat rfl) (fun K F hm hR hL hG E => ?_)
  subst hG
  show ZI K 0 [some (.ref h0)] [] [(h0, .inr (0, [.int 0, .int 0]))] 0 0
  refine zi_aload_n (pc := 0) F dX0_init_0 rfl ?_
  refine zi_obj (pc := 1) F ol_RX0_3 ol_inst ol_code (by rw [hR]; exact ⟨Nat.le_of_ble_eq_true rfl, Nat.le_of_ble_eq_true rfl⟩) (Nat.le_of_ble_eq_true rfl) dX0_init_1 ?_
  refine zi_aload_n (pc := 4) F dX0_init_4 rfl ?_
  refine zi_iconst (pc := 5) F (v := 2) dX0_init_5 (by decide) ?_
  refine zi_put (pc := 6) F 0 0 (ws' := [(h0, .inr (0, [.int 2, .int 0]))]) tyX0 tyX0_ok nmX0 rfl rfl (by decide) inlX0 lk_RX0_9 rfl (tyX0_ok 0 (by decide)) rfl rfl (zlt rfl) rfl dX0_init_6 ?_
  refine zi_aload_n (pc := 9) F dX0_init_9 rfl ?_
  refine zi_iconst (pc := 10) F (v := 1) dX0_init_10 (by decide) ?_
  refine zi_put (pc := 11) F 0 1 (ws' := [(h0, .inr (0, [.int 2, .int 1]))]) tyX0 tyX0_ok nmX0 rfl rfl (by decide) inlX0 lk_RX0_15 rfl (tyX0_ok 1 (by decide)) rfl rfl (zlt rfl) rfl dX0_init_11 ?_
  exact zi_ret (pc := 14) F hm E (fun i => [].getD i 0) [0] rfl (by decide) rfl dX0_init_14
abbrev rmX3_init : Room := { frames := 1, cells := 7, slots := 50, locals := 20 }
set_option maxRecDepth 100000 in
set_option maxHeartbeats 8000000 in
theorem kX3 (l : Launch) (g : zG) (h0 : Nat) : zMk l yX3_init cX3_init 1 rmX3_init [.ref h0] g [(h0, .inr (3, [.null, .null]))] 7 50 (fun q => [(h0, .inr (3, [.ref (q 0), .ref (q 6)])), ((q 0), .inl (g.2.1 4, 5, .inr (.inr (.inr (.inr (fun i => [(q 1), (q 2), (q 3), (q 4), (q 5)][i]?)))))), ((q 1), .inl (g.2.1 0, 8, .inl (fun _ => 0))), ((q 2), .inl (g.2.1 0, 8, .inl (fun _ => 0))), ((q 3), .inl (g.2.1 0, 8, .inl (fun _ => 0))), ((q 4), .inl (g.2.1 0, 8, .inl (fun _ => 0))), ((q 5), .inl (g.2.1 0, 8, .inl (fun _ => 0))), ((q 6), .inl (g.2.1 1, 5, .inl (fun _ => 0)))]) := by
  refine zMk.of RX3 (by decide +kernel) rfl rfl (Nat.le_of_ble_eq_true rfl) (zcat rfl) (fun K F hm hR hL hG E => ?_)
  subst hG
  show ZI K 0 [some (.ref h0)] [] [(h0, .inr (3, [.null, .null]))] 0 0
  refine zi_aload_n (pc := 0) F dX3_init_0 rfl ?_
  refine zi_obj (pc := 1) F ol_RX3_3 ol_inst ol_code (by rw [hR]; exact ⟨Nat.le_of_ble_eq_true rfl, Nat.le_of_ble_eq_true rfl⟩) (Nat.le_of_ble_eq_true rfl) dX3_init_1 ?_
  refine zi_aload_n (pc := 4) F dX3_init_4 rfl ?_
  refine zi_iconst (pc := 5) F (v := 5) dX3_init_5 (by decide) ?_
  refine zi_bipush (pc := 6) F (v := 8) dX3_init_6 (by decide) ?_
  refine zi_mna (pc := 8) F cl3_RX3_9 ac_int0 (by rw [hR]; exact ⟨Nat.le_of_ble_eq_true rfl, Nat.le_of_ble_eq_true rfl⟩) dX3_init_8 (fun n1 r2 => ?_)
  show ZI K 12 [some (.ref h0)] [.ref n1, .ref h0] [(h0, .inr (3, [.null, .null])), (n1, .inl ((zgg K).2.1 4, 5, .inr (.inr (.inr (.inr (fun i => if i < 5 then some (r2 i) else none)))))), ((r2 0), .inl ((zgg K).2.1 0, 8, .inl (fun _ => 0))), ((r2 1), .inl ((zgg K).2.1 0, 8, .inl (fun _ => 0))), ((r2 2), .inl ((zgg K).2.1 0, 8, .inl (fun _ => 0))), ((r2 3), .inl ((zgg K).2.1 0, 8, .inl (fun _ => 0))), ((r2 4), .inl ((zgg K).2.1 0, 8, .inl (fun _ => 0)))] 6 45
  refine zi_cong 1 (ws' := [(h0, .inr (3, [.null, .null])), (n1, .inl ((zgg K).2.1 4, 5, .inr (.inr (.inr (.inr (fun i => [(r2 0), (r2 1), (r2 2), (r2 3), (r2 4)][i]?)))))), ((r2 0), .inl ((zgg K).2.1 0, 8, .inl (fun _ => 0))), ((r2 1), .inl ((zgg K).2.1 0, 8, .inl (fun _ => 0))), ((r2 2), .inl ((zgg K).2.1 0, 8, .inl (fun _ => 0))), ((r2 3), .inl ((zgg K).2.1 0, 8, .inl (fun _ => 0))), ((r2 4), .inl ((zgg K).2.1 0, 8, .inl (fun _ => 0)))]) rfl (fun i hi => match i, hi with | 0, _ => rfl | 1, _ => rfl | 2, _ => rfl | 3, _ => rfl | 4, _ => rfl | (j + 5), hi => absurd hi (by omega)) rfl ?_
  refine zi_putF (pc := 12) F hm 0 0 (ws' := [(h0, .inr (3, [.ref n1, .null])), (n1, .inl ((zgg K).2.1 4, 5, .inr (.inr (.inr (.inr (fun i => [(r2 0), (r2 1), (r2 2), (r2 3), (r2 4)][i]?)))))), ((r2 0), .inl ((zgg K).2.1 0, 8, .inl (fun _ => 0))), ((r2 1), .inl ((zgg K).2.1 0, 8, .inl (fun _ => 0))), ((r2 2), .inl ((zgg K).2.1 0, 8, .inl (fun _ => 0))), ((r2 3), .inl ((zgg K).2.1 0, 8, .inl (fun _ => 0))), ((r2 4), .inl ((zgg K).2.1 0, 8, .inl (fun _ => 0)))]) tyX3 tyX3_ok nmX3 rfl rfl (by decide) inlX3 lk_RX3_11 rfl rfl (tyX3_ok 0 (by decide)) rfl rfl (zlt rfl) rfl dX3_init_12 ?_
  refine zi_aload_n (pc := 15) F dX3_init_15 rfl ?_
  refine zi_iconst (pc := 16) F (v := 5) dX3_init_16 (by decide) ?_
  refine zi_newa (pc := 17) F (atype := .boolean) (ty := .boolean) 1 (N' := 5) rfl (fun _ => rfl) (fun _ _ => rfl) ac_boolean (fun _ => rfl) (by decide) (by decide) (by decide) (by rw [hR]; exact ⟨Nat.le_of_ble_eq_true rfl, Nat.le_of_ble_eq_true rfl⟩) dX3_init_17 (fun n3 => ?_)
  show ZI K 19 [some (.ref h0)] [.ref n3, .ref h0] [(h0, .inr (3, [.ref n1, .null])), (n1, .inl ((zgg K).2.1 4, 5, .inr (.inr (.inr (.inr (fun i => [(r2 0), (r2 1), (r2 2), (r2 3), (r2 4)][i]?)))))), ((r2 0), .inl ((zgg K).2.1 0, 8, .inl (fun _ => 0))), ((r2 1), .inl ((zgg K).2.1 0, 8, .inl (fun _ => 0))), ((r2 2), .inl ((zgg K).2.1 0, 8, .inl (fun _ => 0))), ((r2 3), .inl ((zgg K).2.1 0, 8, .inl (fun _ => 0))), ((r2 4), .inl ((zgg K).2.1 0, 8, .inl (fun _ => 0))), (n3, .inl ((zgg K).2.1 1, 5, .inl (fun _ => 0)))] 7 50
  refine zi_putF (pc := 19) F hm 0 1 (ws' := [(h0, .inr (3, [.ref n1, .ref n3])), (n1, .inl ((zgg K).2.1 4, 5, .inr (.inr (.inr (.inr (fun i => [(r2 0), (r2 1), (r2 2), (r2 3), (r2 4)][i]?)))))), ((r2 0), .inl ((zgg K).2.1 0, 8, .inl (fun _ => 0))), ((r2 1), .inl ((zgg K).2.1 0, 8, .inl (fun _ => 0))), ((r2 2), .inl ((zgg K).2.1 0, 8, .inl (fun _ => 0))), ((r2 3), .inl ((zgg K).2.1 0, 8, .inl (fun _ => 0))), ((r2 4), .inl ((zgg K).2.1 0, 8, .inl (fun _ => 0))), (n3, .inl ((zgg K).2.1 1, 5, .inl (fun _ => 0)))]) tyX3 tyX3_ok nmX3 rfl rfl (by decide) inlX3 lk_RX3_16 rfl rfl (tyX3_ok 1 (by decide)) rfl rfl (zlt rfl) rfl dX3_init_19 ?_
  exact zi_ret (pc := 22) F hm E (fun i => [n1, (r2 0), (r2 1), (r2 2), (r2 3), (r2 4), n3].getD i 0) [0, 1, 2, 3, 4, 5, 6, 7] rfl (by decide) rfl dX3_init_22
