set_option maxRecDepth 100000 in
set_option maxHeartbeats 8000000 in
/-- the law, out of an invariant that every call keeps -/
theorem whole_start_of {Inv : zS → Prop} (HC : zCases Inv) (h0 : Inv zS0) {p : Program} {e : Env} {s : State} {m : MethodId} {below : List Frame} {meth : Method} {c : Code} (l : Launch) {b L : Nat} {xs : Nat → Int32} (hL : L ≤ 2560) (C0 : lw_At p s m meth c b L xs) : W p l e room_1 s m #[Value.ref b] below meth c s.heap [] 0 0 (lw_Z below #[Value.ref b] s) (entryFrame m ([Value.ref b] : List Value).toArray 4) := by
  obtain ⟨hx, hb, hr, hml, hown, hts, hX, hbl, hlocks, hgv⟩ := id C0
  obtain ⟨cA, Dg, hKn, hAO⟩ := zs_known hts
  obtain ⟨adK, adV, fo, hstr⟩ := zs_str (A := fun q : Nat => s.heap.size ≤ q) hts hgv (fun a h => Nat.not_le.mpr h)
  have htz : ∀ w ∈ zT, w.before #[Value.ref b] s = true := fun w hw => hts w (List.mem_filter.mp hw).1
  have Fi : zFi (p, l, e, room_1, s, m, #[Value.ref b], below, meth, c, lw_Z below #[Value.ref b] s, ((fun _ _ => 0), cA, Dg), (fun q : Nat => s.heap.size ≤ q), 4, 0, 0) cL_law RL := ⟨hx, hb, hml, hown, htz, hKn _, hAO, fun _ h => h, hlocks⟩
  have key := law_init Fi rfl b adK adV fo (fun n1 q2 n3 q4 => z_toZ (ad := zAdr n1 q2 n3 q4 adK adV fo) (g2 := (cA, Dg)) (σ := zS0) [0, 1, 2, 3, 4, 5, 6, 7, 8, 9, 10, 11, 13, 14, 48, 82, 15, 49, 83, 16, 24, 32, 40, 50, 58, 66, 74, 84, 92, 100, 108, 17, 25, 33, 41, 51, 59, 67, 75, 85, 93, 101, 109, 23, 31, 39, 47, 57, 65, 73, 81, 91, 99, 107, 115, 18, 19, 20, 21, 22, 26, 27, 28, 29, 30, 34, 35, 36, 37, 38, 42, 43, 44, 45, 46, 52, 53, 54, 55, 56, 60, 61, 62, 63, 64, 68, 69, 70, 71, 72, 76, 77, 78, 79, 80, 86, 87, 88, 89, 90, 94, 95, 96, 97, 98, 102, 103, 104, 105, 106, 110, 111, 112, 113, 114, 12, 116, 117, 118, 119, 120, 121, 122, 123, 124, 125, 126, 127, 128, 129, 130, 131, 132, 133] (law_perm n1 q2 n3 q4 adK adV fo (cA, Dg)) (by decide) (fun hD => by
    have F : zF (p, l, e, room_1, s, m, #[Value.ref b], below, meth, c, lw_Z below #[Value.ref b] s, (zAdr n1 q2 n3 q4 adK adV fo, cA, Dg), (fun q : Nat => s.heap.size ≤ q), 4, 134, 1498) cL_law RL (some .boolean) := ⟨hx, hb, hml, hown, htz, hKn _, zD_any hD, fun _ h => h, hr, hlocks, Nat.le_of_ble_eq_true rfl, Nat.le_of_ble_eq_true rfl⟩
    refine law_loop (xs := xs) (b := b) (L := L) F rfl ⟨hX, hbl, Nat.not_le.mpr hbl⟩ (hstr _ rfl rfl rfl) HC hL (fun lv σ => ?_) (L + 1) 0 zS0 (by omega) (by omega) h0
    intro _ H locs ls hP hS hl
    refine va_forget (fun q hq => hS.2.2 q hq) ?_
    refine W.widen (k := 600000) (n := 7302250) (Nat.le_of_ble_eq_true rfl) (Nat.le_of_ble_eq_true rfl) ?_
    exact lw_ret hx hb hr hlocks dL_law_1075))
  rw [lg_entry_eq]
  exact key s.heap [] _ (fun k q h => by simp at h) ⟨fun i j p q h => by simp at h, fun k q h => by simp at h⟩ va_S.rf (zL_entry (vs := [.ref b]) (zcat rfl) (Nat.le_of_ble_eq_true rfl))
