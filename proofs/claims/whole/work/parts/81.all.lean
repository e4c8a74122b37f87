/-! all of it -/
def zInv (σ : zS) : Prop := J1 σ ∧ J2 σ ∧ J3 σ
theorem J1.c {σ σ' : zS} (h : J1 σ) (h1 : ∀ k i j, ((1 ≤ k ∧ k ≤ 6) ∨ (22 ≤ k ∧ k ≤ 25) ∨ (k = 21 ∧ (j = 0 ∨ j = 3 ∨ j = 6 ∨ j = 7 ∨ j = 8 ∨ j = 9))) → σ' k i j = σ k i j) : J1 σ' := by
  obtain ⟨T, Hd, Q, hA, hB, hC, hD, hE⟩ := h
  exact ⟨T, Hd, Q, hA.c (h1 _ _ _ (by omega)) (h1 _ _ _ (by omega)), hB.c (fun j _ => h1 _ _ _ (by omega)) (fun j _ => h1 _ _ _ (by omega)), hC.c (fun j => h1 _ _ _ (by omega)) (fun j => h1 _ _ _ (by omega)), hD.c (fun j => h1 _ _ _ (by omega)) (fun j => h1 _ _ _ (by omega)), hE.c (h1 _ _ _ (by omega)) (h1 _ _ _ (by omega)) (fun j => h1 _ _ _ (by omega)) (fun j => h1 _ _ _ (by omega)) (fun j => h1 _ _ _ (by omega)) (fun j => h1 _ _ _ (by omega))⟩
theorem J3.c {σ σ' : zS} (h : J3 σ) (h1 : ∀ k i j, (k = 9 ∨ k = 10 ∨ k = 11 ∨ k = 13 ∨ k = 17 ∨ (k = 18 ∧ i < 60) ∨ (27 ≤ k ∧ k ≤ 30) ∨ (k = 21 ∧ (j = 12 ∨ j = 13 ∨ j = 14 ∨ j = 19))) → σ' k i j = σ k i j) : J3 σ' := by
  obtain ⟨p, op, s, hI⟩ := h
  exact ⟨p, op, s, hI.c h1⟩
def CsA (σ : zS) (f g : zS → Option (Int32 × zS)) : Prop := ∃ r σ1 σ2, f σ = some (r, σ1) ∧ g σ1 = some (r, σ2) ∧ zInv σ2
theorem a1 {σ : zS} {f g : zS → Option (Int32 × zS)} (h : zInv σ) (c : J1 σ → Cs1 σ f g) : CsA σ f g := by
  obtain ⟨h1, h2, h3⟩ := h
  obtain ⟨r, s1, s2, e1, e2, j, ch⟩ := c h1
  exact ⟨r, s1, s2, e1, e2, j, h2.c (fun k i j hk => ch k i j (by omega)), h3.c (fun k i j hk => ch k i j (by omega))⟩
theorem a2 {σ : zS} {f g : zS → Option (Int32 × zS)} (h : zInv σ) (c : J2 σ → Cs2 σ f g) : CsA σ f g := by
  obtain ⟨h1, h2, h3⟩ := h
  obtain ⟨r, s1, s2, e1, e2, j, ch⟩ := c h2
  exact ⟨r, s1, s2, e1, e2, h1.c (fun k i j hk => ch k i j (by omega) (by omega) (by omega) (by omega)), j, h3.c (fun k i j hk => ch k i j (by omega) (by omega) (by omega) (by omega))⟩
theorem a3 {σ : zS} {f g : zS → Option (Int32 × zS)} (h : zInv σ) (c : J3 σ → Cs3 σ f g) : CsA σ f g := by
  obtain ⟨h1, h2, h3⟩ := h
  obtain ⟨r, s1, s2, e1, e2, j, ch⟩ := c h3
  exact ⟨r, s1, s2, e1, e2, h1.c (fun k i j hk => ch k i j (by omega)), h2.c (fun k i j hk => ch k i j (by omega)), j⟩
theorem a4 {σ : zS} {f g : zS → Option (Int32 × zS)} (h : zInv σ) (c : zInv σ → CsT σ f g) : CsA σ f g := by
  obtain ⟨r, s1, s2, e1, e2, ch⟩ := c h
  obtain ⟨h1, h2, h3⟩ := h
  exact ⟨r, s1, s2, e1, e2, h1.c (fun k i j hk => ch k i j (by omega) (by omega) (by omega) (by omega)), h2.c (fun k i j hk => ch k i j (by omega) (by omega) (by omega) (by omega)), h3.c (fun k i j hk => ch k i j (by omega) (by omega) (by omega) (by omega))⟩
theorem a_word {σ : zS} (h : zInv σ) : CsA σ fX8_word fX9_word := by
  obtain ⟨h1, h2, h3⟩ := h
  obtain ⟨r, s1, s2, e1, e2, j2, j3, ch⟩ := c_word σ h2 h3
  exact ⟨r, s1, s2, e1, e2, h1.c (fun k i j hk => ch k i j (by omega) (by omega) (by omega) (by omega)), j2, j3⟩
theorem c_many (a : Int32) (σ : zS) (h : zInv σ) : CsT σ (fX8_many a) (fX9_many a) := by
  obtain ⟨⟨T, Hd, Q, ⟨hT, hA1, hA2⟩, ⟨_, _, _, hB4, hB5⟩, _, _, ⟨_, hE2, hE3⟩⟩, ⟨⟨n, n1, n2, n3, n4⟩, _⟩, ⟨p, op, s, i1, i2, i3, i4, i5, i6, i7, i8, _⟩⟩ := h
  unfold CsT fX8_many fX9_many
  by_cases h0 : a = 0
  · refine CsT.same (r := bcI (nI T)) (f := fun σ => if a = 0 then _ else _) (g := fun σ => if a = 0 then _ else _) ?_ ?_
    · rw [if_pos h0, hA1, e_bitCount, zCi_s]
    · rw [if_pos h0, hA2, e_size, zCi_s, rb_dec T hT]
  have t : ∀ (x y : Int32) (u v : zS → Option (Int32 × zS)), x = y → u σ = some (x, σ) → v σ = some (y, σ) → ∃ r σ1 σ2, u σ = some (r, σ1) ∧ v σ1 = some (r, σ2) ∧ ∀ k i j, k ≠ 19 → k ≠ 20 → k ≠ 36 → ¬ (k = 21 ∧ j = 26) → σ2 k i j = σ k i j := fun x y u v h1 h2 h3 => ⟨x, σ, σ, h2, h1 ▸ h3, fun _ _ _ _ _ _ _ => rfl⟩
  simp only [if_neg h0]
  by_cases h1 : a = 1
  · simp only [if_pos h1]; exact t (σ 4 0 2) (σ 21 0 3) (fun σ => some (σ 4 0 2, σ)) (fun σ => some (σ 21 0 3, σ)) (hE2.1.trans hE3.1.symm) rfl rfl
  simp only [if_neg h1]
  by_cases h2 : a = 2
  · simp only [if_pos h2]; exact t (σ 1 0 6) (σ 21 0 8) (fun σ => some (σ 1 0 6, σ)) (fun σ => some (σ 21 0 8, σ)) hB4.symm rfl rfl
  simp only [if_neg h2]
  by_cases h3 : a = 3
  · simp only [if_pos h3]; exact t (σ 1 0 7) (σ 21 0 9) (fun σ => some (σ 1 0 7, σ)) (fun σ => some (σ 21 0 9, σ)) hB5.symm rfl rfl
  simp only [if_neg h3]
  by_cases h4 : a = 4
  · simp only [if_pos h4]; exact t (σ 9 0 0) (σ 21 0 12) (fun σ => some (σ 9 0 0, σ)) (fun σ => some (σ 21 0 12, σ)) (i2.trans i3.symm) rfl rfl
  simp only [if_neg h4]
  by_cases h5 : a = 5
  · simp only [if_pos h5]; exact t (σ 10 0 5) (σ 21 0 13) (fun σ => some (σ 10 0 5, σ)) (fun σ => some (σ 21 0 13, σ)) i8.symm rfl rfl
  simp only [if_neg h5]
  by_cases h6 : a = 6
  · simp only [if_pos h6]; exact t (σ 10 0 4) (σ 21 0 14) (fun σ => some (σ 10 0 4, σ)) (fun σ => some (σ 21 0 14, σ)) (i6.trans i7.symm) rfl rfl
  simp only [if_neg h6]
  by_cases h7 : a = 7
  · simp only [if_pos h7]; exact t (σ 7 0 1) (σ 21 0 11) (fun σ => some (σ 7 0 1, σ)) (fun σ => some (σ 21 0 11, σ)) (n2.trans n3.symm) rfl rfl
  simp only [if_neg h7]
  by_cases h8 : a = 8
  · simp only [if_pos h8]; exact t ((σ 9 0 1) &&& 65535) ((σ 21 0 19) &&& 65535) (fun σ => some ((σ 9 0 1) &&& 65535, σ)) (fun σ => some ((σ 21 0 19) &&& 65535, σ)) (by rw [i4]) rfl rfl
  simp only [if_neg h8]
  exact t (-2) (-2) (fun σ => some (-2, σ)) (fun σ => some (-2, σ)) rfl rfl rfl
theorem zInv_0 : zInv zS0 := by
  refine ⟨⟨0, fun _ => 0, [], ⟨by decide, rfl, rfl⟩, ⟨rfl, ⟨255, by decide, rfl⟩, rfl, rfl, rfl⟩, fun l hl => ⟨rfl, 0, by decide, rfl⟩, fun s hs => ⟨rfl, rfl, by show (0 : Nat) < 1024; decide, by show lk 0 0 = 0; decide⟩, ⟨⟨by decide, by decide, fun q hq => absurd hq (by simp)⟩, ⟨rfl, fun k q hk => by simp at hk⟩, ⟨rfl, fun k q hk => by simp at hk⟩⟩⟩, ⟨⟨0, by decide, rfl, rfl, fun i hi => absurd hi (by omega)⟩, rfl, rfl, rfl⟩, ⟨2, 0, fun x => x, Or.inl rfl, rfl, rfl, rfl, by decide, rfl, rfl, rfl, ?_, fun x y _ _ h => h, fun x hx => absurd hx (by omega)⟩⟩
  intro x hx
  refine ⟨hx, ?_⟩
  rcases (show x = 0 ∨ x = 1 ∨ x = 2 by omega) with rfl | rfl | rfl <;> rfl
theorem zc : zCases zInv := by
  refine ⟨?_, ?_, ?_, ?_, ?_, ?_, ?_, ?_, ?_, ?_, ?_, ?_, ?_, ?_, ?_, ?_, ?_, ?_, ?_, ?_, ?_, ?_, ?_, ?_, ?_, ?_, ?_, ?_, ?_, ?_⟩
  · exact fun a b σ h => a1 (f := fX8_letter a b) (g := fX9_letter a b) h (c_letter a b σ)
  · exact fun a σ h => a1 (f := fX8_drop a) (g := fX9_drop a) h (c_drop a σ)
  · exact fun a b c σ h => a1 (f := fX8_has a b c) (g := fX9_has a b c) h (c_has a b c σ)
  · exact fun a b σ h => a1 (f := fX8_want a b) (g := fX9_want a b) h (c_want a b σ)
  · exact fun a σ h => a1 (f := fX8_air a) (g := fX9_air a) h (c_air a σ)
  · exact fun a σ h => a1 (f := fX8_most a) (g := fX9_most a) h (c_most a σ)
  · exact fun σ h => a1 (f := fX8_anew) (g := fX9_anew) h (c_anew σ)
  · exact fun a b σ h => a1 (f := fX8_entry a b) (g := fX9_entry a b) h (c_entry a b σ)
  · exact fun a σ h => a1 (f := fX8_having a) (g := fX9_having a) h (c_having a σ)
  · exact fun a b σ h => a1 (f := fX8_reads a b) (g := fX9_reads a b) h (c_reads a b σ)
  · exact fun a b σ h => a1 (f := fX8_sum a b) (g := fX9_sum a b) h (c_sum a b σ)
  · exact fun σ h => a1 (f := fX8_best) (g := fX9_best) h (c_best σ)
  · exact fun a σ h => a1 (f := fX8_send a) (g := fX9_send a) h (c_send a σ)
  · exact fun a σ h => a1 (f := fX8_serve a) (g := fX9_serve a) h (c_serve a σ)
  · exact fun a σ h => a2 (f := fX8_key a) (g := fX9_key a) h (c_key a σ)
  · exact fun σ h => a2 (f := fX8_wipe) (g := fX9_wipe) h (c_wipe σ)
  · exact fun σ h => a_word h
  · exact fun a b σ h => a3 (f := fX8_open a b) (g := fX9_open a b) h (c_open a b σ)
  · exact fun a b σ h => a3 (f := fX8_rank a b) (g := fX9_rank a b) h (c_rank a b σ)
  · exact fun a b c d σ h => a3 (f := fX8_row a b c d) (g := fX9_row a b c d) h (c_row a b c d σ)
  · exact fun a b c d σ h => a3 (f := fX8_read a b c d) (g := fX9_read a b c d) h (c_read a b c d σ)
  · exact fun a b c d σ h => a3 (f := fX8_mix a b c d) (g := fX9_mix a b c d) h (c_mix a b c d σ)
  · exact fun a b c σ h => a3 (f := fX8_draw a b c) (g := fX9_draw a b c) h (c_draw a b c σ)
  · exact fun a b c σ h => a3 (f := fX8_fresh a b c) (g := fX9_fresh a b c) h (c_fresh a b c σ)
  · exact fun a b σ h => a3 (f := fX8_forAll a b) (g := fX9_forAll a b) h (c_forAll a b σ)
  · exact fun σ h => a3 (f := fX8_sweep) (g := fX9_sweep) h (c_sweep σ)
  · exact fun a σ h => a3 (f := fX8_opened a) (g := fX9_opened a) h (c_opened a σ)
  · exact fun a b σ h => a4 (f := fX8_text a b) (g := fX9_text a b) h (fun h => c_text a b σ h.1)
  · exact fun a b c σ h => a4 (f := fX8_rows a b c) (g := fX9_rows a b c) h (fun h => c_rows a b c σ h.2.2)
  · exact fun a σ h => a4 (f := fX8_many a) (g := fX9_many a) h (c_many a σ)
