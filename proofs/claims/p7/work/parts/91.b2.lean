/-! the start, the room -/
set_option maxRecDepth 100000 in
theorem z0_a : xI hI0 1 15 = 0 ∧ xI hI0 3 4 = 0 ∧ xI hI0 183 2 = 0 ∧ xI hI0 1 14 = -1 ∧ xI hI0 183 16 = -1 ∧ xI hI0 11 4 = 0 ∧ xI hI0 11 5 = 0 ∧ xI hI0 11 6 = 0 ∧ xI hI0 11 7 = 0 ∧ xI hI0 183 17 = 0 ∧ xI hI0 183 18 = 0 ∧ xI hI0 183 19 = 0 ∧ xI hI0 183 20 = 0 ∧ xI hI0 19 1 = 0 ∧ xI hI0 19 2 = 0 ∧ xI hI0 183 28 = 0 ∧ xI hI0 183 29 = 0 ∧ xI hI0 157 5 = -1 ∧ xI hI0 165 5 = -1 ∧ xI hI0 170 3 = -1 ∧ xI hI0 174 10 = -1 ∧ xI hI0 183 32 = 0 := by decide +kernel
set_option maxRecDepth 100000 in
theorem z0_b : (∀ t, t < 32 → xI hI0 12 t = -1) ∧ (∀ t, t < 16 → xI hI0 15 t = 0) ∧ (∀ t, t < 32 → xI hI0 17 t = 0) ∧ (∀ t, t < 16 → xI hI0 18 t = 0) ∧ (∀ t, t < 8 → xI hI0 16 t = 0) ∧ (∀ t, t < 66 → xI hI0 191 t = 0) ∧ (∀ t, t < 16 → xI hI0 173 t = 0) ∧ ∀ i, i < 3 → xI hI0 (142 + 5 * i) 2 = 0 ∧ xI hI0 (142 + 5 * i) 3 = 0 ∧ xI hI0 195 i = 0 := by decide +kernel
set_option maxRecDepth 100000 in
theorem z0_c : xR hI0 157 4 = 160 ∧ xR hI0 161 4 = 164 ∧ hI0.1 160 = (20, 1) ∧ hI0.1 164 = (20, 1) := by decide +kernel
set_option maxRecDepth 100000 in
theorem z0_k : KY (xL hI0) := by unfold KY; decide +kernel
theorem g0_a : ((0, 0, 0) : GD) ∈ gAll ∧ (∀ t, t < 32 → gTo (0, 0, 0) t = none) ∧ ∀ i, i < 16 → (gMt (0, 0, 0) i).length = 0 := by decide +kernel
theorem IV_0 : IV 0 hI0 (0, 0, 0) (fun _ => ((0, 0, 0), fun _ => 0)) (fun _ => ((0, 0, 0), fun _ => 0)) 0 := by
  obtain ⟨a1, a2, a3, a4, a5, a6, a7, a8, a9, a10, a11, a12, a13, a14, a15, a16, a17, a18, a19, a20, a21, a22⟩ := z0_a
  obtain ⟨b1, b2, b3, b4, b5, b6, b8, b7⟩ := z0_b
  obtain ⟨c1, c2, c3, c4⟩ := z0_c
  obtain ⟨g1, g2, g3⟩ := g0_a
  have e0 : gSz (0, 0, 0) = 0 := rfl
  refine ⟨hI0_Shp, Nat.le_refl _, a1, ⟨0, by omega, a2, a3, fun k hk => by omega⟩, a4.trans a5.symm, ⟨g1, a6, a7, a8, a9, fun t ht => by rw [b1 t ht, g2 t ht]; rfl, fun i hi => by rw [b2 i hi, g3 i hi]; rfl, fun i j hi hj => by rw [g3 i hi] at hj; omega, a10, a11, a12, a13, b8⟩, ⟨⟨fun t ht => ?_, fun i hi => ?_, ⟨0, 0, b5 2 (by omega), b5 3 (by omega), fun i => ?_, fun i => ?_⟩, ?_, ?_⟩, ⟨fun k hk => ?_, fun i hi => ⟨.inl ?_, fun _ => ?_⟩, ⟨0, by decide, b6 64 (by omega), fun i hi => by rw [e0] at hi; omega⟩, ⟨0, by decide, b6 65 (by omega)⟩⟩, 0, 0, Nat.le_refl _, Nat.le_refl _, b5 6 (by omega), b5 7 (by omega), rfl, fun k hk => b6 k (by omega), rfl, fun k hk => b6 k (by omega)⟩, ⟨0, 0, 0, by omega, by omega, by omega, a14, a15, a16, a17, fun i hi => by omega⟩, fun i hi => ⟨0, 0, by decide, by decide, (b7 i hi).1, (b7 i hi).2.2, (b7 i hi).2.1, fun h => absurd h (by decide), fun h => absurd h (by decide)⟩, ⟨.inl a18, .inl a19, .inl a20, .inl a21⟩, .inl a22, ⟨0, 0, by omega, by omega, by rw [c1, c3], by rw [c2, c4], .inl c1, .inl c2, by rw [c1, c2]; decide, by rw [c1, hI0_n]; decide, by rw [c2, hI0_n]; decide, by rw [hI0_n]; omega, by rw [hI0_z]; omega, z0_k⟩⟩
  · show xI hI0 17 t = _
    rw [b3 t ht, g2 t ht]; rfl
  · show xI hI0 18 i = _
    rw [b4 i hi, e0]; rfl
  · rw [Nat.zero_testBit, e0]; simp
  · rw [Nat.zero_testBit, e0]; simp
  · rw [b5 4 (by omega), b6 64 (by omega)]
  · rw [b5 5 (by omega), b6 65 (by omega)]
  · rw [b6 k (by omega)]; decide
  · exact b6 (48 + i) (by omega)
  · exact b6 (48 + i) (by omega)
theorem INV_0 : ∃ σ, INV 0 σ ∧ ∀ L xs, f_L_law L xs xs0 = xloop (f_L_law_b18 L xs 1 183) (0, σ) := ⟨hI0, INV_i IV_0, fun L xs => law_init L xs⟩
theorem INV_room : ∀ n σ, INV n σ → xn σ ≤ 600000 ∧ xz σ ≤ 7302250 := by
  rintro n σ ⟨g, gT, gP, st, H⟩
  obtain ⟨a, b, h1, h2, -, -, -, -, -, -, -, h10, h11⟩ := H.cel
  omega
theorem INV_T : ∀ n σ, INV n σ → xT σ 1 = 11 ∧ xT σ 183 = 12 := fun n σ ⟨g, gT, gP, st, H⟩ => ⟨sT1 H.shp, sT183 H.shp⟩
theorem INV_n : ∀ n σ, INV n σ → 183 ≤ xn σ := fun n σ ⟨g, gT, gP, st, H⟩ => Nat.le_trans (by decide) H.shp.1
