/-! both read -/
section RD2
variable {τ : XS} {J : Nat → Nat → Int32} {b : Nat → Int32} {m : Nat}
/-- what both know of a text that is wrong -/
def RBD (b : Nat → Int32) (m r : Nat) (p : Int32) : Prop := (∃ n pl, cutR b m n r pl ∧ 0 < r ∧ r < 3 ∧ p = nI pl) ∨ ∃ T j, cutR b m T 0 0 ∧ fFT b m T = some (r, j) ∧ p = nI (tSt b m j)
def RGD (J' : Nat → Nat → Int32) (b : Nat → Int32) (m T : Nat) : Prop := J' 183 16 = -1 ∧ J' 183 17 = nI (tNu b m 1) ∧ J' 183 18 = nI (tNu b m 2) ∧ J' 183 19 = nI (rgN b m T % 2) ∧ J' 183 20 = nI (rgN b m T / 2) ∧ (∀ i, i < 16 → J' 191 i = iI ((tII b m i T).getD (aLL b m 6 T)) ∧ J' 191 (16 + i) = iI ((tII b m (16 + i) T).getD (aLL b m 7 T)) ∧ J' 191 (32 + i) = iI ((pUU b m i T).getD (aLL b m 8 T)) ∧ J' 191 (48 + i) = nI (pII b m i T)) ∧ (∃ u, J' 191 64 = nI u ∧ ∀ i, u.testBit i = (decide (i < tNu b m 1 * tNu b m 2) && decide (pII b m i T = 1))) ∧ J' 191 65 = nI (sDD b m T) ∧ J' 183 29 = 0 ∧ (∀ i, i < 3 → J' 195 i = 0) ∧ J' 183 32 = 0
theorem read12_ok (hS : Shp τ) (hk : KY (xL τ)) (hm : m ≤ 2000) (h2 : J 183 2 = nI m) (hb : ∀ k, k < m → J 184 k = b k ∧ byB (b k)) : ∃ (L : Nat → Nat → Int64) (r : Nat) (J' : Nat → Nat → Int32), f_X12_read (xw τ J) 183 = some (nI r, xw (xl τ L) J') ∧ (∀ q, L 190 q = xL τ 190 q) ∧ J' 183 2 = 0 ∧ ((RBD b m r (J' 183 16) ∧ ∀ a q, ¬ sRM a q → J' a q = J a q) ∨ ∃ T, cutR b m T 0 0 ∧ fFT b m T = none ∧ r = 0 ∧ RGD J' b m T ∧ ∀ a q, ¬ sRM a q → ¬ (a = 191 ∨ a = 195 ∨ (a = 183 ∧ ((17 ≤ q ∧ q ≤ 20) ∨ q = 29 ∨ q = 32))) → J' a q = J a q) := by
  obtain ⟨B, hB⟩ : ∃ B : Nat → Nat → Nat → Int32, B = fun n a q => if a = 185 ∧ q < n then J 184 q else if a = 183 ∧ q = 4 then nI m else J a q := ⟨_, rfl⟩
  have uB : ∀ n a q, a ≠ 185 → ¬ (a = 183 ∧ q = 4) → B n a q = J a q := fun n a q h1 h3 => by
    rw [hB]; show (if a = 185 ∧ q < n then J 184 q else if a = 183 ∧ q = 4 then nI m else J a q) = _
    rw [if_neg (by omega), if_neg h3]
  have B4 : ∀ n, B n 183 4 = nI m := fun n => by
    rw [hB]; show (if 183 = 185 ∧ 4 < n then J 184 4 else if 183 = 183 ∧ 4 = 4 then nI m else J 183 4) = _
    rw [if_neg (by omega), if_pos ⟨rfl, rfl⟩]
  have B0 : xup J 183 4 (nI m) = B 0 := by
    funext a q
    rw [xup_at, hB]
    show _ = (if a = 185 ∧ q < 0 then J 184 q else if a = 183 ∧ q = 4 then nI m else J a q)
    rw [if_neg (show ¬ (a = 185 ∧ q < 0) by omega)]
  have Bs : ∀ i, xup (B i) 185 i (J 184 i) = B (i + 1) := fun i => by
    funext a q
    rw [xup_at, hB]
    show (if a = 185 ∧ q = i then J 184 i else if a = 185 ∧ q < i then J 184 q else if a = 183 ∧ q = 4 then nI m else J a q) = if a = 185 ∧ q < i + 1 then J 184 q else if a = 183 ∧ q = 4 then nI m else J a q
    by_cases z : a = 185 ∧ q = i
    · rw [if_pos z, if_pos (by omega), z.2]
    · rw [if_neg z]
      by_cases y : a = 185 ∧ q < i
      · rw [if_pos y, if_pos (by omega)]
      · rw [if_neg y, if_neg (show ¬ (a = 185 ∧ q < i + 1) by omega)]
  obtain ⟨C, hC⟩ : ∃ C, C = xup (B m) 183 2 0 := ⟨_, rfl⟩
  have uC : ∀ a q, a ≠ 185 → ¬ (a = 183 ∧ (q = 2 ∨ q = 4)) → C a q = J a q := fun a q h1 h2 => by rw [hC, xup_at, if_neg (by omega)]; exact uB m a q h1 (by omega)
  have C2 : C 183 2 = 0 := by rw [hC, xup_at, if_pos ⟨rfl, rfl⟩]
  have X : TX C b m := by
    refine ⟨hm, by rw [hC, xup_at, if_neg (by omega)]; exact B4 m, fun k hk => ⟨?_, (hb k hk).2⟩⟩
    rw [hC, xup_at, if_neg (by omega), ← (hb k hk).1, hB]
    exact if_pos ⟨rfl, hk⟩
  obtain ⟨L, D, N, d1, d2, d3, d4, d5, d6, d7, d8, uD⟩ := cutsText_ok (τ := τ) hS hk X
  have hS' : Shp (xl τ L) := hS
  obtain ⟨E, hE⟩ : ∃ E, E = xup (xup (xup D 183 11 0) 183 12 0) 183 14 0 := ⟨_, rfl⟩
  have uE : ∀ a q, ¬ (a = 183 ∧ (q = 11 ∨ q = 12 ∨ q = 14)) → E a q = D a q := fun a q h => by rw [hE, xup_at, if_neg (by omega), xup_at, if_neg (by omega), xup_at, if_neg (by omega)]
  have E11 : E 183 11 = 0 := by rw [hE, xup_at, if_neg (by omega), xup_at, if_neg (by omega), xup_at, if_pos ⟨rfl, rfl⟩]
  have E12 : E 183 12 = 0 := by rw [hE, xup_at, if_neg (by omega), xup_at, if_pos ⟨rfl, rfl⟩]
  have E14 : E 183 14 = 0 := by rw [hE, xup_at, if_pos ⟨rfl, rfl⟩]
  have hN : TN E b m N := ⟨d3, d4, fun k hk => by
    have := d6 k hk
    rw [uE _ _ (by omega), uE _ _ (by omega), uE _ _ (by omega)]; exact this, d7, d8⟩
  have s0 : ST E E b m 0 0 := ⟨fun _ _ _ => rfl, .inl ⟨0, Nat.le_refl _, E11, E12, by omega, rfl⟩⟩
  obtain ⟨J1, m1, s1⟩ := must_s (τ := xl τ L) hS' hN s0 (k' := 5) (w' := 1) (by omega) (by omega) (by omega) (by omega) (by decide) dl_0
  obtain ⟨J2, m2, s2⟩ := must_s (τ := xl τ L) hS' hN s1 (k' := 2) (w' := 2) (by omega) (by omega) (by omega) (by omega) (by decide) dl_1
  obtain ⟨J3, m3, s3⟩ := must_s (τ := xl τ L) hS' hN s2 (k' := 2) (w' := 3) (by omega) (by omega) (by omega) (by omega) (by decide) dl_2
  obtain ⟨J4, m4, s4⟩ := must_s (τ := xl τ L) hS' hN s3 (k' := 4) (w' := 4) (by omega) (by omega) (by omega) (by omega) (by decide) dl_3
  obtain ⟨J5, f5, c5, r5⟩ := gram_l (τ := xl τ L) hS' hN 401 (0 + 1 + 1 + 1 + 1) J4 (by omega) s4
  obtain ⟨r, J6, e6, c6⟩ := read_103 (τ := xl τ L) hS' hm (by rw [uE _ _ (by omega)]; exact d5) hN E14 f5 c5
  have m1 : f_X12_must (xw (xl τ L) E) 183 (20 : Int32) = some (xw (xl τ L) J1) := m1
  have m2 : f_X12_must (xw (xl τ L) J1) 183 (2 : Int32) = some (xw (xl τ L) J2) := m2
  have m3 : f_X12_must (xw (xl τ L) J2) 183 (2 : Int32) = some (xw (xl τ L) J3) := m3
  have m4 : f_X12_must (xw (xl τ L) J3) 183 (4 : Int32) = some (xw (xl τ L) J4) := m4
  have e5 := r5 _ e6
  have run : f_X12_read (xw τ J) 183 = some (nI r, xw (xl τ L) J6) := by
    unfold f_X12_read
    rw [kG183 hS, Option.bind_some, h2, kP183 hS, Option.bind_some, B0]
    refine xforE (fun i : Nat => (nI i, xw τ (B i))) m rfl (fun i hi => ?_) ?_
    · have q1 : (nI m ≤ nI i) = False := by rw [nn_le (by omega) (by omega)]; exact eq_false (by omega)
      have i2 : i < 2000 := by omega
      have v : B i 184 i = J 184 i := uB i 184 i (by omega) (by omega)
      have nb : vp_nar .byte (J 184 i) = J 184 i := by
        have := hb i hi
        rw [this.1]
        exact fb_byte this.2.1 this.2.2
      simp only [f_X12_read_b10]
      rw [kG183 hS, Option.bind_some, B4, if_neg (by rw [q1]; exact id), xw_gR, kR183_3 hS, Option.bind_some, xw_gR, kR183_1 hS, Option.bind_some, kA184 hS i2, Option.bind_some, v, nb, kS185 hS i2, Option.bind_some, Bs, nI_succ]
    · simp only [f_X12_read_b10]
      rw [kG183 hS, Option.bind_some, B4, if_pos (by rw [nn_le (by omega) (by omega)]; exact Nat.le_refl _), kP183 hS, Option.bind_some, ← hC, xw_ck, kC183 hS, Option.bind_some, d1, Option.bind_some, kP183 hS', Option.bind_some, kP183 hS', Option.bind_some, kP183 hS', Option.bind_some, ← hE, xw_ck, kC183 hS', Option.bind_some, m1, Option.bind_some, xw_ck, kC183 hS', Option.bind_some, m2, Option.bind_some, xw_ck, kC183 hS', Option.bind_some, m3, Option.bind_some, xw_ck, kC183 hS', Option.bind_some, m4, Option.bind_some, e5]
      rfl
  have uED : ∀ a q, ¬ (185 ≤ a ∧ a ≤ 188) → ¬ (a = 183 ∧ (q = 2 ∨ q = 4 ∨ q = 10 ∨ q = 11 ∨ q = 12 ∨ q = 14)) → E a q = J a q := fun a q h1 h2 => by rw [uE a q (by omega), uD a q (by omega) (by omega)]; exact uC a q (by omega) (by omega)
  have E2 : E 183 2 = 0 := by rw [uE _ _ (by omega), uD _ _ (by omega) (by omega)]; exact C2
  rcases c6 with ⟨c7, u7⟩ | ⟨T, t1, t2, t3, t4, t5, t6, t7, t8, t9, t10, t11, t12, t13, t14, u7⟩
  · refine ⟨L, r, J6, run, d2, by rw [u7 _ _ (by omega)]; exact E2, .inl ⟨c7, fun a q h => ?_⟩⟩
    unfold sRM at h
    rw [u7 a q (by omega)]
    exact uED a q (by omega) (by omega)
  · refine ⟨L, r, J6, run, d2, by rw [u7 _ _ (by omega)]; exact E2, .inr ⟨T, t1, t2, t3, ⟨t4, t5, t6, t7, t8, t9, t10, t11, t12, t13, t14⟩, fun a q h h' => ?_⟩⟩
    unfold sRM at h
    rw [u7 a q (by omega)]
    exact uED a q (by omega) (by omega)
end RD2
