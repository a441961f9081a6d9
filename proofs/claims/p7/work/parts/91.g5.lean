/-! the model's meaning, whole -/
section MEANS
variable {τ : XS} {J0 J : Nat → Nat → Int32} {b : Nat → Int32} {m T w l rA rL : Nat} {W : Nat → Nat → Prop}
theorem dl_9 : ∀ v, v < 14 → (dl v 9).all (fun e => decide (e = 7)) = true := by decide
theorem dl_7 : ∀ k, k < 16 → dl 7 k = none ∨ k = 6 ∨ k = 7 := by decide
theorem ring9 (hT : OKT b m T) {k : Nat} (hk : k < T) (h9 : tKd b m k = 9) : tKd b m (k + 1) = 6 ∨ tKd b m (k + 1) = 7 := by
  obtain ⟨v, v1, v2, u, v3, v4⟩ := ws_pre T 4 hT.1 k hk
  have e := dl_9 v (ws_b k v v1)
  rw [h9] at v3
  rw [v3] at e
  have u7 : u = 7 := by simpa using e
  rw [u7] at v4
  obtain ⟨-, -, h16, u', d1, -⟩ := ws_go hT v4 (by omega) (by omega)
  rcases dl_7 _ h16 with z | z | z
  · rw [z] at d1; cases d1
  · exact .inl z
  · exact .inr z
def A1w (b : Nat → Int32) (m k c j : Nat) : Prop := (tKd b m k = 6 ∨ tKd b m k = 7 ∨ tKd b m k = 8) ∧ 3 < tNu b m (jnT b m (k + 1)) ∧ c = 3 ∧ j = jnT b m (k + 1)
def A2w (b : Nat → Int32) (m : Nat) (β : Nat → Bool) (k c j : Nat) : Prop := ¬ (tKd b m k = 6 ∨ tKd b m k = 7 ∨ tKd b m k = 8) ∧ clL b m β k c j
def A0w (w l c j : Nat) : Prop := ((w < 1 ∨ 4 < w) ∧ c = 3 ∧ j = 1) ∨ ((l < 1 ∨ 16 < l ∨ 16 < w * l) ∧ c = 3 ∧ j = 2)
def WW3 (b : Nat → Int32) (m w l : Nat) (β : Nat → Bool) (p q c j : Nat) : Prop := A0w w l c j ∨ (∃ k, k < p ∧ lsB b m k = true ∧ A1w b m k c j) ∨ ∃ k, k < q ∧ lsB b m k = true ∧ A2w b m β k c j
def FR2 (J : Nat → Nat → Int32) (b : Nat → Int32) (m T k : Nat) : Prop := (∀ i, i < 16 → J 192 i = iI ((tII b m i k).getD (aLL b m 6 T)) ∧ J 192 (16 + i) = iI ((tII b m (16 + i) k).getD (aLL b m 7 T)) ∧ J 192 (32 + i) = iI ((pUU b m i k).getD (aLL b m 8 T)) ∧ J 192 (48 + i) = nI (pII b m i k)) ∧ J 192 64 = 0 ∧ J 192 65 = nI (sDD b m T)
theorem MW_0 (hW : MW J b m W) (h : J 183 14 = 0) (c j : Nat) : ¬ W c j := by
  rcases hW with ⟨-, w2⟩ | ⟨c0, j0, -, w2, w3, w4, -, -⟩
  · exact w2 c j
  · rw [w4] at h
    exact absurd h (nI_ne0 (by omega) (by omega))
theorem MW_e (hW : MW J b m W) (h : ∀ c j, ¬ W c j) : J 183 14 = 0 := by
  rcases hW with ⟨w1, -⟩ | ⟨c0, j0, w1, -⟩
  · exact w1
  · exact absurd w1 (h c0 j0)
theorem fold_T {α : Type} {x0 : α} {f : Nat → α → α} (h : ∀ a, f T a = a) : foldL b m x0 f (T + 1) = foldL b m x0 f T := by
  rw [foldL]
  split
  · exact h _
  · rfl
theorem one_l (hS : Shp τ) (hB : MB J0 b m T) (h22 : w < 10000) (h23 : l < 10000) : ∀ n k J, T + 1 - k ≤ n → 4 ≤ k → k ≤ T + 1 → MF J0 J → MW J b m (WW3 b m w l (btB b m w l rA rL) (T + 1) k) → J 183 22 = nI w → J 183 23 = nI l → J 183 24 = nI rA → J 183 25 = nI rL → (J 183 14 = 0 → FR2 J b m T k) → ∃ J', xloop (f_X12_means_b211 183) (nI k, xw τ J) = some (xw τ J') ∧ MF J0 J' ∧ MW J' b m (WW3 b m w l (btB b m w l rA rL) (T + 1) (T + 1)) ∧ J' 183 22 = nI w ∧ J' 183 23 = nI l ∧ J' 183 24 = nI rA ∧ J' 183 25 = nI rL ∧ (J' 183 14 = 0 → FR2 J' b m T (T + 1)) := by
  have hT := hB.1
  have T400 := hT.2.1
  have v10 : ∀ J1, MF J0 J1 → J1 183 10 = nI (T + 1) := fun J1 h => by rw [h _ _ (by omega) (by omega)]; exact hB.2.2.1
  have stop : ∀ J1, MF J0 J1 → xloop (f_X12_means_b211 183) (nI (T + 1), xw τ J1) = some (xw τ J1) := fun J1 h => by
    refine xloop_end ?_
    simp only [f_X12_means_b211]
    rw [kG183 hS, Option.bind_some, v10 J1 h, if_pos (by rw [nn_le (by omega) (by omega)]; exact Nat.le_refl _)]
    rfl
  intro n
  induction n with
  | zero =>
    intro k J hn k4 kT hF hW e22 e23 e24 e25 hR
    have : k = T + 1 := by omega
    subst this
    exact ⟨J, stop J hF, hF, hW, e22, e23, e24, e25, hR⟩
  | succ n ih =>
    intro k J hn k4 kT hF hW e22 e23 e24 e25 hR
    by_cases z : k = T + 1
    · subst z
      exact ⟨J, stop J hF, hF, hW, e22, e23, e24, e25, hR⟩
    · have kT' : k ≤ T := by omega
      have q1 : (nI (T + 1) ≤ nI k) = False := by rw [nn_le (by omega) (by omega)]; exact eq_false (by omega)
      have k403 : k - 1 < 403 := by omega
      have q4 : (J 186 (k - 1) = (4 : Int32)) = (tKd b m (k - 1) = 4) := mKe (k' := 4) hB hF (by omega) (by omega) (by omega)
      have es : nI k - (1 : Int32) = nI (k - 1) := nn_sub (a := k) (b := 1) (by omega)
      have step : f_X12_means_b211 183 (nI k, xw τ J) = if tKd b m (k - 1) = 4 then ((f_X12_meansOne (xw τ J) 183 (nI k)).bind fun σ9 => some (.inl (nI (k + 1), σ9))) else some (.inl (nI (k + 1), xw τ J)) := by
        simp only [f_X12_means_b211]
        rw [kG183 hS, Option.bind_some, v10 J hF, if_neg (by rw [q1]; exact id)]
        simp only [xw_gR, kR183_5 hS, Option.bind_some, es, kA186 hS k403, q4, xw_ck, kC183 hS, nI_succ]
      by_cases hk : tKd b m (k - 1) = 4
      · have hl : lsB b m k = true := by unfold lsB; rw [decide_eq_true k4, decide_eq_true hk]; rfl
        rw [if_pos hk] at step
        have hsz : J 183 14 = 0 → w * l ≤ 16 := fun h => by
          apply Classical.byContradiction
          intro x
          exact MW_0 hW h 3 2 (.inl (.inr ⟨.inr (.inr (by omega)), rfl, rfl⟩))
        obtain ⟨J1, a1, a2, a3, a4, a5⟩ := meansOne_ok (τ := τ) (rA := rA) (rL := rL) hS hB hF hW k4 kT' hl e22 e23 e24 e25 h22 h23 hsz
        have eqW : ∀ c j, WW3 b m w l (btB b m w l rA rL) (T + 1) (k + 1) c j ↔ (WW3 b m w l (btB b m w l rA rL) (T + 1) k c j ∨ (¬ (tKd b m k = 6 ∨ tKd b m k = 7 ∨ tKd b m k = 8) ∧ clL b m (btB b m w l rA rL) k c j)) := fun c j => by
          unfold WW3
          constructor
          · rintro (x | x | ⟨k', x1, x2, x3⟩)
            · exact .inl (.inl x)
            · exact .inl (.inr (.inl x))
            · by_cases y : k' = k
              · rw [y] at x3; exact .inr x3
              · exact .inl (.inr (.inr ⟨k', by omega, x2, x3⟩))
          · rintro ((x | x | ⟨k', x1, x2, x3⟩) | x)
            · exact .inl x
            · exact .inr (.inl x)
            · exact .inr (.inr ⟨k', by omega, x2, x3⟩)
            · exact .inr (.inr ⟨k, by omega, hl, x⟩)
        have a3' := MW_c rfl rfl eqW a3
        have fr : J1 183 14 = 0 → FR2 J1 b m T (k + 1) := fun h => by
          have no := MW_0 a3' h
          have h0 : J 183 14 = 0 := MW_e hW (fun c j x => no c j ((eqW c j).mpr (.inl x)))
          have v := a5 h0
          obtain ⟨r1, r2, r3⟩ := hR h0
          have bt : tKd b m k = 10 ∨ tKd b m k = 11 ∨ tKd b m k = 12 → btB b m w l rA rL k = false := fun hh => by
            cases hb : btB b m w l rA rL k with
            | false => rfl
            | true => exact absurd ((eqW 4 (k + 1)).mpr (.inr ⟨by omega, .inr (.inl ⟨hh, hb, rfl, rfl⟩)⟩)) (no _ _)
          have s16 : tKd b m k = 10 ∨ tKd b m k = 11 ∨ tKd b m k = 12 → tNu b m (k + 1) < 16 := fun hh => by
            have x := bt hh
            unfold btB at x
            rw [Bool.or_eq_false_iff] at x
            have := of_decide_eq_false x.1
            have := hsz h0
            omega
          have vv : ∀ q, J1 192 q = if (tKd b m k = 10 ∨ tKd b m k = 11 ∨ tKd b m k = 12) ∧ q = posT b m k then valT b m k else J 192 q := fun q => by
            rw [v q]
            by_cases hh : tKd b m k = 10 ∨ tKd b m k = 11 ∨ tKd b m k = 12
            · by_cases hq : q = posT b m k
              · rw [if_pos ⟨hh, bt hh, hq⟩, if_pos ⟨hh, hq⟩]
              · rw [if_neg (fun x => hq x.2.2), if_neg (fun x => hq x.2)]
            · rw [if_neg (fun x => hh x.1), if_neg (fun x => hh x.1)]
          have p10 : tKd b m k = 10 → posT b m k = tpl b m k ∧ valT b m k = iI (jvT b m (k + 3)) ∧ tpl b m k < 32 := fun hh => by
            have := s16 (.inl hh)
            unfold posT valT tpl
            rw [if_pos hh, if_pos hh]
            exact ⟨rfl, rfl, by split <;> omega⟩
          have p11 : tKd b m k = 11 → posT b m k = 32 + tNu b m (k + 1) ∧ valT b m k = iI (jvT b m (k + 2)) := fun hh => by
            unfold posT valT
            rw [if_neg (by omega), if_pos hh, if_neg (by omega), if_pos hh]
            exact ⟨rfl, rfl⟩
          have p12 : tKd b m k = 12 → posT b m k = 48 + tNu b m (k + 1) ∧ valT b m k = nI (if tKd b m (k + 2) = 13 then 1 else 2) := fun hh => by
            unfold posT valT
            rw [if_neg (by omega), if_neg (by omega), if_neg (by omega), if_neg (by omega)]
            refine ⟨rfl, ?_⟩
            split <;> rfl
          have t10 : ∀ t, t < 32 → ∀ a, J 192 t = iI ((tII b m t k).getD a) → J1 192 t = iI ((tII b m t (k + 1)).getD a) := fun t ht a ha => by
            rw [vv]
            unfold tII
            rw [fold_at hl]
            by_cases hh : tKd b m k = 10 ∧ tpl b m k = t
            · have := p10 hh.1
              rw [if_pos hh, if_pos ⟨.inl hh.1, by omega⟩, this.2.1]
              rfl
            · rw [if_neg hh, if_neg ?_]
              · exact ha
              · rintro ⟨x1, x2⟩
                have s := s16 x1
                rcases x1 with x | x | x
                · exact hh ⟨x, by rw [x2, (p10 x).1]⟩
                · rw [(p11 x).1] at x2; omega
                · rw [(p12 x).1] at x2; omega
          have ng : ∀ q, 64 ≤ q → J1 192 q = J 192 q := fun q hq => by
            rw [vv, if_neg ?_]
            rintro ⟨x1, x2⟩
            have s := s16 x1
            rcases x1 with x | x | x
            · have := p10 x; omega
            · rw [(p11 x).1] at x2; omega
            · rw [(p12 x).1] at x2; omega
          refine ⟨fun i hi => ⟨t10 i (by omega) _ (r1 i hi).1, t10 (16 + i) (by omega) _ (r1 i hi).2.1, ?_, ?_⟩, by rw [ng 64 (by omega)]; exact r2, by rw [ng 65 (by omega)]; exact r3⟩
          · have ha := (r1 i hi).2.2.1
            rw [vv]
            unfold pUU at ha ⊢
            rw [fold_at hl]
            by_cases hh : tKd b m k = 11 ∧ tNu b m (k + 1) = i
            · have := p11 hh.1
              rw [if_pos hh, if_pos ⟨.inr (.inl hh.1), by omega⟩, this.2]
              rfl
            · rw [if_neg hh, if_neg ?_]
              · exact ha
              · rintro ⟨x1, x2⟩
                have s := s16 x1
                rcases x1 with x | x | x
                · have := p10 x; omega
                · rw [(p11 x).1] at x2; exact hh ⟨x, by omega⟩
                · rw [(p12 x).1] at x2; omega
          · have ha := (r1 i hi).2.2.2
            rw [vv]
            unfold pII at ha ⊢
            rw [fold_at hl]
            by_cases hh : tKd b m k = 12 ∧ tNu b m (k + 1) = i
            · have := p12 hh.1
              rw [if_pos hh, if_pos ⟨.inr (.inr hh.1), by omega⟩, this.2]
            · rw [if_neg hh, if_neg ?_]
              · exact ha
              · rintro ⟨x1, x2⟩
                have s := s16 x1
                rcases x1 with x | x | x
                · have := p10 x; omega
                · rw [(p11 x).1] at x2; omega
                · rw [(p12 x).1] at x2; exact hh ⟨x, by omega⟩
        rw [a1, Option.bind_some] at step
        obtain ⟨J', c1, c2⟩ := ih (k + 1) J1 (by omega) (by omega) (by omega) a2 a3' (by rw [a4 _ (by omega) (by omega)]; exact e22) (by rw [a4 _ (by omega) (by omega)]; exact e23) (by rw [a4 _ (by omega) (by omega)]; exact e24) (by rw [a4 _ (by omega) (by omega)]; exact e25) fr
        exact ⟨J', by rw [← c1]; exact xloop_step step, c2⟩
      · have hl : lsB b m k = false := by unfold lsB; rw [decide_eq_false hk, Bool.and_false]
        rw [if_neg hk] at step
        have eqW : ∀ c j, WW3 b m w l (btB b m w l rA rL) (T + 1) (k + 1) c j ↔ WW3 b m w l (btB b m w l rA rL) (T + 1) k c j := fun c j => by
          unfold WW3
          constructor
          · rintro (x | x | ⟨k', x1, x2, x3⟩)
            · exact .inl x
            · exact .inr (.inl x)
            · refine .inr (.inr ⟨k', ?_, x2, x3⟩)
              rcases Nat.lt_or_ge k' k with y | y
              · exact y
              · have : k' = k := by omega
                rw [this, hl] at x2; cases x2
          · rintro (x | x | ⟨k', x1, x2, x3⟩)
            · exact .inl x
            · exact .inr (.inl x)
            · exact .inr (.inr ⟨k', by omega, x2, x3⟩)
        have fr : J 183 14 = 0 → FR2 J b m T (k + 1) := fun h => by
          have r := hR h
          unfold FR2 tII pUU pII at r ⊢
          simp only [fold_no hl]
          exact r
        obtain ⟨J', c1, c2⟩ := ih (k + 1) J (by omega) (by omega) (by omega) hF (MW_c rfl rfl eqW hW) e22 e23 e24 e25 fr
        exact ⟨J', by rw [← c1]; exact xloop_step step, c2⟩
theorem all_l (hS : Shp τ) (hB : MB J0 b m T) (h22 : w < 10000) (h23 : l < 10000) : ∀ n k J, T + 1 - k ≤ n → 4 ≤ k → k ≤ T + 1 → MF J0 J → MW J b m (WW3 b m w l (btB b m w l rA rL) k 4) → J 183 22 = nI w → J 183 23 = nI l → J 183 24 = nI rA → J 183 25 = nI rL → FR1 J b m k → ∃ J', xloop (f_X12_means_b178 183) (nI k, xw τ J) = some (xw τ J') ∧ MF J0 J' ∧ MW J' b m (WW3 b m w l (btB b m w l rA rL) (T + 1) (T + 1)) ∧ J' 183 22 = nI w ∧ J' 183 23 = nI l ∧ J' 183 24 = nI rA ∧ J' 183 25 = nI rL ∧ (J' 183 14 = 0 → FR2 J' b m T (T + 1)) := by
  have hT := hB.1
  have T400 := hT.2.1
  have v10 : ∀ J1, MF J0 J1 → J1 183 10 = nI (T + 1) := fun J1 h => by rw [h _ _ (by omega) (by omega)]; exact hB.2.2.1
  have stop : ∀ J1, MF J0 J1 → MW J1 b m (WW3 b m w l (btB b m w l rA rL) (T + 1) 4) → J1 183 22 = nI w → J1 183 23 = nI l → J1 183 24 = nI rA → J1 183 25 = nI rL → FR1 J1 b m (T + 1) → ∃ J', xloop (f_X12_means_b178 183) (nI (T + 1), xw τ J1) = some (xw τ J') ∧ MF J0 J' ∧ MW J' b m (WW3 b m w l (btB b m w l rA rL) (T + 1) (T + 1)) ∧ J' 183 22 = nI w ∧ J' 183 23 = nI l ∧ J' 183 24 = nI rA ∧ J' 183 25 = nI rL ∧ (J' 183 14 = 0 → FR2 J' b m T (T + 1)) := fun J1 h hw e22 e23 e24 e25 hR => by
    have eA : ∀ c, c ≠ 0 → aLL b m c (T + 1) = aLL b m c T := fun c hc => fold_T (fun a => by rw [hT.2.2, if_neg (by omega)])
    have eS : sDD b m (T + 1) = sDD b m T := fold_T (fun a => by rw [hT.2.2, if_neg (by omega)])
    have fr : FR2 J1 b m T 4 := by
      obtain ⟨r1, r2, r3⟩ := hR
      rw [eA 6 (by omega), eA 7 (by omega), eA 8 (by omega)] at r1
      rw [eS] at r3
      unfold FR2 tII pUU pII
      simp only [foldL_4 _ _ 4 (Nat.le_refl 4)]
      exact ⟨r1, r2, r3⟩
    obtain ⟨J', c1, c2⟩ := one_l (τ := τ) hS hB h22 h23 (T + 1) 4 J1 (by omega) (by omega) (by have := (head_at hT).1; omega) h hw e22 e23 e24 e25 (fun _ => fr)
    have c1 : xloop (f_X12_means_b211 183) ((4 : Int32), xw τ J1) = some (xw τ J') := c1
    refine ⟨J', xloop_end ?_, c2⟩
    simp only [f_X12_means_b178]
    rw [kG183 hS, Option.bind_some, v10 J1 h, if_pos (by rw [nn_le (by omega) (by omega)]; exact Nat.le_refl _), c1]
    rfl
  intro n
  induction n with
  | zero =>
    intro k J hn k4 kT hF hW e22 e23 e24 e25 hR
    have : k = T + 1 := by omega
    subst this
    exact stop J hF hW e22 e23 e24 e25 hR
  | succ n ih =>
    intro k J hn k4 kT hF hW e22 e23 e24 e25 hR
    by_cases z : k = T + 1
    · subst z
      exact stop J hF hW e22 e23 e24 e25 hR
    · have kT' : k ≤ T := by omega
      have q1 : (nI (T + 1) ≤ nI k) = False := by rw [nn_le (by omega) (by omega)]; exact eq_false (by omega)
      have k403 : k - 1 < 403 := by omega
      have q4 : (J 186 (k - 1) = (4 : Int32)) = (tKd b m (k - 1) = 4) := mKe (k' := 4) hB hF (by omega) (by omega) (by omega)
      have es : nI k - (1 : Int32) = nI (k - 1) := nn_sub (a := k) (b := 1) (by omega)
      have step : f_X12_means_b178 183 (nI k, xw τ J) = if tKd b m (k - 1) = 4 then ((f_X12_meansAll (xw τ J) 183 (nI k)).bind fun σ9 => some (.inl (nI (k + 1), σ9))) else some (.inl (nI (k + 1), xw τ J)) := by
        simp only [f_X12_means_b178]
        rw [kG183 hS, Option.bind_some, v10 J hF, if_neg (by rw [q1]; exact id)]
        simp only [xw_gR, kR183_5 hS, Option.bind_some, es, kA186 hS k403, q4, xw_ck, kC183 hS, nI_succ]
      by_cases hk : tKd b m (k - 1) = 4
      · have hl : lsB b m k = true := by unfold lsB; rw [decide_eq_true k4, decide_eq_true hk]; rfl
        rw [if_pos hk] at step
        obtain ⟨J1, a1, a2, a3, a4, a5⟩ := meansAll_ok (τ := τ) hS hB hF hW k4 kT' hl hR
        have eqW : ∀ c j, WW3 b m w l (btB b m w l rA rL) (k + 1) 4 c j ↔ (WW3 b m w l (btB b m w l rA rL) k 4 c j ∨ ((tKd b m k = 6 ∨ tKd b m k = 7 ∨ tKd b m k = 8) ∧ 3 < tNu b m (jnT b m (k + 1)) ∧ c = 3 ∧ j = jnT b m (k + 1))) := fun c j => by
          unfold WW3
          constructor
          · rintro (x | ⟨k', x1, x2, x3⟩ | x)
            · exact .inl (.inl x)
            · by_cases y : k' = k
              · rw [y] at x3; exact .inr x3
              · exact .inl (.inr (.inl ⟨k', by omega, x2, x3⟩))
            · exact .inl (.inr (.inr x))
          · rintro ((x | ⟨k', x1, x2, x3⟩ | x) | x)
            · exact .inl x
            · exact .inr (.inl ⟨k', by omega, x2, x3⟩)
            · exact .inr (.inr x)
            · exact .inr (.inl ⟨k, by omega, hl, x⟩)
        rw [a1, Option.bind_some] at step
        obtain ⟨J', c1, c2⟩ := ih (k + 1) J1 (by omega) (by omega) (by omega) a2 (MW_c rfl rfl eqW a3) (by rw [a5 _ (by omega) (by omega)]; exact e22) (by rw [a5 _ (by omega) (by omega)]; exact e23) (by rw [a5 _ (by omega) (by omega)]; exact e24) (by rw [a5 _ (by omega) (by omega)]; exact e25) a4
        exact ⟨J', by rw [← c1]; exact xloop_step step, c2⟩
      · have hl : lsB b m k = false := by unfold lsB; rw [decide_eq_false hk, Bool.and_false]
        rw [if_neg hk] at step
        have eqW : ∀ c j, WW3 b m w l (btB b m w l rA rL) (k + 1) 4 c j ↔ WW3 b m w l (btB b m w l rA rL) k 4 c j := fun c j => by
          unfold WW3
          constructor
          · rintro (x | ⟨k', x1, x2, x3⟩ | x)
            · exact .inl x
            · refine .inr (.inl ⟨k', ?_, x2, x3⟩)
              rcases Nat.lt_or_ge k' k with y | y
              · exact y
              · have : k' = k := by omega
                rw [this, hl] at x2; cases x2
            · exact .inr (.inr x)
          · rintro (x | ⟨k', x1, x2, x3⟩ | x)
            · exact .inl x
            · exact .inr (.inl ⟨k', by omega, x2, x3⟩)
            · exact .inr (.inr x)
        have fr : FR1 J b m (k + 1) := by
          unfold FR1 aLL sDD at hR ⊢
          simp only [fold_no hl]
          exact hR
        obtain ⟨J', c1, c2⟩ := ih (k + 1) J (by omega) (by omega) (by omega) hF (MW_c rfl rfl eqW hW) e22 e23 e24 e25 fr
        exact ⟨J', by rw [← c1]; exact xloop_step step, c2⟩
theorem or_1 : ∀ x, x < 4 → (x ||| 1) % 2 = 1 ∧ (x ||| 1) / 2 = x / 2 ∧ (x ||| 2) % 2 = x % 2 ∧ (x ||| 2) / 2 = 1 := by decide
def rUp (J : Nat → Nat → Int32) (r : Nat) : Nat → Nat → Int32 := xup (xup J 183 24 (nI (r % 2))) 183 25 (nI (r / 2))
theorem ring_s (hS : Shp τ) (hB : MB J0 b m T) (hF : MF J0 J) {k : Nat} (hk : k ≤ T) (h1 : J 183 24 = nI (rgN b m k % 2)) (h2 : J 183 25 = nI (rgN b m k / 2)) : ∃ J', f_X12_means_b104 183 (nI k, xw τ J) = some (.inl (nI (k + 1), xw τ J')) ∧ MF J0 J' ∧ (∀ a q, ¬ (a = 183 ∧ (q = 24 ∨ q = 25)) → J' a q = J a q) ∧ J' 183 24 = nI (rgN b m (k + 1) % 2) ∧ J' 183 25 = nI (rgN b m (k + 1) / 2) := by
  have hT := hB.1
  have T400 := hT.2.1
  have v10 : J 183 10 = nI (T + 1) := by rw [hF _ _ (by omega) (by omega)]; exact hB.2.2.1
  have q1 : (nI (T + 1) ≤ nI k) = False := by rw [nn_le (by omega) (by omega)]; exact eq_false (by omega)
  have k403 : k < 403 := by omega
  have es : nI k + (1 : Int32) = nI (k + 1) := (nI_succ k).symm
  have q9 : (J 186 k = (24 : Int32)) = (tKd b m k = 9) := mKe (k' := 9) hB hF hk (by omega) (by omega)
  have rb := or_1 _ (rgN_b b m k)
  simp only [f_X12_means_b104]
  rw [kG183 hS, Option.bind_some, v10, if_neg (by rw [q1]; exact id)]
  by_cases h9 : tKd b m k = 9
  · have hlt : k < T := by
      rcases Nat.lt_or_ge k T with z | z
      · exact z
      · have : k = T := by omega
        rw [this, hT.2.2] at h9; omega
    have k403' : k + 1 < 403 := by omega
    have q6 : (J 186 (k + 1) = (21 : Int32)) = (tKd b m (k + 1) = 6) := mKe (k' := 6) hB hF (by omega) (by omega) (by omega)
    have q7 : (J 186 (k + 1) = (22 : Int32)) = (tKd b m (k + 1) = 7) := mKe (k' := 7) hB hF (by omega) (by omega) (by omega)
    rw [xw_gR, kR183_5 hS, Option.bind_some, kA186 hS k403, Option.bind_some, if_pos (by rw [q9]; exact h9), Option.bind_some, es, kA186 hS k403', Option.bind_some]
    rcases ring9 hT hlt h9 with h6 | h7
    · have er : rgN b m (k + 1) = rgN b m k ||| 1 := by rw [rgN, if_pos h9, if_pos h6]
      have g1 : (xup J 183 24 (1 : Int32)) 186 k = J 186 k := by rw [xup_at, if_neg (by omega)]
      have g2 : (xup J 183 24 (1 : Int32)) 186 (k + 1) = J 186 (k + 1) := by rw [xup_at, if_neg (by omega)]
      refine ⟨xup J 183 24 1, ?_, fun a q x y => by rw [xup_at, if_neg (by omega)]; exact hF a q x y, fun a q x => by rw [xup_at, if_neg (by omega)], by rw [xup_at, if_pos ⟨rfl, rfl⟩, er, rb.1]; rfl, by rw [xup_at, if_neg (by omega), h2, er, rb.2.1]⟩
      rw [if_pos (by rw [q6]; exact h6), kP183 hS, Option.bind_some]
      unfold f_X12_means_j141
      rw [xw_gR, kR183_5 hS, Option.bind_some, kA186 hS k403, Option.bind_some, g1, if_pos (by rw [q9]; exact h9), Option.bind_some, es, kA186 hS k403', Option.bind_some, g2, if_neg (by rw [q7]; omega)]
    · have er : rgN b m (k + 1) = rgN b m k ||| 2 := by rw [rgN, if_pos h9, if_neg (by omega)]
      refine ⟨xup J 183 25 1, ?_, fun a q x y => by rw [xup_at, if_neg (by omega)]; exact hF a q x y, fun a q x => by rw [xup_at, if_neg (by omega)], by rw [xup_at, if_neg (by omega), h1, er, rb.2.2.1], by rw [xup_at, if_pos ⟨rfl, rfl⟩, er, rb.2.2.2]; rfl⟩
      rw [if_neg (by rw [q6]; omega)]
      unfold f_X12_means_j141
      rw [xw_gR, kR183_5 hS, Option.bind_some, kA186 hS k403, Option.bind_some, if_pos (by rw [q9]; exact h9), Option.bind_some, es, kA186 hS k403', Option.bind_some, if_pos (by rw [q7]; exact h7), kP183 hS, Option.bind_some]
  · have er : rgN b m (k + 1) = rgN b m k := by rw [rgN, if_neg h9]
    refine ⟨J, ?_, hF, fun _ _ _ => rfl, by rw [er]; exact h1, by rw [er]; exact h2⟩
    rw [xw_gR, kR183_5 hS, Option.bind_some, kA186 hS k403, Option.bind_some, if_neg (by rw [q9]; exact h9)]
    unfold f_X12_means_j141
    rw [xw_gR, kR183_5 hS, Option.bind_some, kA186 hS k403, Option.bind_some, if_neg (by rw [q9]; exact h9), es]
theorem ring_l (hS : Shp τ) (hB : MB J0 b m T) : ∀ n k J, T + 1 - k ≤ n → k ≤ T + 1 → MF J0 J → J 183 24 = nI (rgN b m k % 2) → J 183 25 = nI (rgN b m k / 2) → ∃ J', (∀ z, xloop (f_X12_means_b178 183) ((4 : Int32), xw τ J') = some z → xloop (f_X12_means_b104 183) (nI k, xw τ J) = some z) ∧ MF J0 J' ∧ (∀ a q, ¬ (a = 183 ∧ (q = 24 ∨ q = 25)) → J' a q = J a q) ∧ J' 183 24 = nI (rgN b m T % 2) ∧ J' 183 25 = nI (rgN b m T / 2) := by
  have hT := hB.1
  have T400 := hT.2.1
  have v10 : ∀ J1, MF J0 J1 → J1 183 10 = nI (T + 1) := fun J1 h => by rw [h _ _ (by omega) (by omega)]; exact hB.2.2.1
  have er : rgN b m (T + 1) = rgN b m T := by rw [rgN, if_neg (by rw [hT.2.2]; omega)]
  have stop : ∀ J1, MF J0 J1 → J1 183 24 = nI (rgN b m (T + 1) % 2) → J1 183 25 = nI (rgN b m (T + 1) / 2) → ∃ J', (∀ z, xloop (f_X12_means_b178 183) ((4 : Int32), xw τ J') = some z → xloop (f_X12_means_b104 183) (nI (T + 1), xw τ J1) = some z) ∧ MF J0 J' ∧ (∀ a q, ¬ (a = 183 ∧ (q = 24 ∨ q = 25)) → J' a q = J1 a q) ∧ J' 183 24 = nI (rgN b m T % 2) ∧ J' 183 25 = nI (rgN b m T / 2) := fun J1 h h1 h2 => by
    refine ⟨J1, fun z hz => xloop_end ?_, h, fun _ _ _ => rfl, by rw [← er]; exact h1, by rw [← er]; exact h2⟩
    simp only [f_X12_means_b104]
    rw [kG183 hS, Option.bind_some, v10 J1 h, if_pos (by rw [nn_le (by omega) (by omega)]; exact Nat.le_refl _), hz]
    rfl
  intro n
  induction n with
  | zero =>
    intro k J hn kT hF h1 h2
    have : k = T + 1 := by omega
    subst this
    exact stop J hF h1 h2
  | succ n ih =>
    intro k J hn kT hF h1 h2
    by_cases z : k = T + 1
    · subst z
      exact stop J hF h1 h2
    · obtain ⟨J1, a1, a2, a3, a4, a5⟩ := ring_s (τ := τ) hS hB hF (show k ≤ T by omega) h1 h2
      obtain ⟨J', c1, c2, c3, c4⟩ := ih (k + 1) J1 (by omega) (by omega) a2 a4 a5
      exact ⟨J', fun z hz => by rw [← c1 z hz]; exact xloop_step a1, c2, fun a q h => by rw [c3 a q h]; exact a3 a q h, c4⟩
theorem fresh_l (hS : Shp τ) : ∀ z, xloop (f_X12_means_b104 183) ((0 : Int32), xw τ (fun a q => if a = 192 ∧ q < 66 then 0 else J a q)) = some z → xloop (f_X12_means_b83 183) ((0 : Int32), xw τ J) = some z := by
  intro z hz
  refine xforE (fun i : Nat => (nI i, xw τ (fun a q => if a = 192 ∧ q < i then 0 else J a q))) 66 ?_ (fun i hi => ?_) ?_
  · have : (fun a q => if a = 192 ∧ q < 0 then 0 else J a q) = J := by
      funext a q
      rw [if_neg (by omega)]
    simp only [this]
    rfl
  · have q1 : ((66 : Int32) ≤ nI i) = False := by rw [show (66 : Int32) = nI 66 from rfl, nn_le (by omega) (by omega)]; exact eq_false (by omega)
    have e : xup (fun a q => if a = 192 ∧ q < i then 0 else J a q) 192 i 0 = fun a q => if a = 192 ∧ q < i + 1 then 0 else J a q := by
      funext a q
      rw [xup_at]
      by_cases z : a = 192 ∧ q = i
      · rw [if_pos z, if_pos (by omega)]
      · rw [if_neg z]
        by_cases y : a = 192 ∧ q < i
        · rw [if_pos y, if_pos (by omega)]
        · rw [if_neg y, if_neg (by omega)]
    simp only [f_X12_means_b83]
    rw [if_neg (by rw [q1]; exact id), xw_gR, kR183_26 hS, Option.bind_some, kS192 hS hi, Option.bind_some, e, nI_succ]
  · simp only [f_X12_means_b83]
    rw [if_pos (by decide), hz]
    rfl
theorem in_14 (x : Nat) (hx : x < 10000) {n : Nat} (hn : n < 100) : f_X12_in (nI x) 1 (nI n) = some (if x < 1 ∨ n < x then 0 else 1) := by
  have q1 : (nI x < (1 : Int32)) = (x < 1) := nn_lt (b := 1) (by omega) (by decide)
  have q2 : (nI n < nI x) = (n < x) := nn_lt (by omega) (by omega)
  unfold f_X12_in
  simp only [q1, q2]
  by_cases z1 : x < 1
  · rw [if_pos z1, if_pos (.inl z1)]
  · rw [if_neg z1]
    by_cases z2 : n < x
    · rw [if_pos z2, if_pos (.inr z2)]
    · rw [if_neg z2, if_neg (by omega)]
theorem means_ok (hS : Shp τ) (hB : MB J0 b m T) (h14 : J0 183 14 = 0) : ∃ J', f_X12_means (xw τ J0) 183 = some (xw τ J') ∧ MF J0 J' ∧ J' 183 22 = nI (tNu b m 1) ∧ J' 183 23 = nI (tNu b m 2) ∧ J' 183 24 = nI (rgN b m T % 2) ∧ J' 183 25 = nI (rgN b m T / 2) ∧ ((fFT b m T = none ∧ J' 183 14 = 0 ∧ FR2 J' b m T T) ∨ ∃ x i, fFT b m T = some (x, i) ∧ J' 183 14 = nI x ∧ J' 183 15 = nI (tSt b m i)) := by
  have hT := hB.1
  have T400 := hT.2.1
  obtain ⟨T4, k0, k1, k2, k3, -⟩ := head_at hT
  obtain ⟨w, hw⟩ : ∃ w, w = tNu b m 1 := ⟨_, rfl⟩
  obtain ⟨l, hl⟩ : ∃ l, l = tNu b m 2 := ⟨_, rfl⟩
  obtain ⟨r, hr⟩ : ∃ r, r = rgN b m T := ⟨_, rfl⟩
  have w4 : w < 10000 := by rw [hw]; exact tNu_b k1
  have l4 : l < 10000 := by rw [hl]; exact tNu_b k2
  have v1 : J0 188 1 = nI w := by rw [hw]; exact (mK hB (fun _ _ _ _ => rfl) (show 1 ≤ T by omega)).2.2 k1
  have v2 : J0 188 2 = nI l := by rw [hl]; exact (mK hB (fun _ _ _ _ => rfl) (show 2 ≤ T by omega)).2.2 k2
  rw [← hw, ← hl, ← hr]
  obtain ⟨A, hA⟩ : ∃ A, A = xup (xup (xup (xup J0 183 22 (nI w)) 183 23 (nI l)) 183 24 0) 183 25 0 := ⟨_, rfl⟩
  have A22 : A 183 22 = nI w := by rw [hA, xup_at, if_neg (by omega), xup_at, if_neg (by omega), xup_at, if_neg (by omega), xup_at, if_pos ⟨rfl, rfl⟩]
  have A23 : A 183 23 = nI l := by rw [hA, xup_at, if_neg (by omega), xup_at, if_neg (by omega), xup_at, if_pos ⟨rfl, rfl⟩]
  have A24 : A 183 24 = 0 := by rw [hA, xup_at, if_neg (by omega), xup_at, if_pos ⟨rfl, rfl⟩]
  have A25 : A 183 25 = 0 := by rw [hA, xup_at, if_pos ⟨rfl, rfl⟩]
  have uA : ∀ a q, ¬ (a = 183 ∧ 22 ≤ q ∧ q ≤ 25) → A a q = J0 a q := fun a q h => by rw [hA, xup_at, if_neg (by omega), xup_at, if_neg (by omega), xup_at, if_neg (by omega), xup_at, if_neg (by omega)]
  have FA : MF J0 A := fun a q h1 h2 => uA a q (by omega)
  have WA : MW A b m (fun _ _ => False) := .inl ⟨by rw [uA _ _ (by omega)]; exact h14, fun _ _ => id⟩
  have i1 : f_X12_in (nI w) 1 4 = some (if w < 1 ∨ 4 < w then 0 else 1) := in_14 w w4 (n := 4) (by omega)
  have i2 : f_X12_in (nI l) 1 16 = some (if l < 1 ∨ 16 < l then 0 else 1) := in_14 l l4 (n := 16) (by omega)
  -- the width
  obtain ⟨B, b1, b2, b3, b4⟩ : ∃ B, (if (if w < 1 ∨ 4 < w then (0 : Int32) else 1) = 0 then ((xck (xw τ A) 183 12).bind fun _ => (f_X12_wrong (xw τ A) 183 (3 : Int32) (1 : Int32)).bind fun σ23 => f_X12_means_j48 σ23 183) else f_X12_means_j48 (xw τ A) 183) = f_X12_means_j48 (xw τ B) 183 ∧ MF J0 B ∧ MW B b m (fun c j => (w < 1 ∨ 4 < w) ∧ c = 3 ∧ j = 1) ∧ ∀ a q, ¬ (a = 183 ∧ (q = 14 ∨ q = 15)) → B a q = A a q := by
    by_cases z : w < 1 ∨ 4 < w
    · obtain ⟨B, c1, c2, c3⟩ := wrong_ok (τ := τ) hS hB FA WA (c := 3) (j := 1) (by omega) (by omega) (by omega)
      have c1 : f_X12_wrong (xw τ A) 183 (3 : Int32) (1 : Int32) = some (xw τ B) := c1
      refine ⟨B, ?_, fun a q h1 h2 => by rw [c3 a q (by omega)]; exact FA a q h1 h2, MW_c rfl rfl (fun c j => ⟨fun x => .inr x.2, fun x => x.elim (fun y => y.elim) (fun y => ⟨z, y⟩)⟩) c2, c3⟩
      rw [if_pos z, if_pos rfl, xw_ck, kC183 hS, Option.bind_some, c1, Option.bind_some]
    · refine ⟨A, ?_, FA, MW_c rfl rfl (fun c j => ⟨fun x => z x.1, fun x => x.elim⟩) WA, fun _ _ _ => rfl⟩
      rw [if_neg z, if_neg (by decide)]
  -- the length
  have wl : nI w * nI l = nI (w * l) := nn_mul ..
  have hwl : w * l < 100000000 := by
    by_cases z : w = 0
    · rw [z, Nat.zero_mul]; omega
    · have := Nat.mul_lt_mul'' w4 l4
      omega
  have q16 : (nI (w * l) ≤ (16 : Int32)) = (w * l ≤ 16) := nn_le (b := 16) (by omega) (by decide)
  have B22 : B 183 22 = nI w := by rw [b4 _ _ (by omega)]; exact A22
  have B23 : B 183 23 = nI l := by rw [b4 _ _ (by omega)]; exact A23
  obtain ⟨C, c1, c2, c3, c4⟩ : ∃ C, f_X12_means_j48 (xw τ B) 183 = xloop (f_X12_means_b83 183) ((0 : Int32), xw τ C) ∧ MF J0 C ∧ MW C b m (A0w w l) ∧ ∀ a q, ¬ (a = 183 ∧ (q = 14 ∨ q = 15)) → C a q = A a q := by
    have st : f_X12_means_j48 (xw τ B) 183 = if (if l < 1 ∨ 16 < l then (0 : Int32) else 1) = 0 then f_X12_means_j75 (xw τ B) 183 else if w * l ≤ 16 then xloop (f_X12_means_b83 183) ((0 : Int32), xw τ B) else f_X12_means_j75 (xw τ B) 183 := by
      unfold f_X12_means_j48
      simp only [kG183 hS, Option.bind_some, B22, B23, i2, wl, q16]
    rw [st]
    have bad : (l < 1 ∨ 16 < l ∨ 16 < w * l) → ∃ C, f_X12_means_j75 (xw τ B) 183 = xloop (f_X12_means_b83 183) ((0 : Int32), xw τ C) ∧ MF J0 C ∧ MW C b m (A0w w l) ∧ ∀ a q, ¬ (a = 183 ∧ (q = 14 ∨ q = 15)) → C a q = A a q := fun z => by
      obtain ⟨C, d1, d2, d3⟩ := wrong_ok (τ := τ) hS hB b2 b3 (c := 3) (j := 2) (by omega) (by omega) (by omega)
      have d1 : f_X12_wrong (xw τ B) 183 (3 : Int32) (2 : Int32) = some (xw τ C) := d1
      refine ⟨C, ?_, fun a q h1 h2 => by rw [d3 a q (by omega)]; exact b2 a q h1 h2, MW_c rfl rfl (fun c j => ⟨fun x => x.elim .inl (fun y => .inr y.2), fun x => x.elim .inl (fun y => .inr ⟨z, y⟩)⟩) d2, fun a q h => by rw [d3 a q h]; exact b4 a q h⟩
      unfold f_X12_means_j75
      rw [xw_ck, kC183 hS, Option.bind_some, d1, Option.bind_some]
    by_cases z : l < 1 ∨ 16 < l
    · rw [if_pos z, if_pos rfl]
      exact bad (by omega)
    · rw [if_neg z, if_neg (by decide)]
      by_cases y : w * l ≤ 16
      · rw [if_pos y]
        exact ⟨B, rfl, b2, MW_c rfl rfl (fun c j => ⟨fun x => x.elim id (fun u => by omega), .inl⟩) b3, b4⟩
      · rw [if_neg y]
        exact bad (by omega)
  -- the loops
  obtain ⟨D, hD⟩ : ∃ D : Nat → Nat → Int32, D = fun a q => if a = 192 ∧ q < 66 then 0 else C a q := ⟨_, rfl⟩
  have uD : ∀ a q, a ≠ 192 → D a q = C a q := fun a q h => by rw [hD]; exact if_neg (by omega)
  have FD : MF J0 D := fun a q h1 h2 => by rw [uD a q h1]; exact c2 a q h1 h2
  have D24 : D 183 24 = nI (rgN b m 0 % 2) := by rw [uD _ _ (by omega), c4 _ _ (by omega), A24]; rfl
  have D25 : D 183 25 = nI (rgN b m 0 / 2) := by rw [uD _ _ (by omega), c4 _ _ (by omega), A25, show rgN b m 0 = 0 from rfl, show 0 / 2 = 0 from rfl]; rfl
  obtain ⟨E, e1, e2, e3, e4, e5⟩ := ring_l (τ := τ) hS hB (T + 1) 0 D (by omega) (by omega) FD D24 D25
  rw [← hr] at e4 e5
  have E22 : E 183 22 = nI w := by rw [e3 _ _ (by omega), uD _ _ (by omega), c4 _ _ (by omega)]; exact A22
  have E23 : E 183 23 = nI l := by rw [e3 _ _ (by omega), uD _ _ (by omega), c4 _ _ (by omega)]; exact A23
  have z0 : ∀ q, q < 66 → E 192 q = 0 := fun q hq => by rw [e3 _ _ (by omega), hD]; exact if_pos ⟨rfl, hq⟩
  have hno : ∀ k, k < 4 → lsB b m k = false := fun k hk => by unfold lsB; rw [decide_eq_false (by omega), Bool.false_and]
  have WE : MW E b m (WW3 b m w l (btB b m w l (r % 2) (r / 2)) 4 4) := by
    refine MW_c (by rw [e3 _ _ (by omega), uD _ _ (by omega)]) (by rw [e3 _ _ (by omega), uD _ _ (by omega)]) (fun c j => ⟨fun x => ?_, .inl⟩) c3
    rcases x with x | ⟨k, x1, x2, -⟩ | ⟨k, x1, x2, -⟩
    · exact x
    · rw [hno k x1] at x2; cases x2
    · rw [hno k x1] at x2; cases x2
  have RE : FR1 E b m 4 := by
    unfold FR1 aLL sDD
    simp only [foldL_4 _ _ 4 (Nat.le_refl 4)]
    exact ⟨fun i hi => ⟨z0 _ (by omega), z0 _ (by omega), z0 _ (by omega), z0 _ (by omega)⟩, z0 _ (by omega), z0 _ (by omega)⟩
  obtain ⟨G, g1, g2, g3, g4, g5, g6, g7, g8⟩ := all_l (τ := τ) hS hB w4 l4 (T + 1) 4 E (by omega) (by omega) (by omega) e2 WE E22 E23 e4 e5 RE
  have g1 : xloop (f_X12_means_b178 183) ((4 : Int32), xw τ E) = some (xw τ G) := g1
  refine ⟨G, ?_, g2, g4, g5, g6, g7, ?_⟩
  · have h1 := e1 _ g1
    have h1 : xloop (f_X12_means_b104 183) ((0 : Int32), xw τ D) = some (xw τ G) := h1
    rw [hD] at h1
    have h2 := fresh_l hS _ h1
    rw [← c1, ← b1] at h2
    rw [← h2]
    have s1 : xup J0 183 22 (nI w) 188 2 = nI l := by rw [xup_at, if_neg (by omega)]; exact v2
    unfold f_X12_means
    rw [xw_gR, kR183_7 hS, Option.bind_some, show (1 : Int32) = nI 1 from rfl, kA188 hS (by omega), Option.bind_some, v1, kP183 hS, Option.bind_some, xw_gR, kR183_7 hS, Option.bind_some, show (2 : Int32) = nI 2 from rfl, kA188 hS (by omega), Option.bind_some, s1, kP183 hS, Option.bind_some, kP183 hS, Option.bind_some, kP183 hS, Option.bind_some, ← hA, kG183 hS, Option.bind_some, A22]
    have i1 : f_X12_in (nI w) (nI 1) 4 = some (if w < 1 ∨ 4 < w then 0 else 1) := i1
    rw [i1, Option.bind_some]
    rfl
  · have hft : fFT b m T = fFF b m w l r T := by unfold fFT; rw [hw, hl, hr]
    have hβ : szF w l = none → btB b m w l (r % 2) (r / 2) = badS b m w l r := fun hz => by
      have hg : ((w, l, r) : GD) ∈ gAll := by rw [hw, hl, hr]; exact sz_in (by rw [← hw, ← hl]; exact hz)
      funext k
      exact btB_ok hg rfl rfl k
    -- every wrong token lies in a line
    have cl : ∀ c j, WW3 b m w l (btB b m w l (r % 2) (r / 2)) (T + 1) (T + 1) c j → A0w w l c j ∨ ∃ k, k < T ∧ lsB b m k = true ∧ clL b m (btB b m w l (r % 2) (r / 2)) k c j := fun c j x => by
      rcases x with x | ⟨k, x1, x2, x3⟩ | ⟨k, x1, x2, -, x3⟩
      · exact .inl x
      · refine .inr ⟨k, ?_, x2, .inl x3⟩
        rcases Nat.lt_or_ge k T with y | y
        · exact y
        · have : k = T := by omega
          have := x3.1
          rw [‹k = T›, hT.2.2] at this; omega
      · refine .inr ⟨k, ?_, x2, x3⟩
        rcases Nat.lt_or_ge k T with y | y
        · exact y
        · have kT : k = T := by omega
          have := hT.2.2
          unfold clL at x3
          rw [kT] at x3; omega
    have lc : ∀ k c j, k < T → lsB b m k = true → clL b m (btB b m w l (r % 2) (r / 2)) k c j → WW3 b m w l (btB b m w l (r % 2) (r / 2)) (T + 1) (T + 1) c j := fun k c j x1 x2 x3 => by
      by_cases y : tKd b m k = 6 ∨ tKd b m k = 7 ∨ tKd b m k = 8
      · refine .inr (.inl ⟨k, by omega, x2, ?_⟩)
        rcases x3 with x | ⟨x, -⟩ | ⟨x, -⟩ | ⟨x, -⟩
        · exact x
        · omega
        · omega
        · omega
      · exact .inr (.inr ⟨k, by omega, x2, y, x3⟩)
    have sz0 : szF w l = none → ∀ c j, ¬ A0w w l c j := fun hz c j x => by
      unfold szF at hz
      split at hz
      · cases hz
      · split at hz
        · cases hz
        · unfold A0w at x; omega
    rw [hft]
    cases hf : fFF b m w l r T with
    | none =>
      have n1 := fF_none T hf
      have g14 : G 183 14 = 0 := MW_e g3 (fun c j x => by
        rcases cl c j x with y | ⟨k, y1, y2, y3⟩
        · exact sz0 n1.1 c j y
        · rw [hβ n1.1] at y3
          exact lin_cl (n1.2 k y1 y2) y3)
      refine .inl ⟨rfl, g14, ?_⟩
      have fr := g8 g14
      have e1 : ∀ t, tII b m t (T + 1) = tII b m t T := fun t => fold_T (fun a => by rw [hT.2.2, if_neg (by omega)])
      have e2 : ∀ t, pUU b m t (T + 1) = pUU b m t T := fun t => fold_T (fun a => by rw [hT.2.2, if_neg (by omega)])
      have e3 : ∀ t, pII b m t (T + 1) = pII b m t T := fun t => fold_T (fun a => by rw [hT.2.2, if_neg (by omega)])
      unfold FR2 at fr ⊢
      simp only [e1, e2, e3] at fr
      exact fr
    | some x =>
      obtain ⟨x, i⟩ := x
      refine .inr ⟨x, i, rfl, ?_⟩
      have hin := ff_in hT hf
      -- it is among them
      have mem : WW3 b m w l (btB b m w l (r % 2) (r / 2)) (T + 1) (T + 1) x i := by
        cases hz : szF w l with
        | none =>
          obtain ⟨k, y1, y2, y3⟩ := ff_reach hT hf hz
          exact lc k x i y1 y2 (by rw [hβ hz]; exact y3)
        | some u =>
          rcases fF_some T hf with z | ⟨z, -⟩
          · refine .inl ?_
            unfold szF at z
            unfold A0w
            split at z
            · next q => cases z; exact .inl ⟨q, rfl, rfl⟩
            · split at z
              · next q => cases z; exact .inr ⟨q, rfl, rfl⟩
              · cases z
          · rw [hz] at z; cases z
      have first : ∀ c j, WW3 b m w l (btB b m w l (r % 2) (r / 2)) (T + 1) (T + 1) c j → (i < j ∨ (i = j ∧ c = x)) := fun c j y => by
        rcases cl c j y with y | ⟨k, y1, y2, y3⟩
        · rcases fF_some T hf with z | ⟨z, -⟩
          · unfold szF at z
            unfold A0w at y
            split at z
            · cases z; omega
            · split at z
              · cases z; omega
              · cases z
          · exact absurd y (sz0 z c j)
        · exact ff_first hT hf hβ y1 y2 y3
      rcases g3 with ⟨w1, w2⟩ | ⟨c, j, w1, w2, w3, w4, w5, w6⟩
      · exact absurd mem (w2 _ _)
      · have m1 := w6 x i mem
        rcases first c j w1 with y | ⟨y1, y2⟩
        · exfalso
          have hj : j ≤ T := by
            rcases cl c j w1 with u | ⟨k, u1, u2, u3⟩
            · unfold A0w at u; omega
            · have hws := (ls_ws hT (lsB_4 u2) (by omega)).mp u2
              have la := line_at hT hws u1
              have jb1 := jn_b (b := b) (m := m) (k + 1)
              have jb2 := jn_b (b := b) (m := m) (k + 2)
              have jb3 := jn_b (b := b) (m := m) (k + 3)
              have le := la.2.2.2.1
              unfold clL at u3
              unfold lnE at le
              rcases u3 with ⟨a1, -, -, a4⟩ | ⟨a1, -, -, a4⟩ | ⟨a1, -, -, a4⟩ | ⟨a1, -, -, a4⟩
              · rw [if_neg (by omega), if_neg (by omega), if_neg (by omega), if_neg (by omega)] at le; omega
              · omega
              · rw [if_neg (by omega), if_pos a1] at le; omega
              · rw [if_neg (by omega), if_neg (by omega), if_pos a1] at le; omega
          have := tSt_mono (b := b) (m := m) y (fun k a1 a2 => by
            obtain ⟨v, -, v2, -⟩ := ws_pre T 4 hT.1 k (by omega)
            exact v2)
          omega
        · rw [y1, ← y2]
          exact ⟨w4, w5⟩
end MEANS
