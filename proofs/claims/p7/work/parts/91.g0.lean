/-! the class builds a draft -/
section BLD
variable {σ : XS} {J : Nat → Nat → Int32} {m : Nat}
/-- the draft of a text that is right -/
def DE (J : Nat → Nat → Int32) (b : Nat → Int32) (m T : Nat) : Prop := J 2 2 = 0 ∧ J 2 3 = -1 ∧ J 2 5 = nI (tNu b m 1) ∧ J 2 6 = nI (tNu b m 2) ∧ J 2 7 = nI (rgN b m T) ∧ (∀ t, t < 32 → J 9 t = bdT b m T (tNu b m 1) (tNu b m 2) (rgN b m T) t) ∧ (∀ i, i < 16 → J 10 i = fdT b m T (tNu b m 1) (tNu b m 2) i) ∧ (∃ p u, J 8 2 = nI p ∧ J 8 3 = nI u ∧ (∀ i, p.testBit i = (decide (i < 16) && decide (pII b m i T ≠ 0))) ∧ ∀ i, u.testBit i = (decide (i < 16) && decide (pII b m i T = 1))) ∧ J 8 4 = 0 ∧ J 8 5 = nI (sDD b m T)
def fFT (b : Nat → Int32) (m T : Nat) : Option (Nat × Nat) := fFF b m (tNu b m 1) (tNu b m 2) (rgN b m T) T
theorem sz_in {b : Nat → Int32} {T : Nat} (h : szF (tNu b m 1) (tNu b m 2) = none) : ((tNu b m 1, tNu b m 2, rgN b m T) : GD) ∈ gAll := by
  unfold szF at h
  split at h
  · cases h
  · split at h
    · cases h
    · exact gAll_in (by omega) (by omega) (by omega) (by omega) (by omega) (rgN_b b m T)
theorem build_ok (hS : Shp σ) (hm : m ≤ 2000) (h4 : J 3 4 = nI m) : ∃ J', f_X1_build (xw σ J) 2 = some (xw σ J') ∧ (∀ a q, ¬ (a = 2 ∨ (5 ≤ a ∧ a ≤ 10)) → ¬ (a = 3 ∧ 5 ≤ q ∧ q ≤ 9) → J' a q = J a q) ∧ ((∃ n r pl, cutR (J 4) m n r pl ∧ 0 < r ∧ r < 3 ∧ J' 2 2 = nI r ∧ J' 2 3 = nI pl) ∨ ∃ T, cutR (J 4) m T 0 0 ∧ ((∃ x j, fFT (J 4) m T = some (x, j) ∧ J' 2 2 = nI x ∧ J' 2 3 = nI (tSt (J 4) m j)) ∨ (fFT (J 4) m T = none ∧ DE J' (J 4) m T))) := by
  obtain ⟨A, a0, a1, a2, a3, a4, a5, a6, a7, a8, a9, a10, a11, a12, a13, a14, a15, uA⟩ := begin_ok (σ := σ) (J := J) hS
  have A4 : A 3 4 = nI m := by rw [uA _ _ (by omega)]; exact h4
  have A3 : A 4 = J 4 := by funext k; exact uA 4 k (by omega)
  obtain ⟨r, n, pl, B, b0, b1, b2, b3, uB⟩ := cut_ok (σ := σ) (J := A) hS hm A4
  rw [A3] at b1 b2
  obtain ⟨bb, hbb⟩ : ∃ bb, bb = J 4 := ⟨_, rfl⟩
  rw [← hbb] at b1 b2 ⊢
  have r3 : r < 3 := by
    obtain ⟨w, -, h⟩ := b1
    rcases h with ⟨h, -⟩ | ⟨h, -⟩ | ⟨h, -⟩ <;> omega
  have st : ∀ z, (if nI r = 0 then ((xck (xw σ B) 2 1).bind fun _ => (f_X1_takeSize (xw σ B) 2).bind fun σ12 => (xck σ12 2 1).bind fun _ => (f_X1_seeRings σ12 2).bind fun σ15 => xloop (f_X1_build_b39 2) ((0 : Int32), σ15)) else (xgR (xw σ B) 2 1 0).bind fun z11 => (xgI (xw σ B) z11 8 8).bind fun v13 => (xck (xw σ B) 2 1).bind fun _ => (f_X1_blame (xw σ B) 2 (nI r) v13).bind fun σ16 => some σ16) = z → f_X1_build (xw σ J) 2 = z := by
    intro z hz
    rw [← hz]
    unfold f_X1_build
    rw [xw_ck, kC2 hS, Option.bind_some, a0, Option.bind_some, xw_gR, kR2_0 hS, Option.bind_some, xw_ck, kC3 hS, Option.bind_some, b0, Option.bind_some]
  by_cases hr : r = 0
  · subst hr
    obtain ⟨c1, c2⟩ := b2 rfl
    have pl0 : pl = 0 := by
      obtain ⟨w, -, h⟩ := b1
      rcases h with ⟨-, h, -⟩ | ⟨h, -⟩ | ⟨h, -⟩
      · exact h
      · cases h
      · cases h
    subst pl0
    have hT := OKT_of b1
    have hC : CT B bb m n := ⟨hT, c1, c2⟩
    have vB : ∀ a q, (a = 2 ∨ 8 ≤ a) → a ≤ 10 → B a q = A a q := fun a q h1 h2 => uB a q (by omega)
    obtain ⟨C, d0, d1, d2, d3, d4, d5, uC⟩ := takeSize_ok (σ := σ) (J := B) hS hC (by rw [vB _ _ (by omega) (by omega)]; exact a3) (by rw [vB _ _ (by omega) (by omega)]; exact a1)
    have hCC : CT C bb m n := CT_c (fun a q h1 _ _ _ => uC a q (by omega)) hC
    obtain ⟨D, e0, e1, uD⟩ := rings_ok (σ := σ) (J := C) hS hCC d1 (by rw [uC _ _ (by omega), vB _ _ (by omega) (by omega)]; exact a4)
    have head := head_at hT
    obtain ⟨w, hw⟩ : ∃ w, w = tNu bb m 1 := ⟨_, rfl⟩
    obtain ⟨l, hl⟩ : ∃ l, l = tNu bb m 2 := ⟨_, rfl⟩
    obtain ⟨rr, hrr⟩ : ∃ rr, rr = rgN bb m n := ⟨_, rfl⟩
    rw [← hw, ← hl] at d4 d5
    have hft : fFT bb m n = fFF bb m w l rr n := by unfold fFT; rw [hw, hl, hrr]
    have f4 : fFF bb m w l rr 4 = szF w l := foldL_4 _ _ 4 (Nat.le_refl _)
    have run : ∀ J1 J2, (∀ z, f_X1_build_j77 (xw σ J1) 2 = some z → xloop (f_X1_build_b39 2) ((0 : Int32), xw σ D) = some z) → f_X1_build_j77 (xw σ J1) 2 = some (xw σ J2) → f_X1_build (xw σ J) 2 = some (xw σ J2) := by
      intro J1 J2 h1 h2
      refine st _ ?_
      rw [if_pos (show nI 0 = 0 from rfl), xw_ck, kC2 hS, Option.bind_some, d0, Option.bind_some, xw_ck, kC2 hS, Option.bind_some, e0, Option.bind_some]
      exact h1 _ h2
    have uDB : ∀ a q, a ≠ 2 → D a q = B a q := fun a q h => by rw [uD a q (by omega), uC a q (by omega)]
    cases hz : szF w l with
    | some x =>
      have g := d5 x.1 x.2 hz
      have hf : fFT bb m n = some (x.1, x.2) := by rw [hft]; exact fF_stay (by rw [f4]; exact hz) n head.1
      have D2 : D 2 2 = nI x.1 := by rw [uD _ _ (by omega)]; exact g.1
      have x3 := szF_in (w := w) (l := l) (c := x.1) (j := x.2) hz
      have nz : D 2 2 ≠ 0 := by rw [D2, x3.1]; decide
      refine ⟨D, run D D (fun z hz => xloop_end ?_) (untold_f hS nz), fun a q h1 h2 => ?_, .inr ⟨n, b1, .inl ⟨x.1, x.2, hf, D2, by rw [uD _ _ (by omega)]; exact g.2⟩⟩⟩
      · simp only [f_X1_build_b39]
        rw [if_neg (by decide), kG2 hS, Option.bind_some, if_neg nz, hz]
        rfl
      · rw [uDB a q (by omega), uB a q (by omega)]; exact uA a q (by omega)
    | none =>
      have g := d4 hz
      have hgA : ((w, l, rr) : GD) ∈ gAll := by rw [hw, hl, hrr]; exact sz_in (by rw [← hw, ← hl]; exact hz)
      have z4 : ∀ {α : Type} (x0 : α) (f : Nat → α → α), foldL bb m x0 f 4 = x0 := fun x0 f => foldL_4 x0 f 4 (Nat.le_refl _)
      have dr : DR B D bb m w l rr 4 := by
        refine ⟨fun a q h => uDB a q (by omega), ?_, ?_, ?_, ⟨?_, ?_, ?_⟩, ⟨?_, ?_, ?_⟩, fun t ht => ⟨?_, ?_⟩, fun i hi => ⟨?_, ?_⟩, ⟨0, 0, ?_, ?_, fun i => ?_, fun i => ?_⟩, ?_, ?_⟩
        · rw [uD _ _ (by omega), g.1, vB _ _ (by omega) (by omega)]; exact a1
        · rw [uD _ _ (by omega), g.2, vB _ _ (by omega) (by omega)]; exact a2
        · rw [uD _ _ (by omega)]; exact d1
        · rw [uD _ _ (by omega), hw]; exact d2
        · rw [uD _ _ (by omega), hl]; exact d3
        · rw [hrr]; exact e1
        · unfold aLL; rw [z4, uD _ _ (by omega), uC _ _ (by omega), vB _ _ (by omega) (by omega)]; exact a5
        · unfold aLL; rw [z4, uD _ _ (by omega), uC _ _ (by omega), vB _ _ (by omega) (by omega)]; exact a6
        · unfold aLL; rw [z4, uD _ _ (by omega), uC _ _ (by omega), vB _ _ (by omega) (by omega)]; exact a7
        · unfold tII; rw [z4, uD _ _ (by omega), uC _ _ (by omega), vB _ _ (by omega) (by omega), a8]; exact b_0 t
        · unfold tII; rw [z4, uDB _ _ (by omega), vB _ _ (by omega) (by omega)]; exact a10 t ht
        · unfold pUU; rw [z4, uD _ _ (by omega), uC _ _ (by omega), vB _ _ (by omega) (by omega), a9]; exact b_0 i
        · unfold pUU; rw [z4, uDB _ _ (by omega), vB _ _ (by omega) (by omega)]; exact a11 i hi
        · rw [uDB _ _ (by omega), vB _ _ (by omega) (by omega)]; exact a12
        · rw [uDB _ _ (by omega), vB _ _ (by omega) (by omega)]; exact a13
        · unfold pII; rw [z4, Nat.zero_testBit]; simp
        · unfold pII; rw [z4, Nat.zero_testBit]; simp
        · rw [uDB _ _ (by omega), vB _ _ (by omega) (by omega)]; exact a14
        · unfold sDD; rw [z4, uDB _ _ (by omega), vB _ _ (by omega) (by omega)]; exact a15
      obtain ⟨J1, p1, p2, p3⟩ := build_l (σ := σ) hS hC hgA (n - 4) 4 0 D (by omega) (by omega) (by omega) head.1 head.2.2.2.2.2 dr (by rw [f4]; exact hz)
      have p3 : ∀ z, f_X1_build_j77 (xw σ J1) 2 = some z → xloop (f_X1_build_b39 2) ((0 : Int32), xw σ D) = some z := p3
      have fr : ∀ J1, DRb B J1 → ∀ a q, ¬ (a = 2 ∨ (5 ≤ a ∧ a ≤ 10)) → ¬ (a = 3 ∧ 5 ≤ q ∧ q ≤ 9) → J1 a q = J a q := fun J1 h a q h1 h2 => by rw [h a q (by omega), uB a q (by omega)]; exact uA a q (by omega)
      cases hf : fFF bb m w l rr n with
      | some x =>
        have df := p2 x.1 x.2 hf
        have xs := ff_in hT (c := x.1) (i := x.2) hf
        have nz : J1 2 2 ≠ 0 := by rw [df.2.1]; exact nI_ne0 (by omega) (by omega)
        exact ⟨J1, run J1 J1 p3 (untold_f hS nz), fr J1 df.1, .inr ⟨n, b1, .inl ⟨x.1, x.2, by rw [hft]; exact hf, df.2.1, df.2.2⟩⟩⟩
      | none =>
        have dt := p1 hf
        obtain ⟨J2, q1, q2, q3, q4⟩ := untold_ok (σ := σ) hS hgA dt hf
        obtain ⟨e1, e2, e3, e4, e5, e6, e7, e8, e9, e10, e11⟩ := id dt
        refine ⟨J2, run J1 J2 p3 q1, fr J2 (fun a q h => by rw [q4 a q (by omega) (by omega)]; exact e1 a q h), .inr ⟨n, b1, .inr ⟨by rw [hft]; exact hf, ?_⟩⟩⟩
        refine ⟨by rw [q4 _ _ (by omega) (by omega)]; exact e2, by rw [q4 _ _ (by omega) (by omega)]; exact e3, by rw [q4 _ _ (by omega) (by omega), ← hw]; exact e5.1, by rw [q4 _ _ (by omega) (by omega), ← hl]; exact e5.2.1, by rw [q4 _ _ (by omega) (by omega), ← hrr]; exact e5.2.2, fun t ht => by rw [← hw, ← hl, ← hrr]; exact q2 t ht, fun i hi => by rw [← hw, ← hl]; exact q3 i hi, ?_, by rw [q4 _ _ (by omega) (by omega)]; exact e10, by rw [q4 _ _ (by omega) (by omega)]; exact e11⟩
        obtain ⟨p, u, y1, y2, y3, y4⟩ := e9
        exact ⟨p, u, by rw [q4 _ _ (by omega) (by omega)]; exact y1, by rw [q4 _ _ (by omega) (by omega)]; exact y2, y3, y4⟩
  · have B2 : B 2 2 = 0 := by rw [uB _ _ (by omega)]; exact a1
    have B8 := b3 hr
    refine ⟨xup (xup B 2 2 (nI r)) 2 3 (nI pl), st _ ?_, fun a q h1 h2 => ?_, .inl ⟨n, r, pl, b1, by omega, r3, by rw [xup_at, if_neg (by omega), xup_at, if_pos ⟨rfl, rfl⟩], by rw [xup_at, if_pos ⟨rfl, rfl⟩]⟩⟩
    · rw [if_neg (nI_ne0 (by omega) (by omega)), xw_gR, kR2_0 hS, Option.bind_some, kG3 hS, Option.bind_some, B8, xw_ck, kC2 hS, Option.bind_some, blame_0 hS B2, Option.bind_some]
    · rw [xup_at, if_neg (by omega), xup_at, if_neg (by omega), uB a q (by omega)]; exact uA a q (by omega)
end BLD
