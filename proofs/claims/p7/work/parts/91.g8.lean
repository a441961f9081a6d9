/-! read -/
theorem RBD_one {b : Nat → Int32} {m r r' : Nat} {p p' : Int32} (h : RBD b m r p) (h' : RBD b m r' p') : r = r' ∧ p = p' := by
  rcases h with ⟨n, pl, h1, h2, h3, h4⟩ | ⟨T, j, h1, h2, h3⟩
  · rcases h' with ⟨n', pl', k1, k2, k3, k4⟩ | ⟨T', j', k1, k2, k3⟩
    · obtain ⟨z1, z2, z3⟩ := cutR_one h1 k1
      exact ⟨z2, by rw [h4, k4, z3]⟩
    · obtain ⟨z1, z2, z3⟩ := cutR_one h1 k1
      omega
  · rcases h' with ⟨n', pl', k1, k2, k3, k4⟩ | ⟨T', j', k1, k2, k3⟩
    · obtain ⟨z1, z2, z3⟩ := cutR_one h1 k1
      omega
    · obtain ⟨z1, -, -⟩ := cutR_one h1 k1
      subst z1
      rw [h2] at k2
      cases k2
      exact ⟨rfl, by rw [h3, k3]⟩
theorem RBD_no {b : Nat → Int32} {m r T : Nat} {p : Int32} (h : RBD b m r p) (h1 : cutR b m T 0 0) (h2 : fFT b m T = none) : False := by
  rcases h with ⟨n, pl, k1, k2, k3, k4⟩ | ⟨T', j, k1, k2, k3⟩
  · obtain ⟨z1, z2, z3⟩ := cutR_one h1 k1
    omega
  · obtain ⟨z1, -, -⟩ := cutR_one h1 k1
    subst z1
    rw [h2] at k2
    cases k2
theorem RBD_b {b : Nat → Int32} {m r : Nat} {p : Int32} (h : RBD b m r p) : 0 < r ∧ r < 5 := by
  rcases h with ⟨n, pl, k1, k2, k3, k4⟩ | ⟨T', j, k1, k2, k3⟩
  · omega
  · unfold fFT at k2
    have := ff_in (OKT_of k1) k2
    omega
section RC
variable {σ : XS} {J : Nat → Nat → Int32} {m st : Nat}
def RGC (J' : Nat → Nat → Int32) (b : Nat → Int32) (m T st : Nat) (g : GD) : Prop := J' 1 14 = -1 ∧ (J' 11 4 = nI g.1 ∧ J' 11 5 = nI g.2.1 ∧ J' 11 6 = nI g.2.2 ∧ J' 11 7 = nI (gSz g) ∧ GM J' g 32) ∧ (∀ t, t < 32 → J' 17 t = bdT b m T g.1 g.2.1 g.2.2 t) ∧ (∀ i, i < 16 → J' 18 i = fdT b m T g.1 g.2.1 i) ∧ (∃ p u, J' 16 2 = nI p ∧ J' 16 3 = nI u ∧ J' 16 4 = nI u ∧ (∀ i, p.testBit i = (decide (i < 16) && decide (pII b m i T ≠ 0))) ∧ ∀ i, u.testBit i = (decide (i < 16) && decide (pII b m i T = 1))) ∧ J' 16 5 = nI (sDD b m T) ∧ J' 16 6 = nI (st + 1) ∧ J' 16 7 = nI (st + 1) ∧ J' 1 15 = nI (st + 1) ∧ J' 19 1 = 0 ∧ J' 19 2 = 0 ∧ ∀ i, i < 3 → J' (142 + 5 * i) 2 = 0
theorem read11_ok (hS : Shp σ) (hm : m ≤ 2000) (h4 : J 3 4 = nI m) (hst : J 1 15 = nI st) : ∃ (r : Nat) (J' : Nat → Nat → Int32), f_X11_read (xw σ J) 1 = some (nI r, xw σ J') ∧ J' 3 4 = 0 ∧ ((RBD (J 4) m r (J' 1 14) ∧ ∀ a q, ¬ (a = 2 ∨ (5 ≤ a ∧ a ≤ 10)) → ¬ (a = 3 ∧ 4 ≤ q ∧ q ≤ 9) → ¬ (a = 1 ∧ q = 14) → J' a q = J a q) ∨ ∃ T, cutR (J 4) m T 0 0 ∧ fFT (J 4) m T = none ∧ r = 0 ∧ RGC J' (J 4) m T st (tNu (J 4) m 1, tNu (J 4) m 2, rgN (J 4) m T) ∧ ∀ a q, ¬ (a = 2 ∨ (5 ≤ a ∧ a ≤ 19)) → ¬ (a = 3 ∧ 4 ≤ q ∧ q ≤ 9) → ¬ (a = 1 ∧ (q = 14 ∨ q = 15)) → ¬ ((a = 142 ∨ a = 147 ∨ a = 152) ∧ q = 2) → J' a q = J a q) := by
  obtain ⟨A, e1, uA, hc⟩ := build_ok (σ := σ) hS hm h4
  obtain ⟨B, hB⟩ : ∃ B, B = xup (xup A 3 4 0) 1 14 (A 2 3) := ⟨_, rfl⟩
  have uB : ∀ a q, ¬ (a = 3 ∧ q = 4) → ¬ (a = 1 ∧ q = 14) → B a q = A a q := fun a q h1 h2 => by rw [hB, xup_at, if_neg h2, xup_at, if_neg h1]
  have B14 : B 1 14 = A 2 3 := by rw [hB, xup_at, if_pos ⟨rfl, rfl⟩]
  have B24 : B 3 4 = 0 := by rw [hB, xup_at, if_neg (by omega), xup_at, if_pos ⟨rfl, rfl⟩]
  have k73 : xup A 3 4 0 2 3 = A 2 3 := by rw [xup_at, if_neg (by omega)]
  have run : ∀ z, (if B 2 2 = 0 then ((xck (xw σ B) 1 11).bind fun _ => (f_X11_beginAnew (xw σ B) 1).bind fun σ22 => (xgR σ22 1 11 1).bind fun z24 => (xgI σ22 z24 1 2).bind fun v26 => some (v26, σ22)) else (some 2).bind fun z21 => (xgI (xw σ B) z21 1 2).bind fun v23 => some (v23, xw σ B)) = z → f_X11_read (xw σ J) 1 = z := fun z hz => by
    unfold f_X11_read
    rw [xw_gR, kR1_1 hS, Option.bind_some, xw_ck, kC2 hS, Option.bind_some, e1, Option.bind_some, xw_gR, kR1_0 hS, Option.bind_some, kP3 hS, Option.bind_some, xw_gR, kR1_1 hS, Option.bind_some, kG2 hS, Option.bind_some, k73, kP1 hS, Option.bind_some, ← hB, xw_gR, kR1_1 hS, Option.bind_some, kG2 hS, Option.bind_some]
    exact hz
  have bad : ∀ (r : Nat) (p : Int32), 0 < r → r < 5 → RBD (J 4) m r p → A 2 2 = nI r → A 2 3 = p → ∃ (r : Nat) (J' : Nat → Nat → Int32), f_X11_read (xw σ J) 1 = some (nI r, xw σ J') ∧ J' 3 4 = 0 ∧ ((RBD (J 4) m r (J' 1 14) ∧ ∀ a q, ¬ (a = 2 ∨ (5 ≤ a ∧ a ≤ 10)) → ¬ (a = 3 ∧ 4 ≤ q ∧ q ≤ 9) → ¬ (a = 1 ∧ q = 14) → J' a q = J a q) ∨ ∃ T, cutR (J 4) m T 0 0 ∧ fFT (J 4) m T = none ∧ r = 0 ∧ RGC J' (J 4) m T st (tNu (J 4) m 1, tNu (J 4) m 2, rgN (J 4) m T) ∧ ∀ a q, ¬ (a = 2 ∨ (5 ≤ a ∧ a ≤ 19)) → ¬ (a = 3 ∧ 4 ≤ q ∧ q ≤ 9) → ¬ (a = 1 ∧ (q = 14 ∨ q = 15)) → ¬ ((a = 142 ∨ a = 147 ∨ a = 152) ∧ q = 2) → J' a q = J a q) := fun r p r0 r5 hr a2 a3 => by
    have B2 : B 2 2 = nI r := by rw [uB _ _ (by omega) (by omega)]; exact a2
    refine ⟨r, B, run _ ?_, B24, .inl ⟨by rw [B14, a3]; exact hr, fun a q h1 h2 h3 => by rw [uB a q (by omega) h3]; exact uA a q h1 (by omega)⟩⟩
    rw [B2, if_neg (nI_ne0 (by omega) (by omega)), Option.bind_some, kG2 hS, Option.bind_some, B2]
  rcases hc with ⟨n, r, pl, c1, c2, c3, c4, c5⟩ | ⟨T, c1, ⟨x, j, c2, c3, c4⟩ | ⟨c2, c3⟩⟩
  · exact bad r _ c2 (by omega) (.inl ⟨n, pl, c1, c2, c3, rfl⟩) c4 c5
  · have hr : RBD (J 4) m x (nI (tSt (J 4) m j)) := .inr ⟨T, j, c1, c2, rfl⟩
    exact bad x _ (RBD_b hr).1 (RBD_b hr).2 hr c3 c4
  · obtain ⟨d1, d2, d3, d4, d5, d6, d7, ⟨p, u, d8, d9, d10, d11⟩, d12, d13⟩ := c3
    have c2' := c2
    unfold fFT at c2'
    have hg := sz_in (b := J 4) (m := m) (T := T) (fF_none T c2').1
    have B2 : B 2 2 = 0 := by rw [uB _ _ (by omega) (by omega)]; exact d1
    obtain ⟨C, f1, f2, f3, f4, f5, f6, f7, f8, f9, f10, f11, f12, f13, f14, uC⟩ := anew_ok (σ := σ) (J := B) (st := st) hS hg (by rw [uB _ _ (by omega) (by omega)]; exact d3) (by rw [uB _ _ (by omega) (by omega)]; exact d4) (by rw [uB _ _ (by omega) (by omega)]; exact d5) (by rw [uB _ _ (by omega) (by omega), uA _ _ (by omega) (by omega)]; exact hst)
    refine ⟨0, C, run _ ?_, by rw [uC _ _ (by omega) (by omega) (by omega)]; exact B24, .inr ⟨T, c1, c2, rfl, ⟨?_, f2, fun t ht => ?_, fun i hi => ?_, ⟨p, u, ?_, ?_, ?_, d10, d11⟩, ?_, f9, f10, f11, f12, f13, f14⟩, fun a q h1 h2 h3 h4 => ?_⟩⟩
    · have C2 : C 2 2 = 0 := by rw [uC _ _ (by omega) (by omega) (by omega)]; exact B2
      rw [if_pos B2, xw_ck, kC1 hS, Option.bind_some, f1, Option.bind_some, xw_gR, kR1_1 hS, Option.bind_some, kG2 hS, Option.bind_some, C2]
      rfl
    · rw [uC _ _ (by omega) (by omega) (by omega), B14]; exact d2
    · rw [f3 t ht, uB _ _ (by omega) (by omega)]; exact d6 t ht
    · rw [f4 i hi, uB _ _ (by omega) (by omega)]; exact d7 i hi
    · rw [f5, uB _ _ (by omega) (by omega)]; exact d8
    · rw [f6, uB _ _ (by omega) (by omega)]; exact d9
    · rw [f7, uB _ _ (by omega) (by omega)]; exact d9
    · rw [f8, uB _ _ (by omega) (by omega)]; exact d13
    · rw [uC a q (by omega) (by omega) h4, uB a q (by omega) (by omega)]; exact uA a q (by omega) (by omega)
end RC
theorem rd_now {I : Nat → Nat → Int32} {b : Nat → Int32} {m T st : Nat} {g : GD} {gT gP : GH} (hT : OKT b m T) (hg : g ∈ gAll) (hG : g = (tNu b m 1, tNu b m 2, rgN b m T)) (hF : fFT b m T = none) (h17 : ∀ t, t < 32 → I 17 t = bdT b m T g.1 g.2.1 g.2.2 t) (h18 : ∀ i, i < 16 → I 18 i = fdT b m T g.1 g.2.1 i) (hpu : ∃ p u, I 16 2 = nI p ∧ I 16 3 = nI u ∧ I 16 4 = nI u ∧ (∀ i, p.testBit i = (decide (i < 16) && decide (pII b m i T ≠ 0))) ∧ ∀ i, u.testBit i = (decide (i < 16) && decide (pII b m i T = 1))) (h5 : I 16 5 = nI (sDD b m T)) (h6 : I 16 6 = nI (st + 1)) (h7 : I 16 7 = nI (st + 1))
    (hr : ∀ i, i < 16 → I 191 i = iI ((tII b m i T).getD (aLL b m 6 T)) ∧ I 191 (16 + i) = iI ((tII b m (16 + i) T).getD (aLL b m 7 T)) ∧ I 191 (32 + i) = iI ((pUU b m i T).getD (aLL b m 8 T)) ∧ I 191 (48 + i) = nI (pII b m i T)) (hu : ∃ u, I 191 64 = nI u ∧ ∀ i, u.testBit i = (decide (i < tNu b m 1 * tNu b m 2) && decide (pII b m i T = 1))) (h65 : I 191 65 = nI (sDD b m T)) : LV g (gUp gT (st + 1) g (I 191)) (gUp gP (st + 1) g (I 191)) (st + 1) I 16 (I 191) := by
  have hF' := hF
  unfold fFT at hF'
  have h16 := (gAll_b g hg).2.2.1
  have gs : gSz g = tNu b m 1 * tNu b m 2 := by rw [hG]; rfl
  obtain ⟨u, u1, u2⟩ := hu
  have a6 := al_b (b := b) (m := m) hF' (.inl rfl)
  have a7 := al_b (b := b) (m := m) hF' (.inr (.inl rfl))
  have a8 := al_b (b := b) (m := m) hF' (.inr (.inr rfl))
  have pb : ∀ i, pII b m i T ≤ 2 ∧ (pII b m i T ≠ 0 → i < gSz g) := fun i => by rw [gs]; exact pi_b hF'
  have n0 : ∀ i, (nI (pII b m i T) = (0 : Int32)) = (pII b m i T = 0) := fun i => nn_eq (b := 0) (by have := (pb i).1; omega) (by decide)
  have n1 : ∀ i, (nI (pII b m i T) = (1 : Int32)) = (pII b m i T = 1) := fun i => nn_eq (b := 1) (by have := (pb i).1; omega) (by decide)
  have bnd : ∀ v : Int, -3 ≤ v → v ≤ 3 → -3 ≤ (iI v).toInt ∧ (iI v).toInt ≤ 3 := fun v v1 v2 => by rw [iI_ti (by omega) (by omega)]; exact ⟨v1, v2⟩
  have gd : ∀ (o : Option Int) (d : Int), (∀ v, o = some v → -3 ≤ v ∧ v ≤ 3) → -3 ≤ d → d ≤ 3 → -3 ≤ (iI (o.getD d)).toInt ∧ (iI (o.getD d)).toInt ≤ 3 := fun o d h d1 d2 => by
    cases o with
    | none => exact bnd d d1 d2
    | some v => exact bnd v (h v rfl).1 (h v rfl).2
  refine ⟨⟨fun t ht => ?_, fun i hi => ?_, ?_, ?_, ?_⟩, ⟨fun k hk => ?_, fun i hi => ⟨?_, fun hi2 => ?_⟩, ⟨u, ?_, u1, fun i hi hne => ?_⟩, _, sd_b hT, h65⟩, st + 1, st + 1, Nat.le_refl _, Nat.le_refl _, h6, h7, by rw [gUp_new], fun k _ => by rw [gUp_new], by rw [gUp_new], fun k _ => by rw [gUp_new]⟩
  · rw [h17 t ht]
    unfold bdT
    by_cases z : t < 16
    · rw [(hr t z).1, if_pos z]
    · have e : 16 + (t - 16) = t := by omega
      have := (hr (t - 16) (by omega)).2.1
      rw [e] at this
      rw [this, if_neg z]
  · rw [h18 i hi, (hr i hi).2.2.1]
    unfold fdT
    rfl
  · obtain ⟨p, u', p1, p2, p3, p4, p5⟩ := hpu
    refine ⟨p, u', p1, p2, fun i => ?_, fun i => ?_⟩
    · rw [p4]
      by_cases z : i < gSz g
      · rw [(hr i (by omega)).2.2.2, decide_eq_true z, decide_eq_true (show i < 16 by omega)]
        simp only [ne_eq, n0]
      · have : pII b m i T = 0 := Classical.byContradiction fun x => z ((pb i).2 x)
        rw [decide_eq_false z, this]
        simp
    · rw [p5]
      by_cases z : i < gSz g
      · rw [(hr i (by omega)).2.2.2, decide_eq_true z, decide_eq_true (show i < 16 by omega)]
        simp only [n1]
      · have : pII b m i T = 0 := Classical.byContradiction fun x => z ((pb i).2 x)
        rw [decide_eq_false z, this]
        simp
  · obtain ⟨p, u', p1, p2, p3, p4, p5⟩ := hpu
    have : u' = u := Nat.eq_of_testBit_eq fun i => by
      rw [p5, u2, ← gs]
      by_cases z : i < gSz g
      · rw [decide_eq_true z, decide_eq_true (show i < 16 by omega)]
      · have : pII b m i T = 0 := Classical.byContradiction fun x => z ((pb i).2 x)
        rw [decide_eq_false z, this]
        simp
    rw [p3, u1, this]
  · rw [h5, h65]
  · rcases (show k < 16 ∨ (16 ≤ k ∧ k < 32) ∨ 32 ≤ k by omega) with z | z | z
    · rw [(hr k z).1]
      exact gd _ _ (fun v hv => (ti_b hF' v hv).1) a6.1 a6.2
    · have e : 16 + (k - 16) = k := by omega
      have := (hr (k - 16) (by omega)).2.1
      rw [e] at this
      rw [this]
      exact gd _ _ (fun v hv => (ti_b hF' v hv).1) a7.1 a7.2
    · have e : 32 + (k - 32) = k := by omega
      have := (hr (k - 32) (by omega)).2.2.1
      rw [e] at this
      rw [this]
      exact gd _ _ (fun v hv => (pu_b hF' v hv).1) a8.1 a8.2
  · rw [(hr i hi).2.2.2]
    have := (pb i).1
    rcases (show pII b m i T = 0 ∨ pII b m i T = 1 ∨ pII b m i T = 2 by omega) with z | z | z
    · rw [z]; exact .inl rfl
    · rw [z]; exact .inr (.inl rfl)
    · rw [z]; exact .inr (.inr rfl)
  · have : pII b m i T = 0 := Classical.byContradiction fun x => by have := (pb i).2 x; omega
    rw [(hr i hi).2.2.2, this]
    rfl
  · refine Nat.lt_pow_two_of_testBit _ (fun i hi => ?_)
    rw [u2, ← gs, decide_eq_false (by omega), Bool.false_and]
  · rw [u2, ← gs, decide_eq_true hi, (hr i (by omega)).2.2.2]
    simp only [n1, Bool.true_and]
theorem op_read : Op_read INV := by
  intro n σ hn ⟨g, gT, gP, st, H⟩ _
  have hS := H.shp
  obtain ⟨m, hm, h1, h2, h3⟩ := H.tap
  have hky : KY (xL σ) := by
    obtain ⟨a, b, -, -, -, -, -, -, -, -, -, -, -, k⟩ := H.cel
    exact k
  have hcc : xR σ 157 4 = 160 ∨ 206 < xR σ 157 4 := by
    obtain ⟨_, _, _, _, _, _, q, _⟩ := H.cel
    exact q
  obtain ⟨b, hb⟩ : ∃ b, b = xI σ 4 := ⟨_, rfl⟩
  obtain ⟨r, C, c1, c2, c3⟩ := read11_ok (σ := σ) (J := xI σ) (st := st) hS hm h1 H.sts
  rw [← hb] at c3
  have fC : ∀ a q, 183 ≤ a → a ≤ 206 → C a q = xI σ a q := fun a q ha ha2 => by
    rcases c3 with ⟨-, u⟩ | ⟨T, -, -, -, -, u⟩
    · exact u a q (by omega) (by omega) (by omega)
    · exact u a q (by omega) (by omega) (by omega) (by omega)
  obtain ⟨L, r', D, d1, d2, d3, d4⟩ := read12_ok (τ := σ) (J := C) (b := b) (m := m) hS hky hm (by rw [fC _ _ (by omega) (by omega)]; exact h2) (fun k hk => by rw [fC _ _ (by omega) (by omega), hb]; exact h3 k hk)
  rcases c3 with ⟨c4, u⟩ | ⟨T, c4, c5, c6, c7, u⟩
  · rcases d4 with ⟨d5, v⟩ | ⟨T, d5, d6, -⟩
    · obtain ⟨e1, e2⟩ := RBD_one c4 d5
      subst e1
      refine ⟨nI r, xw σ C, xw (xl σ L) D, c1, d1, ?_⟩
      have fr : ∀ a q, ¬ (a = 2 ∨ (5 ≤ a ∧ a ≤ 10)) → ¬ (a = 3 ∧ 4 ≤ q ∧ q ≤ 9) → ¬ (a = 1 ∧ q = 14) → ¬ sRM a q → D a q = xI σ a q := fun a q k1 k2 k3 k4 => by rw [v a q k4]; exact u a q k1 k2 k3
      have hg := H.grd.1
      have HH : IV (n + 1) (xw σ D) g gT gP st := by
        refine ⟨hS, Nat.le_succ_of_le H.stn, (fr 1 15 (by omega) (by omega) (by omega) (by unfold sRM; omega)).trans H.sts, ⟨0, by omega, ?_, d3, fun k hk => by omega⟩, ?_, GRD_c (fun a k q => fr _ _ (by unfold sGRD at q; omega) (by unfold sGRD at q; omega) (by unfold sGRD at q; omega) (by unfold sGRD at q; unfold sRM; omega)) H.grd,
          NOW_c hg (fun a k q => fr _ _ (by unfold sNOW at q; omega) (by unfold sNOW at q; omega) (by unfold sNOW at q; omega) (by unfold sNOW at q; unfold sRM; omega)) H.now,
          PST_c hg (fun a k q => fr _ _ (by unfold sPST at q; omega) (by unfold sPST at q; omega) (by unfold sPST at q; omega) (by unfold sPST at q; unfold sRM; omega)) (Nat.le_refl _) (fun _ _ => rfl) (fun _ _ => rfl) H.pst,
          SLT_c hg (fun a k q => fr _ _ (by unfold sSLT at q; omega) (by unfold sSLT at q; omega) (by unfold sSLT at q; omega) (by unfold sSLT at q; unfold sRM; omega)) (Nat.le_refl _) (fun _ _ => rfl) (fun _ _ => rfl) H.slt,
          CCH_c (fun a k q => fr _ _ (by unfold sCCH at q; rw [xw_R] at q; omega) (by unfold sCCH at q; rw [xw_R] at q; omega) (by unfold sCCH at q; rw [xw_R] at q; omega) (by unfold sCCH at q; rw [xw_R] at q; unfold sRM; omega)) (Nat.le_refl _) (fun _ _ => rfl) (fun _ _ => rfl) H.cch,
          KNW_c hg (fun a k q => fr _ _ (by unfold sKNW at q; omega) (by unfold sKNW at q; omega) (by unfold sKNW at q; omega) (by unfold sKNW at q; unfold sRM; omega)) H.knw, H.cel⟩
        · show D 3 4 = _
          rw [v 3 4 (by unfold sRM; omega)]; exact c2
        · show D 1 14 = D 183 16
          rw [v 1 14 (by unfold sRM; omega)]; exact e2
      exact INV_i (HH.longs d2)
    · exact absurd d6 (fun z => RBD_no c4 d5 z)
  · rcases d4 with ⟨d5, -⟩ | ⟨T', d5, d6, d7, d8, v⟩
    · exact absurd c5 (fun z => RBD_no d5 c4 z)
    · obtain ⟨e1, -, -⟩ := cutR_one c4 d5
      subst e1
      subst c6
      subst d7
      refine ⟨0, xw σ C, xw (xl σ L) D, c1, d1, ?_⟩
      obtain ⟨p1, p2, p3, p4, p5, p6, p7, p8, p9, p10, p11⟩ := d8
      obtain ⟨q1, ⟨q2, q3, q4, q5, q6⟩, q7, q8, q9, q10, q11, q12, q13, q14, q15, q16⟩ := c7
      obtain ⟨G, hG⟩ : ∃ G : GD, G = (tNu b m 1, tNu b m 2, rgN b m T) := ⟨_, rfl⟩
      have c5' := c5
      unfold fFT at c5'
      have hg : G ∈ gAll := by rw [hG]; exact sz_in (fF_none T c5').1
      rw [← hG] at q2 q3 q4 q5 q6 q7 q8
      have vC : ∀ a q, a < 183 ∨ 206 < a → D a q = C a q := fun a q h => v a q (by unfold sRM; omega) (by omega)
      have fr : ∀ a q, ¬ (a = 2 ∨ (5 ≤ a ∧ a ≤ 19)) → ¬ (a = 3 ∧ 4 ≤ q ∧ q ≤ 9) → ¬ (a = 1 ∧ (q = 14 ∨ q = 15)) → ¬ ((a = 142 ∨ a = 147 ∨ a = 152) ∧ q = 2) → ¬ sRM a q → ¬ (a = 191 ∨ a = 195 ∨ (a = 183 ∧ ((17 ≤ q ∧ q ≤ 20) ∨ q = 29 ∨ q = 32))) → D a q = xI σ a q := fun a q k1 k2 k3 k4 k5 k6 => by rw [v a q k5 k6]; exact u a q k1 k2 k3 k4
      have HH : IV (n + 1) (xw σ D) G (gUp gT (st + 1) G (D 191)) (gUp gP (st + 1) G (D 191)) (st + 1) := by
        refine ⟨hS, Nat.succ_le_succ H.stn, ?_, ⟨0, by omega, ?_, d3, fun k hk => by omega⟩, ?_, ⟨hg, ?_, ?_, ?_, ?_, fun t ht => ?_, fun i hi => ?_, fun i j hi hj => ?_, ?_, ?_, ?_, ?_, fun i hi => ?_⟩, ?_, ?_, fun i hi => ?_, CCH_c (fun a k q => fr _ _ (by unfold sCCH at q; rw [xw_R] at q; omega) (by unfold sCCH at q; rw [xw_R] at q; omega) (by unfold sCCH at q; rw [xw_R] at q; omega) (by unfold sCCH at q; rw [xw_R] at q; omega) (by unfold sCCH at q; rw [xw_R] at q; unfold sRM; omega) (by unfold sCCH at q; rw [xw_R] at q; omega)) (Nat.le_succ _) (fun t ht => gUp_old (by omega)) (fun t ht => gUp_old (by omega)) H.cch, .inl p11, H.cel⟩
        · show D 1 15 = _
          rw [vC _ _ (by omega)]; exact q13
        · show D 3 4 = _
          rw [vC _ _ (by omega)]; exact c2
        · show D 1 14 = D 183 16
          rw [vC _ _ (by omega), q1, p1]
        · show D 11 4 = _
          rw [vC _ _ (by omega)]; exact q2
        · show D 11 5 = _
          rw [vC _ _ (by omega)]; exact q3
        · show D 11 6 = _
          rw [vC _ _ (by omega)]; exact q4
        · show D 11 7 = _
          rw [vC _ _ (by omega)]; exact q5
        · show D 12 t = _
          rw [vC _ _ (by omega)]; exact q6.1 t ht
        · show D 15 i = _
          rw [vC _ _ (by omega)]; exact q6.2.1 i hi
        · show D 13 (4 * i + j) = _ ∧ D 14 (4 * i + j) = _
          rw [vC _ _ (by omega), vC _ _ (by omega)]; exact q6.2.2 i j hi hj
        · show D 183 17 = _
          rw [hG]; exact p2
        · show D 183 18 = _
          rw [hG]; exact p3
        · show D 183 19 = _
          rw [hG]; exact p4
        · show D 183 20 = _
          rw [hG]; exact p5
        · show D 173 i = 0
          rw [fr _ _ (by omega) (by omega) (by omega) (by omega) (by unfold sRM; omega) (by omega)]
          exact H.grd.2.2.2.2.2.2.2.2.2.2.2.2 i hi
        · refine rd_now (b := b) (m := m) (T := T) (OKT_of c4) hg hG c5 (fun t ht => ?_) (fun i hi => ?_) ?_ ?_ ?_ ?_ p6 p7 p8
          · show D 17 t = _
            rw [vC _ _ (by omega)]; exact q7 t ht
          · show D 18 i = _
            rw [vC _ _ (by omega)]; exact q8 i hi
          · obtain ⟨p, w, w1, w2, w3, w4, w5⟩ := q9
            exact ⟨p, w, (vC _ _ (by omega)).trans w1, (vC _ _ (by omega)).trans w2, (vC _ _ (by omega)).trans w3, w4, w5⟩
          · exact (vC _ _ (by omega)).trans q10
          · exact (vC _ _ (by omega)).trans q11
          · exact (vC _ _ (by omega)).trans q12
        · obtain ⟨qq, nx, ea, -, -, hea, -, -, p28, -, -⟩ := H.pst
          refine ⟨0, 0, ea, by omega, by omega, hea, (vC _ _ (by omega)).trans q14, (vC _ _ (by omega)).trans q15, ?_, p9, fun i hi => by omega⟩
          show D 183 28 = _
          rw [fr _ _ (by omega) (by omega) (by omega) (by omega) (by unfold sRM; omega) (by omega)]; exact p28
        · obtain ⟨f, c, -, hc, -, -, k3, -, -⟩ := H.slt i hi
          refine ⟨0, c, by omega, hc, (vC _ _ (by omega)).trans (q16 i hi), p10 i hi, ?_, (fun z => by cases z), (fun z => by cases z)⟩
          show D (142 + 5 * i) 3 = _
          rw [fr _ _ (by omega) (by omega) (by omega) (by omega) (by unfold sRM; omega) (by omega)]; exact k3
      exact INV_i (HH.longs d2)
