/-! levels at hand -/
theorem levelsNow_ok {n : Nat} {σ : XS} {g : GD} {gT gP : GH} {st : Nat} (hn : n ≤ 512) (H : IV n σ g gT gP st) : ∃ τ, f_X11_levelsNow σ 1 = some (165, τ) ∧ IV n τ g gT gP st ∧ ENK (xI τ) (xR τ) (xlen τ) 157 g (xI τ 191) ∧ LVK (xI τ) g (xI τ 191) ∧ (∀ b j, (b < 157 ∨ (161 ≤ b ∧ b ≤ 164) ∨ (170 ≤ b ∧ b ≤ 206)) → xI τ b j = xI σ b j) ∧ (∀ b j, b ≤ xn σ → xL τ b j = xL σ b j) := by
  obtain ⟨σ1, e1, H1, K1, u1, l1⟩ := energiesNow_ok hn H
  have hS := H1.shp
  have hG := H1.grd
  have hg := hG.1
  obtain ⟨hSR, hRO, t, p, ht, hp, e6, e7, gt1, gt2, gp1, gp2⟩ := H1.now
  have hst := H1.stn
  obtain ⟨c, a, hE, ha, hcn⟩ := H1.en157
  have hEb := hE.b
  obtain ⟨J, q1, q2, q3⟩ := gather_ok (I := xI σ1) hS hg hE K1 hSR hRO
  have stp : f_X11_levelsNow σ 1 = if xI σ1 165 5 = nI p then some (165, σ1) else some (165, xw σ1 (xup J 165 5 (nI p))) := by
    unfold f_X11_levelsNow
    rw [xck_ok (sT1 H.shp), Option.bind_some, e1, Option.bind_some]
    dsimp only
    rw [xnz_ok (by decide), Option.bind_some]
    show f_X11_levelsNow_j4 (xw σ1 (xI σ1)) 1 157 = _
    unfold f_X11_levelsNow_j4
    have j16 : J 16 7 = nI p := by rw [q3 16 7 (by omega) (by omega)]; exact e7
    simp (disch := first | assumption | omega) only [Option.bind_some, Option.map_some, xw_gR, xw_gN, xw_al, xw_ck, xw_uI, xw_ur, xup_at, xur_at, if_true, if_false, reduceIte, and_true, true_and, and_false, false_and, not_true_eq_false, not_false_eq_true, Nat.reduceEqDiff, eq_self, Nat.reduceAdd, Nat.reduceMul, kC1, kG1, kP1, kR1_0, kR1_1, kR1_2, kR1_3, kR1_4, kR1_5, kR1_6, kR1_7, kR1_8, kR1_9, kR1_10, kR1_11, kR1_12, kR1_13, kC2, kG2, kP2, kR2_0, kR2_1, kC3, kG3, kP3, kR3_0, kR3_1, kR3_2, kR3_3, kL4, kA4, kS4, kL5, kA5, kS5, kL6, kA6, kS6, kL7, kA7, kS7, kC8, kG8, kP8, kR8_0, kR8_1, kL9, kA9, kS9, kL10, kA10, kS10, kC11, kG11, kP11, kR11_0, kR11_1, kR11_2, kR11_3, kL12, kA12, kS12, kL13, kA13, kS13, kL14, kA14, kS14, kL15, kA15, kS15, kC16, kG16, kP16, kR16_0, kR16_1, kL17, kA17, kS17, kL18, kA18, kS18, kC19, kG19, kP19, kR19_0, kL20, kL141, kL146, kA146, kS146, kL151, kA151, kS151, kL156, kA156, kS156, kC157, kG157, kP157, kR157_0, kR157_1, kL158, kA158, kS158, kL159, kA159, kS159, kC161, kG161, kP161, kR161_0, kR161_1, kL162, kA162, kS162, kL163, kA163, kS163, kC165, kG165, kP165, kR165_0, kR165_1, kR165_2, kR165_3, kL166, kA166, kS166, kL167, kA167, kS167, kL168, kA168, kS168, kL169, kA169, kS169, kC170, kG170, kP170, kR170_0, kR170_1, kR170_2, kL171, kA171, kS171, kL172, kA172, kS172, kL173, kA173, kS173, kC174, kG174, kP174, kR174_0, kR174_1, kR174_2, kR174_3, kR174_4, kL175, kA175, kS175, kL176, kA176, kS176, kL177, kA177, kS177, kL178, kA178, kS178, kL179, kC180, kG180, kP180, kL181, kL182, kA182, kS182, kC183, kG183, kP183, kR183_1, kR183_3, kR183_5, kR183_6, kR183_7, kR183_8, kR183_9, kR183_21, kR183_26, kR183_27, kR183_30, kR183_31, kR183_33, kR183_34, kR183_36, kR183_37, kR183_38, kR183_39, kR183_40, kR183_41, kR183_42, kR183_43, kR183_44, kL184, kA184, kS184, kL185, kA185, kS185, kL186, kA186, kS186, kL187, kA187, kS187, kL188, kA188, kS188, kL189, kL190, kL191, kA191, kS191, kL192, kA192, kS192, kL193, kA193, kS193, kL194, kA194, kS194, kL195, kA195, kS195, kL196, kA196, kS196, kL197, kA197, kS197, kL198, kA198, kS198, kL199, kA199, kS199, kL200, kA200, kS200, kL201, kL202, kA202, kS202, kL203, kA203, kS203, kL204, kA204, kS204, kL205, kL206, kA206, kS206, e7, xnz_ok, states11_ok hS hG, q1, j16]
    rfl
  rw [stp]
  by_cases hq : xI σ1 165 5 = nI p
  · rw [if_pos hq]
    refine ⟨σ1, rfl, H1, K1, ?_, fun b j hb => u1 b j (by omega), l1⟩
    rcases H1.cch.2.1 with z | ⟨p', z1, z2, z3⟩
    · rw [hq] at z
      exact absurd z (by have := nn_m1 (a := p) (by omega); rw [this]; exact id)
    · have : p' = p := by
        rw [hq, nn_eq (by omega) (by omega)] at z2; exact z2.symm
      subst this
      rw [gp1] at z3
      obtain ⟨c1, c2, c3, c4, c5, c6, c7⟩ := ct_congr hg (F := (gP p').2) (F' := xI σ1 191) gp2
      obtain ⟨y1, y2, y3, y4, y5⟩ := z3
      have cN : lvN g (xI σ1 191) = lvN g (gP p').2 := by unfold lvN; rw [c6]
      refine ⟨fun k hk => by rw [c4]; exact y1 k hk, fun k s hk hs => by rw [c3]; exact y2 k s hk hs, fun k u hk hu => by rw [c5]; exact y3 k u hk hu, by rw [cN]; exact y4, fun k hk => by rw [c6]; exact y5 k hk⟩
  · rw [if_neg hq]
    have ux : ∀ b j, ¬ (165 ≤ b ∧ b ≤ 169) → xup J 165 5 (nI p) b j = xI σ1 b j := fun b j hb => by rw [xup_at, if_neg (by omega), q3 b j (by omega) (by omega)]
    have lvk : LVK (xup J 165 5 (nI p)) g (xI σ1 191) := by
      obtain ⟨y1, y2, y3, y4, y5⟩ := q2
      exact ⟨fun k hk => by rw [xup_at, if_neg (by omega)]; exact y1 k hk, fun k s hk hs h1 h2 => by rw [xup_at, if_neg (by omega)]; exact y2 k s hk hs h1 h2, fun k u hk hu => by rw [xup_at, if_neg (by omega)]; exact y3 k u hk hu, by rw [xup_at, if_neg (by omega)]; exact y4, fun k hk h => by rw [xup_at, if_neg (by omega)]; exact y5 k hk h⟩
    have row : xup J 165 5 (nI p) 191 = xI σ1 191 := by funext k; exact ux 191 k (by omega)
    have enk : ∀ F, ENK (xI σ1) (xR σ1) (xlen σ1) 157 g F → ENK (xup J 165 5 (nI p)) (xR σ1) (xlen σ1) 157 g F := fun F h => ENK_c (fun k => ux _ k (by rw [hE.2.1]; omega)) h
    refine ⟨_, rfl, H1.cache hS (fun b j hb => ux b j (by omega)) ?_ H1.cel, ?_, ?_, fun b j hb => ?_, l1⟩
    · obtain ⟨c1, -, c3, c4⟩ := H1.cch
      refine ⟨?_, .inr ⟨p, hp, ?_, ?_⟩, ?_, ?_⟩
      · rw [xw_I, ux 157 5 (by omega)]
        rcases c1 with z | ⟨q, z1, z2, z3⟩
        · exact .inl z
        · exact .inr ⟨q, z1, z2, ENK_c (R := xR σ1) (fun k => ux _ k (by rw [hE.2.1]; omega)) z3⟩
      · rw [xw_I, xup_at, if_pos ⟨rfl, rfl⟩]
      · rw [gp1]
        obtain ⟨c1, c2, c3, c4, c5, c6, c7⟩ := ct_congr hg (F := (gP p).2) (F' := xI σ1 191) gp2
        obtain ⟨y1, y2, y3, y4, y5⟩ := lvk
        have cN : lvN g (xI σ1 191) = lvN g (gP p).2 := by unfold lvN; rw [c6]
        exact ⟨fun k hk => by rw [← c4]; exact y1 k hk, fun k s hk hs => by rw [← c3]; exact y2 k s hk hs, fun k u hk hu => by rw [← c5]; exact y3 k u hk hu, by rw [← cN]; exact y4, fun k hk => by rw [← c6]; exact y5 k hk⟩
      · rw [xw_I, ux 170 3 (by omega)]
        rcases c3 with z | ⟨q, z1, z2, z3⟩
        · exact .inl z
        · exact .inr ⟨q, z1, z2, BRK_c (fun k => ux _ k (by omega)) z3⟩
      · rw [xw_I, ux 174 10 (by omega)]
        rcases c4 with z | ⟨q, z1, z2, z3⟩
        · exact .inl z
        · exact .inr ⟨q, z1, z2, TRK_c (fun b k hb => ux _ k (by omega)) z3⟩
    · rw [xw_I, row]; exact enk _ K1
    · rw [xw_I, row]; exact lvk
    · rw [xw_I, ux b j (by omega)]; exact u1 b j (by omega)
/-- levels and all that is known, on both sides -/
theorem both_ready {n : Nat} {σ : XS} {g : GD} {gT gP : GH} {st : Nat} (hn : n ≤ 512) (H : IV n σ g gT gP st) : ∃ τ I', f_X11_levelsNow σ 1 = some (165, τ) ∧ f_X12_knows τ 183 = some (xw τ I') ∧ IV n τ g gT gP st ∧ IV n (xw τ I') g gT gP st ∧ Shp τ ∧ GRD (xI τ) g ∧ GRD I' g ∧ RO g (xI σ 191) ∧ SR g (xI τ) 16 (xI σ 191) ∧ ENK (xI τ) (xR τ) (xlen τ) 157 g (xI σ 191) ∧ LVK (xI τ) g (xI σ 191) ∧ KNK I' g (xI σ 191) ∧ xI τ 191 = xI σ 191 ∧ I' 191 = xI σ 191 ∧ (∀ b j, (b < 157 ∨ (161 ≤ b ∧ b ≤ 164) ∨ (170 ≤ b ∧ b ≤ 206)) → xI τ b j = xI σ b j) ∧ (∀ b j, ¬ (196 ≤ b ∧ b ≤ 198) → ¬ (b = 183 ∧ (j = 32 ∨ j = 35)) → I' b j = xI τ b j) := by
  obtain ⟨τ, e1, H1, K1, L1, u1, l1⟩ := levelsNow_ok hn H
  obtain ⟨I', e2, H2, K2, u2⟩ := knows_ok H1
  have r1 : xI τ 191 = xI σ 191 := by funext k; exact u1 191 k (by omega)
  have r2 : I' 191 = xI σ 191 := by funext k; rw [u2 191 k (by omega) (by omega), r1]
  rw [r1] at K1 L1
  rw [r2] at K2
  have hN := H1.now
  rw [r1] at hN
  exact ⟨τ, I', e1, e2, H1, H2, H1.shp, H1.grd, H2.grd, H.now.2.1, hN.1, K1, L1, K2, r1, r2, u1, u2⟩
