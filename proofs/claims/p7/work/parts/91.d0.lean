/-! the ways of a held setup, kept -/
theorem heldWays_ok {n : Nat} {σ : XS} {g : GD} {gT gP : GH} {st i : Nat} (H : IV n σ g gT gP st) (hi : i < 3) (hfull : xI σ (142 + 5 * i) 2 = nI 1) : ∃ τ, f_X11_heldWays σ 1 (142 + 5 * i) = some (146 + 5 * i, τ) ∧ IV n τ g gT gP st ∧ WAY (xI τ) (146 + 5 * i) g (fun k => xI σ 194 (66 * i + k)) ∧ (∀ a k, (a < 142 ∨ (157 ≤ a ∧ a ≤ 160) ∨ (165 ≤ a ∧ a ≤ 169) ∨ (173 ≤ a ∧ a ≤ 206)) → xI τ a k = xI σ a k) ∧ RO g (fun k => xI σ 194 (66 * i + k)) := by
  have hS := H.shp
  have hG := H.grd
  have hg := hG.1
  have h16 := (gAll_b g hg).2.2.1
  obtain ⟨f, cc, s1, s2, s3, s4, s5, s6, s7⟩ := H.slt i hi
  have hf1 : f = 1 := by
    rw [s3, nn_eq (by omega) (by omega)] at hfull; exact hfull
  subst hf1
  obtain ⟨F, hF⟩ : ∃ F, F = fun k => xI σ 194 (66 * i + k) := ⟨_, rfl⟩
  have hLV := s6 rfl
  rw [← hF] at hLV ⊢
  have hSR := hLV.1
  have ho := hLV.2.1
  by_cases hc : cc = 1
  · subst hc
    refine ⟨σ, ?_, H, ?_, fun _ _ _ => rfl, ho⟩
    · show f_X11_heldWays (xw σ (xI σ)) 1 (142 + 5 * i) = _
      unfold f_X11_heldWays
      rw [slG hS hi, Option.bind_some, s5, if_neg (by decide), xw_gR, slR1 hS hi, Option.bind_some, xnz_ok (by omega)]
      rfl
    · have := s7 rfl rfl
      rw [hF]; exact this
  · have hc0 : cc = 0 := by omega
    subst hc0
    obtain ⟨c, b, hE, hb, hcn⟩ := H.en161
    have hEb := hE.b
    have hf := SR_fill hg hSR ho
    have K1 := suK1 hS (suA_s hi)
    have K2 := suK2 hS (suA_s hi)
    obtain ⟨τ, e1, hτ⟩ := fill11_ok (I := xI σ) (k := gSz g) hS hG hE hb hcn K1 K2 (by omega) (by omega) (by omega) (by omega) (by omega) (by omega) (Nat.le_refl _) hf.1 hf.2
    have HA := H.aside hE (fun a k h => rfl) hτ
    obtain ⟨hτS, ⟨c', b', hE', q1, q2, q3, q4, q5, q6, q7, q8, q9⟩, q10, q11, q12, q13⟩ := hτ
    have hEb' := hE'.b
    have h206 := hS.1
    have fr : ∀ a k, (a < 161 ∨ (165 ≤ a ∧ a ≤ 206)) → xI τ a k = xI σ a k := fun a k h => q9 a k (by omega) (by omega) (by omega)
    have hSRτ : SR g (xI τ) (143 + 5 * i) F := SR_m hg (fun k _ _ => fr _ k (by omega)) (fun k _ => fr _ k (by omega)) (fun k _ => fr _ k (by omega)) (fun k _ => rfl) hSR
    have KW : τ.1 (146 + 5 * i) = (20, 289) := by rw [xw_K hτS (by omega) (by omega) (by omega), (slK i hi).2.1]
    have cw := countWays_ok (σ := τ) (I := xI τ) (W := 146 + 5 * i) (a := 143 + 5 * i) hτS HA.grd ho hE' (Nat.pow_le_pow_right (by decide) q3) (fun s hs => by rw [q8 s hs, eP_all hg]) KW (suA_s hi) hSRτ (by omega) (by omega) (by omega)
    obtain ⟨Q, hQ⟩ : ∃ Q, Q = xup (wyI (xI τ) (146 + 5 * i) g F 144 289 (gSt g)) (142 + 5 * i) 3 1 := ⟨_, rfl⟩
    have uQ : ∀ a k, a ≠ 146 + 5 * i → ¬ (a = 142 + 5 * i ∧ k = 3) → Q a k = xI τ a k := fun a k h1 h2 => by rw [hQ, xup_at, if_neg h2, wyI_out h1]
    have hWay : WAY Q (146 + 5 * i) g F := fun k hk => by
      rw [hQ, xup_at, if_neg (by omega)]
      unfold wyI
      rw [if_pos ⟨rfl, hk⟩]
      rfl
    have hcells := HA.cells
    refine ⟨xw τ Q, ?_, ?_, hWay, fun a k h => ?_, ho⟩
    · show f_X11_heldWays (xw σ (xI σ)) 1 (142 + 5 * i) = _
      unfold f_X11_heldWays
      simp (disch := first | assumption | omega) only [Option.bind_some, Option.map_some, xw_gR, xw_gN, xw_al, xw_ck, xw_uI, xw_ur, xup_at, xur_at, if_true, if_false, reduceIte, and_true, true_and, and_false, false_and, not_true_eq_false, not_false_eq_true, Nat.reduceEqDiff, eq_self, Nat.reduceAdd, Nat.reduceMul, kC1, kG1, kP1, kR1_0, kR1_1, kR1_2, kR1_3, kR1_4, kR1_5, kR1_6, kR1_7, kR1_8, kR1_9, kR1_10, kR1_11, kR1_12, kR1_13, kC2, kG2, kP2, kR2_0, kR2_1, kC3, kG3, kP3, kR3_0, kR3_1, kR3_2, kR3_3, kL4, kA4, kS4, kL5, kA5, kS5, kL6, kA6, kS6, kL7, kA7, kS7, kC8, kG8, kP8, kR8_0, kR8_1, kL9, kA9, kS9, kL10, kA10, kS10, kC11, kG11, kP11, kR11_0, kR11_1, kR11_2, kR11_3, kL12, kA12, kS12, kL13, kA13, kS13, kL14, kA14, kS14, kL15, kA15, kS15, kC16, kG16, kP16, kR16_0, kR16_1, kL17, kA17, kS17, kL18, kA18, kS18, kC19, kG19, kP19, kR19_0, kL20, kL141, kL146, kA146, kS146, kL151, kA151, kS151, kL156, kA156, kS156, kC157, kG157, kP157, kR157_0, kR157_1, kL158, kA158, kS158, kL159, kA159, kS159, kC161, kG161, kP161, kR161_0, kR161_1, kL162, kA162, kS162, kL163, kA163, kS163, kC165, kG165, kP165, kR165_0, kR165_1, kR165_2, kR165_3, kL166, kA166, kS166, kL167, kA167, kS167, kL168, kA168, kS168, kL169, kA169, kS169, kC170, kG170, kP170, kR170_0, kR170_1, kR170_2, kL171, kA171, kS171, kL172, kA172, kS172, kL173, kA173, kS173, kC174, kG174, kP174, kR174_0, kR174_1, kR174_2, kR174_3, kR174_4, kL175, kA175, kS175, kL176, kA176, kS176, kL177, kA177, kS177, kL178, kA178, kS178, kL179, kC180, kG180, kP180, kL181, kL182, kA182, kS182, kC183, kG183, kP183, kR183_1, kR183_3, kR183_5, kR183_6, kR183_7, kR183_8, kR183_9, kR183_21, kR183_26, kR183_27, kR183_30, kR183_31, kR183_33, kR183_34, kR183_36, kR183_37, kR183_38, kR183_39, kR183_40, kR183_41, kR183_42, kR183_43, kR183_44, kL184, kA184, kS184, kL185, kA185, kS185, kL186, kA186, kS186, kL187, kA187, kS187, kL188, kA188, kS188, kL189, kL190, kL191, kA191, kS191, kL192, kA192, kS192, kL193, kA193, kS193, kL194, kA194, kS194, kL195, kA195, kS195, kL196, kA196, kS196, kL197, kA197, kS197, kL198, kA198, kS198, kL199, kA199, kS199, kL200, kA200, kS200, kL201, kL202, kA202, kS202, kL203, kA203, kS203, kL204, kA204, kS204, kL205, kL206, kA206, kS206, slG hS hi, s5, n00, slR0 hS hi, suR0 hS (suA_s hi), suR1 hS (suA_s hi), hG.2.2.2.2.1, e1]
      show f_X11_heldWays_j39 (xw τ (xI τ)) 1 (142 + 5 * i) = _
      unfold f_X11_heldWays_j39
      rw [xw_gR, slR1 hτS hi, Option.bind_some, xw_gR, kR1_7 hτS, Option.bind_some, xw_gR, slR0 hτS hi, Option.bind_some, xw_ck, kC1 hτS, Option.bind_some, cw, Option.bind_some, slP hτS hi, Option.bind_some, ← hQ, xw_gR, slR1 hτS hi, Option.bind_some, xnz_ok (by omega)]
      rfl
    · refine ⟨hτS, HA.stn, (uQ 1 15 (by omega) (by omega)).trans HA.sts, TAP_c (fun a k z => uQ a k (by unfold sTAP at z; omega) (by unfold sTAP at z; omega)) HA.tap, ?_, GRD_c (fun a k z => uQ a k (by unfold sGRD at z; omega) (by unfold sGRD at z; omega)) HA.grd, NOW_c hg (fun a k z => uQ a k (by unfold sNOW at z; omega) (by unfold sNOW at z; omega)) HA.now, PST_c hg (fun a k z => uQ a k (by unfold sPST at z; omega) (by unfold sPST at z; omega)) (Nat.le_refl _) (fun _ _ => rfl) (fun _ _ => rfl) HA.pst, ?_, CCH_c (fun a k z => by unfold sCCH at z; rw [xw_R] at z; exact uQ a k (by omega) (by omega)) (Nat.le_refl _) (fun _ _ => rfl) (fun _ _ => rfl) HA.cch, KNW_c hg (fun a k z => uQ a k (by unfold sKNW at z; omega) (by unfold sKNW at z; omega)) HA.knw, HA.cel⟩
      · show Q 1 14 = Q 183 16
        rw [uQ _ _ (by omega) (by omega), uQ _ _ (by omega) (by omega)]; exact HA.plc
      · intro j hj
        obtain ⟨f', c'', r1, r2, r3, r4, r5, r6, r7⟩ := HA.slt j hj
        rw [xw_I]
        by_cases hji : j = i
        · subst hji
          refine ⟨f', 1, r1, by decide, by rw [uQ _ _ (by omega) (by omega)]; exact r3, by rw [uQ _ _ (by omega) (by omega)]; exact r4, by rw [hQ, xup_at, if_pos ⟨rfl, rfl⟩]; rfl, fun hh => ?_, fun hh _ => ?_⟩
          · exact LV_m (I := xI τ) hg (fun k k1 k2 => uQ _ k (by omega) (by omega)) (fun k _ => uQ _ k (by omega) (by omega)) (fun k _ => uQ _ k (by omega) (by omega)) (fun k _ => uQ 194 _ (by omega) (by omega)) (Nat.le_refl _) (fun _ _ => rfl) (fun _ _ => rfl) (r6 hh)
          · refine WAY_c (I := Q) hg (fun k _ => rfl) (fun k _ => ?_) hWay
            rw [hF, uQ 194 _ (by omega) (by omega)]
            exact fr 194 _ (by omega)
        · refine ⟨f', c'', r1, r2, by rw [uQ _ _ (by omega) (by omega)]; exact r3, by rw [uQ _ _ (by omega) (by omega)]; exact r4, by rw [uQ _ _ (by omega) (by omega)]; exact r5, fun hh => ?_, fun hh h2 => ?_⟩
          · exact LV_m (I := xI τ) hg (fun k k1 k2 => uQ _ k (by omega) (by omega)) (fun k _ => uQ _ k (by omega) (by omega)) (fun k _ => uQ _ k (by omega) (by omega)) (fun k _ => uQ 194 _ (by omega) (by omega)) (Nat.le_refl _) (fun _ _ => rfl) (fun _ _ => rfl) (r6 hh)
          · exact WAY_c (I := xI τ) hg (fun k _ => uQ _ k (by omega) (by omega)) (fun k _ => uQ 194 _ (by omega) (by omega)) (r7 hh h2)
    · rw [xw_I, uQ a k (by omega) (by omega)]; exact fr a k (by omega)
