section
theorem in_gen {x : Int32} {N : Nat} (hN : N < 2147483648) : f_X12_in x 0 (nI N) = some (if x < 0 ∨ nI N < x then 0 else 1) := by
  unfold f_X12_in
  by_cases h1 : x < 0
  · simp [h1]
  · by_cases h2 : nI N < x <;> simp [h1, h2]
theorem op_wander : Op_wander INV := by
  intro n σ hn ⟨g, gT, gP, st, H⟩ x y z
  have hS := H.shp
  have hG := H.grd
  have hg := hG.1
  have h16 := (gAll_b g hg).2.2.1
  have hSt := (gSt_b hg).1
  have i200 : f_X12_in x 0 200 = some (if x < 0 ∨ 200 < x then 0 else 1) := in_gen (N := 200) (by decide)
  have i100 : f_X12_in y 0 100 = some (if y < 0 ∨ 100 < y then 0 else 1) := in_gen (N := 100) (by decide)
  by_cases h0 : gSz g = 0
  · refine ⟨-100000, σ, σ, ?_, ?_, g, gT, gP, st, H.nop⟩
    · show f_X11_wander (xw σ (xI σ)) 1 x y z = _
      unfold f_X11_wander
      simp (disch := first | assumption | omega) only [Option.bind_some, Option.map_some, xw_gR, xw_gN, xw_al, xw_ck, xw_uI, xw_ur, xup_at, xur_at, if_true, if_false, reduceIte, and_true, true_and, and_false, false_and, not_true_eq_false, not_false_eq_true, Nat.reduceEqDiff, eq_self, Nat.reduceAdd, Nat.reduceMul, kC1, kG1, kP1, kR1_0, kR1_1, kR1_2, kR1_3, kR1_4, kR1_5, kR1_6, kR1_7, kR1_8, kR1_9, kR1_10, kR1_11, kR1_12, kR1_13, kC2, kG2, kP2, kR2_0, kR2_1, kC3, kG3, kP3, kR3_0, kR3_1, kR3_2, kR3_3, kL4, kA4, kS4, kL5, kA5, kS5, kL6, kA6, kS6, kL7, kA7, kS7, kC8, kG8, kP8, kR8_0, kR8_1, kL9, kA9, kS9, kL10, kA10, kS10, kC11, kG11, kP11, kR11_0, kR11_1, kR11_2, kR11_3, kL12, kA12, kS12, kL13, kA13, kS13, kL14, kA14, kS14, kL15, kA15, kS15, kC16, kG16, kP16, kR16_0, kR16_1, kL17, kA17, kS17, kL18, kA18, kS18, kC19, kG19, kP19, kR19_0, kL20, kL141, kL146, kA146, kS146, kL151, kA151, kS151, kL156, kA156, kS156, kC157, kG157, kP157, kR157_0, kR157_1, kL158, kA158, kS158, kL159, kA159, kS159, kC161, kG161, kP161, kR161_0, kR161_1, kL162, kA162, kS162, kL163, kA163, kS163, kC165, kG165, kP165, kR165_0, kR165_1, kR165_2, kR165_3, kL166, kA166, kS166, kL167, kA167, kS167, kL168, kA168, kS168, kL169, kA169, kS169, kC170, kG170, kP170, kR170_0, kR170_1, kR170_2, kL171, kA171, kS171, kL172, kA172, kS172, kL173, kA173, kS173, kC174, kG174, kP174, kR174_0, kR174_1, kR174_2, kR174_3, kR174_4, kL175, kA175, kS175, kL176, kA176, kS176, kL177, kA177, kS177, kL178, kA178, kS178, kL179, kC180, kG180, kP180, kL181, kL182, kA182, kS182, kC183, kG183, kP183, kR183_1, kR183_3, kR183_5, kR183_6, kR183_7, kR183_8, kR183_9, kR183_21, kR183_26, kR183_27, kR183_30, kR183_31, kR183_33, kR183_34, kR183_36, kR183_37, kR183_38, kR183_39, kR183_40, kR183_41, kR183_42, kR183_43, kR183_44, kL184, kA184, kS184, kL185, kA185, kS185, kL186, kA186, kS186, kL187, kA187, kS187, kL188, kA188, kS188, kL189, kL190, kL191, kA191, kS191, kL192, kA192, kS192, kL193, kA193, kS193, kL194, kA194, kS194, kL195, kA195, kS195, kL196, kA196, kS196, kL197, kA197, kS197, kL198, kA198, kS198, kL199, kA199, kS199, kL200, kA200, kS200, kL201, kL202, kA202, kS202, kL203, kA203, kS203, kL204, kA204, kS204, kL205, kL206, kA206, kS206, hG.2.2.2.2.1, h0, n00]
      split
      · rfl
      · split
        · rfl
        · split
          · rfl
          · split <;> rfl
    · show f_X12_wander (xw σ (xI σ)) 183 x y z = _
      unfold f_X12_wander
      simp (disch := first | assumption | omega) only [Option.bind_some, Option.map_some, xw_gR, xw_gN, xw_al, xw_ck, xw_uI, xw_ur, xup_at, xur_at, if_true, if_false, reduceIte, and_true, true_and, and_false, false_and, not_true_eq_false, not_false_eq_true, Nat.reduceEqDiff, eq_self, Nat.reduceAdd, Nat.reduceMul, kC1, kG1, kP1, kR1_0, kR1_1, kR1_2, kR1_3, kR1_4, kR1_5, kR1_6, kR1_7, kR1_8, kR1_9, kR1_10, kR1_11, kR1_12, kR1_13, kC2, kG2, kP2, kR2_0, kR2_1, kC3, kG3, kP3, kR3_0, kR3_1, kR3_2, kR3_3, kL4, kA4, kS4, kL5, kA5, kS5, kL6, kA6, kS6, kL7, kA7, kS7, kC8, kG8, kP8, kR8_0, kR8_1, kL9, kA9, kS9, kL10, kA10, kS10, kC11, kG11, kP11, kR11_0, kR11_1, kR11_2, kR11_3, kL12, kA12, kS12, kL13, kA13, kS13, kL14, kA14, kS14, kL15, kA15, kS15, kC16, kG16, kP16, kR16_0, kR16_1, kL17, kA17, kS17, kL18, kA18, kS18, kC19, kG19, kP19, kR19_0, kL20, kL141, kL146, kA146, kS146, kL151, kA151, kS151, kL156, kA156, kS156, kC157, kG157, kP157, kR157_0, kR157_1, kL158, kA158, kS158, kL159, kA159, kS159, kC161, kG161, kP161, kR161_0, kR161_1, kL162, kA162, kS162, kL163, kA163, kS163, kC165, kG165, kP165, kR165_0, kR165_1, kR165_2, kR165_3, kL166, kA166, kS166, kL167, kA167, kS167, kL168, kA168, kS168, kL169, kA169, kS169, kC170, kG170, kP170, kR170_0, kR170_1, kR170_2, kL171, kA171, kS171, kL172, kA172, kS172, kL173, kA173, kS173, kC174, kG174, kP174, kR174_0, kR174_1, kR174_2, kR174_3, kR174_4, kL175, kA175, kS175, kL176, kA176, kS176, kL177, kA177, kS177, kL178, kA178, kS178, kL179, kC180, kG180, kP180, kL181, kL182, kA182, kS182, kC183, kG183, kP183, kR183_1, kR183_3, kR183_5, kR183_6, kR183_7, kR183_8, kR183_9, kR183_21, kR183_26, kR183_27, kR183_30, kR183_31, kR183_33, kR183_34, kR183_36, kR183_37, kR183_38, kR183_39, kR183_40, kR183_41, kR183_42, kR183_43, kR183_44, kL184, kA184, kS184, kL185, kA185, kS185, kL186, kA186, kS186, kL187, kA187, kS187, kL188, kA188, kS188, kL189, kL190, kL191, kA191, kS191, kL192, kA192, kS192, kL193, kA193, kS193, kL194, kA194, kS194, kL195, kA195, kS195, kL196, kA196, kS196, kL197, kA197, kS197, kL198, kA198, kS198, kL199, kA199, kS199, kL200, kA200, kS200, kL201, kL202, kA202, kS202, kL203, kA203, kS203, kL204, kA204, kS204, kL205, kL206, kA206, kS206, sites_ok hS hG, h0, n00]
      rfl
  have hn0 : (nI (gSz g) = 0) = False := eq_false (nI_ne0 (by omega) (by omega))
  by_cases hx1 : x < 0 ∨ 200 < x
  · refine ⟨-100000, σ, σ, ?_, ?_, g, gT, gP, st, H.nop⟩
    · unfold f_X11_wander
      rcases hx1 with q | q
      · rw [if_pos q]
      · by_cases q2 : x < 0
        · rw [if_pos q2]
        · rw [if_neg q2, if_pos q]
    · show f_X12_wander (xw σ (xI σ)) 183 x y z = _
      unfold f_X12_wander
      simp (disch := first | assumption | omega) only [Option.bind_some, Option.map_some, xw_gR, xw_gN, xw_al, xw_ck, xw_uI, xw_ur, xup_at, xur_at, if_true, if_false, reduceIte, and_true, true_and, and_false, false_and, not_true_eq_false, not_false_eq_true, Nat.reduceEqDiff, eq_self, Nat.reduceAdd, Nat.reduceMul, kC1, kG1, kP1, kR1_0, kR1_1, kR1_2, kR1_3, kR1_4, kR1_5, kR1_6, kR1_7, kR1_8, kR1_9, kR1_10, kR1_11, kR1_12, kR1_13, kC2, kG2, kP2, kR2_0, kR2_1, kC3, kG3, kP3, kR3_0, kR3_1, kR3_2, kR3_3, kL4, kA4, kS4, kL5, kA5, kS5, kL6, kA6, kS6, kL7, kA7, kS7, kC8, kG8, kP8, kR8_0, kR8_1, kL9, kA9, kS9, kL10, kA10, kS10, kC11, kG11, kP11, kR11_0, kR11_1, kR11_2, kR11_3, kL12, kA12, kS12, kL13, kA13, kS13, kL14, kA14, kS14, kL15, kA15, kS15, kC16, kG16, kP16, kR16_0, kR16_1, kL17, kA17, kS17, kL18, kA18, kS18, kC19, kG19, kP19, kR19_0, kL20, kL141, kL146, kA146, kS146, kL151, kA151, kS151, kL156, kA156, kS156, kC157, kG157, kP157, kR157_0, kR157_1, kL158, kA158, kS158, kL159, kA159, kS159, kC161, kG161, kP161, kR161_0, kR161_1, kL162, kA162, kS162, kL163, kA163, kS163, kC165, kG165, kP165, kR165_0, kR165_1, kR165_2, kR165_3, kL166, kA166, kS166, kL167, kA167, kS167, kL168, kA168, kS168, kL169, kA169, kS169, kC170, kG170, kP170, kR170_0, kR170_1, kR170_2, kL171, kA171, kS171, kL172, kA172, kS172, kL173, kA173, kS173, kC174, kG174, kP174, kR174_0, kR174_1, kR174_2, kR174_3, kR174_4, kL175, kA175, kS175, kL176, kA176, kS176, kL177, kA177, kS177, kL178, kA178, kS178, kL179, kC180, kG180, kP180, kL181, kL182, kA182, kS182, kC183, kG183, kP183, kR183_1, kR183_3, kR183_5, kR183_6, kR183_7, kR183_8, kR183_9, kR183_21, kR183_26, kR183_27, kR183_30, kR183_31, kR183_33, kR183_34, kR183_36, kR183_37, kR183_38, kR183_39, kR183_40, kR183_41, kR183_42, kR183_43, kR183_44, kL184, kA184, kS184, kL185, kA185, kS185, kL186, kA186, kS186, kL187, kA187, kS187, kL188, kA188, kS188, kL189, kL190, kL191, kA191, kS191, kL192, kA192, kS192, kL193, kA193, kS193, kL194, kA194, kS194, kL195, kA195, kS195, kL196, kA196, kS196, kL197, kA197, kS197, kL198, kA198, kS198, kL199, kA199, kS199, kL200, kA200, kS200, kL201, kL202, kA202, kS202, kL203, kA203, kS203, kL204, kA204, kS204, kL205, kL206, kA206, kS206, sites_ok hS hG, hn0, i200, hx1]
      rfl
  by_cases hy1 : y < 0 ∨ 100 < y
  · refine ⟨-100000, σ, σ, ?_, ?_, g, gT, gP, st, H.nop⟩
    · unfold f_X11_wander
      rw [if_neg (fun q => hx1 (.inl q)), if_neg (fun q => hx1 (.inr q))]
      rcases hy1 with q | q
      · rw [if_pos q]
      · by_cases q2 : y < 0
        · rw [if_pos q2]
        · rw [if_neg q2, if_pos q]
    · show f_X12_wander (xw σ (xI σ)) 183 x y z = _
      unfold f_X12_wander
      simp (disch := first | assumption | omega) only [Option.bind_some, Option.map_some, xw_gR, xw_gN, xw_al, xw_ck, xw_uI, xw_ur, xup_at, xur_at, if_true, if_false, reduceIte, and_true, true_and, and_false, false_and, not_true_eq_false, not_false_eq_true, Nat.reduceEqDiff, eq_self, Nat.reduceAdd, Nat.reduceMul, kC1, kG1, kP1, kR1_0, kR1_1, kR1_2, kR1_3, kR1_4, kR1_5, kR1_6, kR1_7, kR1_8, kR1_9, kR1_10, kR1_11, kR1_12, kR1_13, kC2, kG2, kP2, kR2_0, kR2_1, kC3, kG3, kP3, kR3_0, kR3_1, kR3_2, kR3_3, kL4, kA4, kS4, kL5, kA5, kS5, kL6, kA6, kS6, kL7, kA7, kS7, kC8, kG8, kP8, kR8_0, kR8_1, kL9, kA9, kS9, kL10, kA10, kS10, kC11, kG11, kP11, kR11_0, kR11_1, kR11_2, kR11_3, kL12, kA12, kS12, kL13, kA13, kS13, kL14, kA14, kS14, kL15, kA15, kS15, kC16, kG16, kP16, kR16_0, kR16_1, kL17, kA17, kS17, kL18, kA18, kS18, kC19, kG19, kP19, kR19_0, kL20, kL141, kL146, kA146, kS146, kL151, kA151, kS151, kL156, kA156, kS156, kC157, kG157, kP157, kR157_0, kR157_1, kL158, kA158, kS158, kL159, kA159, kS159, kC161, kG161, kP161, kR161_0, kR161_1, kL162, kA162, kS162, kL163, kA163, kS163, kC165, kG165, kP165, kR165_0, kR165_1, kR165_2, kR165_3, kL166, kA166, kS166, kL167, kA167, kS167, kL168, kA168, kS168, kL169, kA169, kS169, kC170, kG170, kP170, kR170_0, kR170_1, kR170_2, kL171, kA171, kS171, kL172, kA172, kS172, kL173, kA173, kS173, kC174, kG174, kP174, kR174_0, kR174_1, kR174_2, kR174_3, kR174_4, kL175, kA175, kS175, kL176, kA176, kS176, kL177, kA177, kS177, kL178, kA178, kS178, kL179, kC180, kG180, kP180, kL181, kL182, kA182, kS182, kC183, kG183, kP183, kR183_1, kR183_3, kR183_5, kR183_6, kR183_7, kR183_8, kR183_9, kR183_21, kR183_26, kR183_27, kR183_30, kR183_31, kR183_33, kR183_34, kR183_36, kR183_37, kR183_38, kR183_39, kR183_40, kR183_41, kR183_42, kR183_43, kR183_44, kL184, kA184, kS184, kL185, kA185, kS185, kL186, kA186, kS186, kL187, kA187, kS187, kL188, kA188, kS188, kL189, kL190, kL191, kA191, kS191, kL192, kA192, kS192, kL193, kA193, kS193, kL194, kA194, kS194, kL195, kA195, kS195, kL196, kA196, kS196, kL197, kA197, kS197, kL198, kA198, kS198, kL199, kA199, kS199, kL200, kA200, kS200, kL201, kL202, kA202, kS202, kL203, kA203, kS203, kL204, kA204, kS204, kL205, kL206, kA206, kS206, sites_ok hS hG, hn0, i200, hx1, one0, i100, hy1]
      rfl
  obtain ⟨m, hm, rfl⟩ := nn_of (fun q => hx1 (.inl q))
  obtain ⟨c, hc, rfl⟩ := nn_of (fun q => hy1 (.inl q))
  have hm2 : m ≤ 200 := by
    rcases Nat.lt_or_ge 200 m with q | q
    · exact absurd (.inr (by rw [show (200 : Int32) = nI 200 from rfl, nn_lt (by omega) hm]; exact q)) hx1
    · exact q
  have hc2 : c ≤ 100 := by
    rcases Nat.lt_or_ge 100 c with q | q
    · exact absurd (.inr (by rw [show (100 : Int32) = nI 100 from rfl, nn_lt (by omega) hc]; exact q)) hy1
    · exact q
  obtain ⟨F, hF⟩ : ∃ F, F = xI σ 191 := ⟨_, rfl⟩
  have hSR := H.now.1
  have ho := H.now.2.1
  rw [← hF] at hSR ho
  obtain ⟨b, o3, o4, o5⟩ := ho.2.2.1
  obtain ⟨sd, o6, o7⟩ := ho.2.2.2
  have hbN : b < gSt g := by unfold gSt; rw [if_neg h0]; exact o3
  have hbl : lW g F b = true := lW_iff.mpr o5
  have hst := stroll_ok (σ := σ) (J := xI σ) (m := m) (c := c) (x := sd) hS hG ho hSR hm2 hc2 (by omega) o7 o4 hbN hbl
  obtain ⟨W, hW⟩ : ∃ W, W = wd g F c sd b m := ⟨_, rfl⟩
  rw [← hW] at hst
  have HW : IV n (xw σ (wkI (xI σ) W.2.1 W.2.2.2 W.2.2.1)) g gT gP st := H.walk (fun a k h => wkI_out (by omega))
  have v := wkI_v (I := xI σ) (b := W.2.1) (t := W.2.2.2) (l := W.2.2.1)
  have A : f_X11_wander σ 1 (nI m) (nI c) z = xsw z 0 [some (nI W.2.1, xw σ (wkI (xI σ) W.2.1 W.2.2.2 W.2.2.1)), some (iI W.2.2.1, xw σ (wkI (xI σ) W.2.1 W.2.2.2 W.2.2.1)), some (nI W.2.2.2, xw σ (wkI (xI σ) W.2.1 W.2.2.2 W.2.2.1))] (some (-100000, xw σ (wkI (xI σ) W.2.1 W.2.2.2 W.2.2.1))) := by
    show f_X11_wander (xw σ (xI σ)) 1 (nI m) (nI c) z = _
    unfold f_X11_wander
    rw [if_neg (fun q => hx1 (.inl q)), if_neg (fun q => hx1 (.inr q)), if_neg (fun q => hy1 (.inl q)), if_neg (fun q => hy1 (.inr q))]
    simp (disch := first | assumption | omega) only [Option.bind_some, Option.map_some, xw_gR, xw_gN, xw_al, xw_ck, xw_uI, xw_ur, xup_at, xur_at, if_true, if_false, reduceIte, and_true, true_and, and_false, false_and, not_true_eq_false, not_false_eq_true, Nat.reduceEqDiff, eq_self, Nat.reduceAdd, Nat.reduceMul, kC1, kG1, kP1, kR1_0, kR1_1, kR1_2, kR1_3, kR1_4, kR1_5, kR1_6, kR1_7, kR1_8, kR1_9, kR1_10, kR1_11, kR1_12, kR1_13, kC2, kG2, kP2, kR2_0, kR2_1, kC3, kG3, kP3, kR3_0, kR3_1, kR3_2, kR3_3, kL4, kA4, kS4, kL5, kA5, kS5, kL6, kA6, kS6, kL7, kA7, kS7, kC8, kG8, kP8, kR8_0, kR8_1, kL9, kA9, kS9, kL10, kA10, kS10, kC11, kG11, kP11, kR11_0, kR11_1, kR11_2, kR11_3, kL12, kA12, kS12, kL13, kA13, kS13, kL14, kA14, kS14, kL15, kA15, kS15, kC16, kG16, kP16, kR16_0, kR16_1, kL17, kA17, kS17, kL18, kA18, kS18, kC19, kG19, kP19, kR19_0, kL20, kL141, kL146, kA146, kS146, kL151, kA151, kS151, kL156, kA156, kS156, kC157, kG157, kP157, kR157_0, kR157_1, kL158, kA158, kS158, kL159, kA159, kS159, kC161, kG161, kP161, kR161_0, kR161_1, kL162, kA162, kS162, kL163, kA163, kS163, kC165, kG165, kP165, kR165_0, kR165_1, kR165_2, kR165_3, kL166, kA166, kS166, kL167, kA167, kS167, kL168, kA168, kS168, kL169, kA169, kS169, kC170, kG170, kP170, kR170_0, kR170_1, kR170_2, kL171, kA171, kS171, kL172, kA172, kS172, kL173, kA173, kS173, kC174, kG174, kP174, kR174_0, kR174_1, kR174_2, kR174_3, kR174_4, kL175, kA175, kS175, kL176, kA176, kS176, kL177, kA177, kS177, kL178, kA178, kS178, kL179, kC180, kG180, kP180, kL181, kL182, kA182, kS182, kC183, kG183, kP183, kR183_1, kR183_3, kR183_5, kR183_6, kR183_7, kR183_8, kR183_9, kR183_21, kR183_26, kR183_27, kR183_30, kR183_31, kR183_33, kR183_34, kR183_36, kR183_37, kR183_38, kR183_39, kR183_40, kR183_41, kR183_42, kR183_43, kR183_44, kL184, kA184, kS184, kL185, kA185, kS185, kL186, kA186, kS186, kL187, kA187, kS187, kL188, kA188, kS188, kL189, kL190, kL191, kA191, kS191, kL192, kA192, kS192, kL193, kA193, kS193, kL194, kA194, kS194, kL195, kA195, kS195, kL196, kA196, kS196, kL197, kA197, kS197, kL198, kA198, kS198, kL199, kA199, kS199, kL200, kA200, kS200, kL201, kL202, kA202, kS202, kL203, kA203, kS203, kL204, kA204, kS204, kL205, kL206, kA206, kS206, hG.2.2.2.2.1, hn0, hst, v.1, v.2.1, v.2.2]
  have hGW : GRD (wkI (xI σ) W.2.1 W.2.2.2 W.2.2.1) g := HW.grd
  rcases sw_c z 3 with ⟨w, hw, hw2, rfl⟩ | hd
  · obtain ⟨J, e2, H2, K2, u2⟩ := knows_ok HW
    have rW : ∀ k, wkI (xI σ) W.2.1 W.2.2.2 W.2.2.1 191 k = F k := fun k => by rw [wkI_out (by decide)]; exact (congrFun hF k).symm
    have rJ : J 191 = F := by funext k; exact (u2 191 k (by omega) (by omega)).trans (rW k)
    rw [rJ] at K2
    have hG2 : GRD J g := H2.grd
    have inW : f_X12_in (nI w) 0 2 = some 1 := by
      rw [in_02, if_neg]
      rintro (q | q)
      · exact nI_pos (by omega) q
      · rw [show (2 : Int32) = nI 2 from rfl, nn_lt (by omega) (by omega)] at q; omega
    have B : f_X12_wander (xw σ (wkI (xI σ) W.2.1 W.2.2.2 W.2.2.1)) 183 (nI m) (nI c) (nI w) = some (if w = 0 then nI W.2.1 else if w = 1 then iI W.2.2.1 else nI W.2.2.2, xw σ J) := by
      unfold f_X12_wander
      have e2' : f_X12_knows (xw σ (wkI (xI σ) W.2.1 W.2.2.2 W.2.2.1)) 183 = some (xw σ J) := e2
      have e65 : J 191 65 = nI sd := by rw [rJ]; exact o7
      have e64 : J 191 64 = nI b := by rw [rJ]; exact o4
      have eb := K2.1 b hbN
      rw [hbl, if_pos rfl] at eb
      simp (disch := first | assumption | omega) only [Option.bind_some, Option.map_some, xw_gR, xw_gN, xw_al, xw_ck, xw_uI, xw_ur, xup_at, xur_at, if_true, if_false, reduceIte, and_true, true_and, and_false, false_and, not_true_eq_false, not_false_eq_true, Nat.reduceEqDiff, eq_self, Nat.reduceAdd, Nat.reduceMul, kC1, kG1, kP1, kR1_0, kR1_1, kR1_2, kR1_3, kR1_4, kR1_5, kR1_6, kR1_7, kR1_8, kR1_9, kR1_10, kR1_11, kR1_12, kR1_13, kC2, kG2, kP2, kR2_0, kR2_1, kC3, kG3, kP3, kR3_0, kR3_1, kR3_2, kR3_3, kL4, kA4, kS4, kL5, kA5, kS5, kL6, kA6, kS6, kL7, kA7, kS7, kC8, kG8, kP8, kR8_0, kR8_1, kL9, kA9, kS9, kL10, kA10, kS10, kC11, kG11, kP11, kR11_0, kR11_1, kR11_2, kR11_3, kL12, kA12, kS12, kL13, kA13, kS13, kL14, kA14, kS14, kL15, kA15, kS15, kC16, kG16, kP16, kR16_0, kR16_1, kL17, kA17, kS17, kL18, kA18, kS18, kC19, kG19, kP19, kR19_0, kL20, kL141, kL146, kA146, kS146, kL151, kA151, kS151, kL156, kA156, kS156, kC157, kG157, kP157, kR157_0, kR157_1, kL158, kA158, kS158, kL159, kA159, kS159, kC161, kG161, kP161, kR161_0, kR161_1, kL162, kA162, kS162, kL163, kA163, kS163, kC165, kG165, kP165, kR165_0, kR165_1, kR165_2, kR165_3, kL166, kA166, kS166, kL167, kA167, kS167, kL168, kA168, kS168, kL169, kA169, kS169, kC170, kG170, kP170, kR170_0, kR170_1, kR170_2, kL171, kA171, kS171, kL172, kA172, kS172, kL173, kA173, kS173, kC174, kG174, kP174, kR174_0, kR174_1, kR174_2, kR174_3, kR174_4, kL175, kA175, kS175, kL176, kA176, kS176, kL177, kA177, kS177, kL178, kA178, kS178, kL179, kC180, kG180, kP180, kL181, kL182, kA182, kS182, kC183, kG183, kP183, kR183_1, kR183_3, kR183_5, kR183_6, kR183_7, kR183_8, kR183_9, kR183_21, kR183_26, kR183_27, kR183_30, kR183_31, kR183_33, kR183_34, kR183_36, kR183_37, kR183_38, kR183_39, kR183_40, kR183_41, kR183_42, kR183_43, kR183_44, kL184, kA184, kS184, kL185, kA185, kS185, kL186, kA186, kS186, kL187, kA187, kS187, kL188, kA188, kS188, kL189, kL190, kL191, kA191, kS191, kL192, kA192, kS192, kL193, kA193, kS193, kL194, kA194, kS194, kL195, kA195, kS195, kL196, kA196, kS196, kL197, kA197, kS197, kL198, kA198, kS198, kL199, kA199, kS199, kL200, kA200, kS200, kL201, kL202, kA202, kS202, kL203, kA203, kS203, kL204, kA204, kS204, kL205, kL206, kA206, kS206, sites_ok hS hGW, hn0, i200, hx1, one0, i100, hy1, inW, e2', show (65 : Int32) = nI 65 from rfl, show (64 : Int32) = nI 64 from rfl, e65, e64, eb, nI_i64]
      rw [wander12 hS hG2 ho K2 rJ hm2 hc2 (by omega) hbN hbl hw, ← hW]
    rw [xsw_n hw2] at A
    rcases (show w = 0 ∨ w = 1 ∨ w = 2 by omega) with rfl | rfl | rfl <;> exact ⟨_, _, _, A, B, INV_i H2.nop⟩
  · refine ⟨_, _, xw σ (wkI (xI σ) W.2.1 W.2.2.2 W.2.2.1), A.trans (hd _ _ _ (Nat.le_refl 3)), ?_, INV_i HW.nop⟩
    have inW : f_X12_in z 0 2 = some 0 := by
      rw [in_02]
      by_cases q : z < 0 ∨ 2 < z
      · rw [if_pos q]
      · exfalso
        rcases v012 (fun w => q (.inl w)) (fun w => q (.inr w)) with w | w | w
        · have := hd Nat [some 1, some 2, some 3] none (Nat.le_refl 3)
          rw [w] at this; exact absurd this (by decide)
        · have := hd Nat [some 1, some 2, some 3] none (Nat.le_refl 3)
          rw [w] at this; exact absurd this (by decide)
        · have := hd Nat [some 1, some 2, some 3] none (Nat.le_refl 3)
          rw [w] at this; exact absurd this (by decide)
    unfold f_X12_wander
    simp (disch := first | assumption | omega) only [Option.bind_some, Option.map_some, xw_gR, xw_gN, xw_al, xw_ck, xw_uI, xw_ur, xup_at, xur_at, if_true, if_false, reduceIte, and_true, true_and, and_false, false_and, not_true_eq_false, not_false_eq_true, Nat.reduceEqDiff, eq_self, Nat.reduceAdd, Nat.reduceMul, kC1, kG1, kP1, kR1_0, kR1_1, kR1_2, kR1_3, kR1_4, kR1_5, kR1_6, kR1_7, kR1_8, kR1_9, kR1_10, kR1_11, kR1_12, kR1_13, kC2, kG2, kP2, kR2_0, kR2_1, kC3, kG3, kP3, kR3_0, kR3_1, kR3_2, kR3_3, kL4, kA4, kS4, kL5, kA5, kS5, kL6, kA6, kS6, kL7, kA7, kS7, kC8, kG8, kP8, kR8_0, kR8_1, kL9, kA9, kS9, kL10, kA10, kS10, kC11, kG11, kP11, kR11_0, kR11_1, kR11_2, kR11_3, kL12, kA12, kS12, kL13, kA13, kS13, kL14, kA14, kS14, kL15, kA15, kS15, kC16, kG16, kP16, kR16_0, kR16_1, kL17, kA17, kS17, kL18, kA18, kS18, kC19, kG19, kP19, kR19_0, kL20, kL141, kL146, kA146, kS146, kL151, kA151, kS151, kL156, kA156, kS156, kC157, kG157, kP157, kR157_0, kR157_1, kL158, kA158, kS158, kL159, kA159, kS159, kC161, kG161, kP161, kR161_0, kR161_1, kL162, kA162, kS162, kL163, kA163, kS163, kC165, kG165, kP165, kR165_0, kR165_1, kR165_2, kR165_3, kL166, kA166, kS166, kL167, kA167, kS167, kL168, kA168, kS168, kL169, kA169, kS169, kC170, kG170, kP170, kR170_0, kR170_1, kR170_2, kL171, kA171, kS171, kL172, kA172, kS172, kL173, kA173, kS173, kC174, kG174, kP174, kR174_0, kR174_1, kR174_2, kR174_3, kR174_4, kL175, kA175, kS175, kL176, kA176, kS176, kL177, kA177, kS177, kL178, kA178, kS178, kL179, kC180, kG180, kP180, kL181, kL182, kA182, kS182, kC183, kG183, kP183, kR183_1, kR183_3, kR183_5, kR183_6, kR183_7, kR183_8, kR183_9, kR183_21, kR183_26, kR183_27, kR183_30, kR183_31, kR183_33, kR183_34, kR183_36, kR183_37, kR183_38, kR183_39, kR183_40, kR183_41, kR183_42, kR183_43, kR183_44, kL184, kA184, kS184, kL185, kA185, kS185, kL186, kA186, kS186, kL187, kA187, kS187, kL188, kA188, kS188, kL189, kL190, kL191, kA191, kS191, kL192, kA192, kS192, kL193, kA193, kS193, kL194, kA194, kS194, kL195, kA195, kS195, kL196, kA196, kS196, kL197, kA197, kS197, kL198, kA198, kS198, kL199, kA199, kS199, kL200, kA200, kS200, kL201, kL202, kA202, kS202, kL203, kA203, kS203, kL204, kA204, kS204, kL205, kL206, kA206, kS206, sites_ok hS hGW, hn0, i200, hx1, one0, i100, hy1, inW]
end
section
/-! overlap -/
/-- the j-th place with p below N -/
def kth (p : Nat → Bool) (N j : Nat) : Nat := fa_first (fun s => p s && decide (fb_ct p s = j)) N
theorem kth_of {p : Nat → Bool} {N s : Nat} (hs : s < N) (hp : p s = true) : kth p N (fb_ct p s) = s := by
  unfold kth
  have h1 : fa_first (fun t => p t && decide (fb_ct p t = fb_ct p s)) N < N := by
    rcases Nat.lt_or_ge (fa_first (fun t => p t && decide (fb_ct p t = fb_ct p s)) N) N with h | h
    · exact h
    · have := fa_first_no (fun t => p t && decide (fb_ct p t = fb_ct p s)) N s (by omega)
      simp [hp] at this
  have h2 := fa_first_yes (fun t => p t && decide (fb_ct p t = fb_ct p s)) N h1
  simp only [Bool.and_eq_true, decide_eq_true_eq] at h2
  exact fb_ct_kth_one h2.1 hp h2.2
theorem kth_b {p : Nat → Bool} {N j : Nat} (h : j < fb_ct p N) : kth p N j < N ∧ p (kth p N j) = true ∧ fb_ct p (kth p N j) = j := by
  obtain ⟨s, h1, h2, h3⟩ := fb_ct_kth h
  have := kth_of h1 h2
  rw [h3] at this
  rw [this]
  exact ⟨h1, h2, h3⟩
/-- pairs of the first a ground states that are alike in so much -/
def ovP (G : Nat → Nat) (x : Int32) (a b : Nat) : Bool := decide (nI (pC (G a ^^^ G b)) = x)
def ovC (G : Nat → Nat) (x : Int32) (a : Nat) : Nat := fb_sm (fun a => fb_ct (ovP G x a) a) a
theorem op_overlap : Op_overlap INV := by
  intro n σ hn ⟨g, gT, gP, st, H⟩ x
  obtain ⟨τ, I', e1, e2, H1, H2, hS, hG1, hG2, ho, hSR, hE, hL, hK, r1, r2, u1, u2⟩ := both_ready (by omega) H
  have hg := hG1.1
  have h16 := (gAll_b g hg).2.2.1
  have hSt := (gSt_b hg).1
  obtain ⟨F, hF⟩ : ∃ F, F = xI σ 191 := ⟨_, rfl⟩
  rw [← hF] at ho hSR hE hL hK
  have hlb := lvN_b g F
  obtain ⟨c, a, hEn, ha, hcn⟩ := H1.en157
  have hEb := hEn.b
  have A : f_X11_overlap σ 1 x = f_X11_overlap_j4 (xw τ (xI τ)) 1 x 165 := by
    unfold f_X11_overlap
    rw [xck_ok (sT1 H.shp), Option.bind_some, e1, Option.bind_some]
    dsimp only
    rw [xnz_ok (by decide), Option.bind_some]
    rfl
  have x16 : ∀ s t, s < 65536 → t < 65536 → s ^^^ t < 65536 := fun s t h1 h2 => Nat.xor_lt_two_pow (n := 16) h1 h2
  by_cases h0 : lvN g F = 0
  · refine ⟨0, τ, xw τ I', ?_, ?_, INV_i H2.nop⟩
    · rw [A]
      unfold f_X11_overlap_j4
      simp (disch := first | assumption | omega) only [Option.bind_some, Option.map_some, xw_gR, xw_gN, xw_al, xw_ck, xw_uI, xw_ur, xup_at, xur_at, if_true, if_false, reduceIte, and_true, true_and, and_false, false_and, not_true_eq_false, not_false_eq_true, Nat.reduceEqDiff, eq_self, Nat.reduceAdd, Nat.reduceMul, kC1, kG1, kP1, kR1_0, kR1_1, kR1_2, kR1_3, kR1_4, kR1_5, kR1_6, kR1_7, kR1_8, kR1_9, kR1_10, kR1_11, kR1_12, kR1_13, kC2, kG2, kP2, kR2_0, kR2_1, kC3, kG3, kP3, kR3_0, kR3_1, kR3_2, kR3_3, kL4, kA4, kS4, kL5, kA5, kS5, kL6, kA6, kS6, kL7, kA7, kS7, kC8, kG8, kP8, kR8_0, kR8_1, kL9, kA9, kS9, kL10, kA10, kS10, kC11, kG11, kP11, kR11_0, kR11_1, kR11_2, kR11_3, kL12, kA12, kS12, kL13, kA13, kS13, kL14, kA14, kS14, kL15, kA15, kS15, kC16, kG16, kP16, kR16_0, kR16_1, kL17, kA17, kS17, kL18, kA18, kS18, kC19, kG19, kP19, kR19_0, kL20, kL141, kL146, kA146, kS146, kL151, kA151, kS151, kL156, kA156, kS156, kC157, kG157, kP157, kR157_0, kR157_1, kL158, kA158, kS158, kL159, kA159, kS159, kC161, kG161, kP161, kR161_0, kR161_1, kL162, kA162, kS162, kL163, kA163, kS163, kC165, kG165, kP165, kR165_0, kR165_1, kR165_2, kR165_3, kL166, kA166, kS166, kL167, kA167, kS167, kL168, kA168, kS168, kL169, kA169, kS169, kC170, kG170, kP170, kR170_0, kR170_1, kR170_2, kL171, kA171, kS171, kL172, kA172, kS172, kL173, kA173, kS173, kC174, kG174, kP174, kR174_0, kR174_1, kR174_2, kR174_3, kR174_4, kL175, kA175, kS175, kL176, kA176, kS176, kL177, kA177, kS177, kL178, kA178, kS178, kL179, kC180, kG180, kP180, kL181, kL182, kA182, kS182, kC183, kG183, kP183, kR183_1, kR183_3, kR183_5, kR183_6, kR183_7, kR183_8, kR183_9, kR183_21, kR183_26, kR183_27, kR183_30, kR183_31, kR183_33, kR183_34, kR183_36, kR183_37, kR183_38, kR183_39, kR183_40, kR183_41, kR183_42, kR183_43, kR183_44, kL184, kA184, kS184, kL185, kA185, kS185, kL186, kA186, kS186, kL187, kA187, kS187, kL188, kA188, kS188, kL189, kL190, kL191, kA191, kS191, kL192, kA192, kS192, kL193, kA193, kS193, kL194, kA194, kS194, kL195, kA195, kS195, kL196, kA196, kS196, kL197, kA197, kS197, kL198, kA198, kS198, kL199, kA199, kS199, kL200, kA200, kS200, kL201, kL202, kA202, kS202, kL203, kA203, kS203, kL204, kA204, kS204, kL205, kL206, kA206, kS206, hL.2.2.2.1, h0, n00]
      rfl
    · unfold f_X12_overlap
      rw [xck_ok (sT183 hS), Option.bind_some, e2, Option.bind_some]
      simp (disch := first | assumption | omega) only [Option.bind_some, Option.map_some, xw_gR, xw_gN, xw_al, xw_ck, xw_uI, xw_ur, xup_at, xur_at, if_true, if_false, reduceIte, and_true, true_and, and_false, false_and, not_true_eq_false, not_false_eq_true, Nat.reduceEqDiff, eq_self, Nat.reduceAdd, Nat.reduceMul, kC1, kG1, kP1, kR1_0, kR1_1, kR1_2, kR1_3, kR1_4, kR1_5, kR1_6, kR1_7, kR1_8, kR1_9, kR1_10, kR1_11, kR1_12, kR1_13, kC2, kG2, kP2, kR2_0, kR2_1, kC3, kG3, kP3, kR3_0, kR3_1, kR3_2, kR3_3, kL4, kA4, kS4, kL5, kA5, kS5, kL6, kA6, kS6, kL7, kA7, kS7, kC8, kG8, kP8, kR8_0, kR8_1, kL9, kA9, kS9, kL10, kA10, kS10, kC11, kG11, kP11, kR11_0, kR11_1, kR11_2, kR11_3, kL12, kA12, kS12, kL13, kA13, kS13, kL14, kA14, kS14, kL15, kA15, kS15, kC16, kG16, kP16, kR16_0, kR16_1, kL17, kA17, kS17, kL18, kA18, kS18, kC19, kG19, kP19, kR19_0, kL20, kL141, kL146, kA146, kS146, kL151, kA151, kS151, kL156, kA156, kS156, kC157, kG157, kP157, kR157_0, kR157_1, kL158, kA158, kS158, kL159, kA159, kS159, kC161, kG161, kP161, kR161_0, kR161_1, kL162, kA162, kS162, kL163, kA163, kS163, kC165, kG165, kP165, kR165_0, kR165_1, kR165_2, kR165_3, kL166, kA166, kS166, kL167, kA167, kS167, kL168, kA168, kS168, kL169, kA169, kS169, kC170, kG170, kP170, kR170_0, kR170_1, kR170_2, kL171, kA171, kS171, kL172, kA172, kS172, kL173, kA173, kS173, kC174, kG174, kP174, kR174_0, kR174_1, kR174_2, kR174_3, kR174_4, kL175, kA175, kS175, kL176, kA176, kS176, kL177, kA177, kS177, kL178, kA178, kS178, kL179, kC180, kG180, kP180, kL181, kL182, kA182, kS182, kC183, kG183, kP183, kR183_1, kR183_3, kR183_5, kR183_6, kR183_7, kR183_8, kR183_9, kR183_21, kR183_26, kR183_27, kR183_30, kR183_31, kR183_33, kR183_34, kR183_36, kR183_37, kR183_38, kR183_39, kR183_40, kR183_41, kR183_42, kR183_43, kR183_44, kL184, kA184, kS184, kL185, kA185, kS185, kL186, kA186, kS186, kL187, kA187, kS187, kL188, kA188, kS188, kL189, kL190, kL191, kA191, kS191, kL192, kA192, kS192, kL193, kA193, kS193, kL194, kA194, kS194, kL195, kA195, kS195, kL196, kA196, kS196, kL197, kA197, kS197, kL198, kA198, kS198, kL199, kA199, kS199, kL200, kA200, kS200, kL201, kL202, kA202, kS202, kL203, kA203, kS203, kL204, kA204, kS204, kL205, kL206, kA206, kS206, hK.2.2.1, h0, n00]
  have hn0 : (nI (lvN g F) = 0) = False := eq_false (nI_ne0 (by omega) (by omega))
  obtain ⟨k, hk, hp, hki⟩ := lv_first (g := g) (F := F) (by omega)
  have q0 : I' 198 0 = iI ((k : Int) - 144) := by rw [← hki]; exact hK.2.2.2 k hk hp
  have hen := energyOf_ok (σ := τ) (J := xI τ) hS hL hk hp
  rw [hki, show nI 0 = (0 : Int32) from rfl] at hen
  have z0 : ∀ J, xaI (xw τ J) 20 198 (0 : Int32) = some (J 198 0) := fun J => kA198 hS (i := 0) (by decide)
  obtain ⟨p, hpd⟩ : ∃ p, p = lE g F ((k : Int) - 144) := ⟨_, rfl⟩
  have hCd : lC g F ((k : Int) - 144) = fb_ct p (gSt g) := by rw [hpd]; rfl
  have hCb := lC_b hg F ((k : Int) - 144)
  by_cases hbig : fb_ct p (gSt g) ≤ 256
  · obtain ⟨G, hGd⟩ : ∃ G, G = kth p (gSt g) := ⟨_, rfl⟩
    have Gof : ∀ s, s < gSt g → p s = true → G (fb_ct p s) = s := fun s h1 h2 => by rw [hGd]; exact kth_of h1 h2
    have Gb : ∀ j, j < fb_ct p (gSt g) → G j < gSt g := fun j h => by rw [hGd]; exact (kth_b h).1
    have hle : ∀ s, s ≤ gSt g → fb_ct p s ≤ fb_ct p (gSt g) := fun s h => fb_ct_mono p h
    have hle256 : (nI (fb_ct p (gSt g)) ≤ (256 : Int32)) = True := by
      rw [show (256 : Int32) = nI 256 from rfl, nn_le (by omega) (by omega)]; exact eq_true hbig
    -- the class's list
    have list : ∃ Q, f_X11_listGround (xw τ (xI τ)) 1 (iI ((k : Int) - 144)) = some (nI (fb_ct p (gSt g)), xw τ Q) ∧ (∀ j, j < fb_ct p (gSt g) → Q 182 j = nI (G j)) ∧ ∀ a j, a ≠ 182 → Q a j = xI τ a j := by
      unfold f_X11_listGround
      simp (disch := first | assumption | omega) only [Option.bind_some, Option.map_some, xw_gR, xw_gN, xw_al, xw_ck, xw_uI, xw_ur, xup_at, xur_at, if_true, if_false, reduceIte, and_true, true_and, and_false, false_and, not_true_eq_false, not_false_eq_true, Nat.reduceEqDiff, eq_self, Nat.reduceAdd, Nat.reduceMul, kC1, kG1, kP1, kR1_0, kR1_1, kR1_2, kR1_3, kR1_4, kR1_5, kR1_6, kR1_7, kR1_8, kR1_9, kR1_10, kR1_11, kR1_12, kR1_13, kC2, kG2, kP2, kR2_0, kR2_1, kC3, kG3, kP3, kR3_0, kR3_1, kR3_2, kR3_3, kL4, kA4, kS4, kL5, kA5, kS5, kL6, kA6, kS6, kL7, kA7, kS7, kC8, kG8, kP8, kR8_0, kR8_1, kL9, kA9, kS9, kL10, kA10, kS10, kC11, kG11, kP11, kR11_0, kR11_1, kR11_2, kR11_3, kL12, kA12, kS12, kL13, kA13, kS13, kL14, kA14, kS14, kL15, kA15, kS15, kC16, kG16, kP16, kR16_0, kR16_1, kL17, kA17, kS17, kL18, kA18, kS18, kC19, kG19, kP19, kR19_0, kL20, kL141, kL146, kA146, kS146, kL151, kA151, kS151, kL156, kA156, kS156, kC157, kG157, kP157, kR157_0, kR157_1, kL158, kA158, kS158, kL159, kA159, kS159, kC161, kG161, kP161, kR161_0, kR161_1, kL162, kA162, kS162, kL163, kA163, kS163, kC165, kG165, kP165, kR165_0, kR165_1, kR165_2, kR165_3, kL166, kA166, kS166, kL167, kA167, kS167, kL168, kA168, kS168, kL169, kA169, kS169, kC170, kG170, kP170, kR170_0, kR170_1, kR170_2, kL171, kA171, kS171, kL172, kA172, kS172, kL173, kA173, kS173, kC174, kG174, kP174, kR174_0, kR174_1, kR174_2, kR174_3, kR174_4, kL175, kA175, kS175, kL176, kA176, kS176, kL177, kA177, kS177, kL178, kA178, kS178, kL179, kC180, kG180, kP180, kL181, kL182, kA182, kS182, kC183, kG183, kP183, kR183_1, kR183_3, kR183_5, kR183_6, kR183_7, kR183_8, kR183_9, kR183_21, kR183_26, kR183_27, kR183_30, kR183_31, kR183_33, kR183_34, kR183_36, kR183_37, kR183_38, kR183_39, kR183_40, kR183_41, kR183_42, kR183_43, kR183_44, kL184, kA184, kS184, kL185, kA185, kS185, kL186, kA186, kS186, kL187, kA187, kS187, kL188, kA188, kS188, kL189, kL190, kL191, kA191, kS191, kL192, kA192, kS192, kL193, kA193, kS193, kL194, kA194, kS194, kL195, kA195, kS195, kL196, kA196, kS196, kL197, kA197, kS197, kL198, kA198, kS198, kL199, kA199, kS199, kL200, kA200, kS200, kL201, kL202, kA202, kS202, kL203, kA203, kS203, kL204, kA204, kS204, kL205, kL206, kA206, kS206, states11_ok hS hG1]
      have key : ∃ y, xloop (f_X11_listGround_b13 1 (iI ((k : Int) - 144)) (nI (gSt g))) (nI 0, nI 0, xw τ (xI τ)) = some y ∧ ∃ Q, y = (nI (fb_ct p (gSt g)), xw τ Q) ∧ (∀ j, j < fb_ct p (gSt g) → Q 182 j = nI (G j)) ∧ ∀ a j, a ≠ 182 → Q a j = xI τ a j := by
        have fin : ∀ s Q, s ≤ gSt g → (∀ t, s ≤ t → t < gSt g → p t = false) → (∀ j, j < fb_ct p s → Q 182 j = nI (G j)) → (nI (fb_ct p s), xw τ Q) = (nI (fb_ct p (gSt g)), xw τ Q) ∧ (∀ j, j < fb_ct p (gSt g) → Q 182 j = nI (G j)) := by
          intro s Q hs hno hq
          have : fb_ct p (gSt g) = fb_ct p s := by
            have h1 := fb_ct_split p s (gSt g - s)
            rw [show s + (gSt g - s) = gSt g by omega] at h1
            rw [h1, fb_ct_zero.mpr (fun j hj => hno (s + j) (by omega) (by omega))]; rfl
          rw [this]
          exact ⟨rfl, hq⟩
        have gen : ∀ m s Q, s + m = gSt g → (∀ j, j < fb_ct p s → Q 182 j = nI (G j)) → (∀ a j, a ≠ 182 → Q a j = xI τ a j) → ∃ y, xloop (f_X11_listGround_b13 1 (iI ((k : Int) - 144)) (nI (gSt g))) (nI (fb_ct p s), nI s, xw τ Q) = some y ∧ ∃ Q, y = (nI (fb_ct p (gSt g)), xw τ Q) ∧ (∀ j, j < fb_ct p (gSt g) → Q 182 j = nI (G j)) ∧ ∀ a j, a ≠ 182 → Q a j = xI τ a j := by
          intro m
          induction m with
          | zero =>
            intro s Q hs hq1 hq2
            have : s = gSt g := by omega
            subst this
            refine ⟨_, xloop_end ?_, Q, rfl, hq1, hq2⟩
            simp only [f_X11_listGround_b13]
            rw [if_pos (by rw [nn_le (by omega) (by omega)]; exact Nat.le_refl _)]
            rfl
          | succ m ih =>
            intro s Q hs hq1 hq2
            have hsN : s < gSt g := by omega
            have hb := eE_b hg ho s
            have hq : (iI (eE g (zR F) s) = iI ((k : Int) - 144)) = (eE g (zR F) s = (k : Int) - 144) := iI_eq (by omega) (by omega) (by omega) (by omega)
            have hSQ : SR g Q 16 F := SR_m hg (fun k _ _ => hq2 _ k (by omega)) (fun k _ => hq2 _ k (by omega)) (fun k _ => hq2 _ k (by omega)) (fun k _ => rfl) hSR
            have hEQ : ENK Q (xR τ) (xlen τ) 157 g F := ENK_c (fun k => hq2 _ k (by rw [hEn.2.1]; omega)) hE
            have hcs := fb_ct_le p s
            have hcs2 := hle s (by omega)
            have hps : p s = (lW g F s && decide (eE g (zR F) s = (k : Int) - 144)) := by rw [hpd]; rfl
            by_cases hps1 : p s = true
            · have hlt : fb_ct p s < 256 := by
                have := hle (s + 1) (by omega)
                rw [fb_ct_succ, hps1] at this
                simp at this
                omega
              rw [hps, Bool.and_eq_true, decide_eq_true_eq] at hps1
              have hps2 : p s = true := by rw [hps, hps1.1]; simp [hps1.2]
              have stp : f_X11_listGround_b13 1 (iI ((k : Int) - 144)) (nI (gSt g)) (nI (fb_ct p s), nI s, xw τ Q) = some (.inl (nI (fb_ct p (s + 1)), nI (s + 1), xw τ (xup Q 182 (fb_ct p s) (nI s)))) := by
                simp only [f_X11_listGround_b13]
                rw [if_neg (by rw [nn_le (by omega) (by omega)]; omega)]
                simp (disch := first | assumption | omega) only [Option.bind_some, Option.map_some, xw_gR, xw_gN, xw_al, xw_ck, xw_uI, xw_ur, xup_at, xur_at, if_true, if_false, reduceIte, and_true, true_and, and_false, false_and, not_true_eq_false, not_false_eq_true, Nat.reduceEqDiff, eq_self, Nat.reduceAdd, Nat.reduceMul, kC1, kG1, kP1, kR1_0, kR1_1, kR1_2, kR1_3, kR1_4, kR1_5, kR1_6, kR1_7, kR1_8, kR1_9, kR1_10, kR1_11, kR1_12, kR1_13, kC2, kG2, kP2, kR2_0, kR2_1, kC3, kG3, kP3, kR3_0, kR3_1, kR3_2, kR3_3, kL4, kA4, kS4, kL5, kA5, kS5, kL6, kA6, kS6, kL7, kA7, kS7, kC8, kG8, kP8, kR8_0, kR8_1, kL9, kA9, kS9, kL10, kA10, kS10, kC11, kG11, kP11, kR11_0, kR11_1, kR11_2, kR11_3, kL12, kA12, kS12, kL13, kA13, kS13, kL14, kA14, kS14, kL15, kA15, kS15, kC16, kG16, kP16, kR16_0, kR16_1, kL17, kA17, kS17, kL18, kA18, kS18, kC19, kG19, kP19, kR19_0, kL20, kL141, kL146, kA146, kS146, kL151, kA151, kS151, kL156, kA156, kS156, kC157, kG157, kP157, kR157_0, kR157_1, kL158, kA158, kS158, kL159, kA159, kS159, kC161, kG161, kP161, kR161_0, kR161_1, kL162, kA162, kS162, kL163, kA163, kS163, kC165, kG165, kP165, kR165_0, kR165_1, kR165_2, kR165_3, kL166, kA166, kS166, kL167, kA167, kS167, kL168, kA168, kS168, kL169, kA169, kS169, kC170, kG170, kP170, kR170_0, kR170_1, kR170_2, kL171, kA171, kS171, kL172, kA172, kS172, kL173, kA173, kS173, kC174, kG174, kP174, kR174_0, kR174_1, kR174_2, kR174_3, kR174_4, kL175, kA175, kS175, kL176, kA176, kS176, kL177, kA177, kS177, kL178, kA178, kS178, kL179, kC180, kG180, kP180, kL181, kL182, kA182, kS182, kC183, kG183, kP183, kR183_1, kR183_3, kR183_5, kR183_6, kR183_7, kR183_8, kR183_9, kR183_21, kR183_26, kR183_27, kR183_30, kR183_31, kR183_33, kR183_34, kR183_36, kR183_37, kR183_38, kR183_39, kR183_40, kR183_41, kR183_42, kR183_43, kR183_44, kL184, kA184, kS184, kL185, kA185, kS185, kL186, kA186, kS186, kL187, kA187, kS187, kL188, kA188, kS188, kL189, kL190, kL191, kA191, kS191, kL192, kA192, kS192, kL193, kA193, kS193, kL194, kA194, kS194, kL195, kA195, kS195, kL196, kA196, kS196, kL197, kA197, kS197, kL198, kA198, kS198, kL199, kA199, kS199, kL200, kA200, kS200, kL201, kL202, kA202, kS202, kL203, kA203, kS203, kL204, kA204, kS204, kL205, kL206, kA206, kS206, nn_le, show ¬ (256 ≤ fb_ct p s) by omega, allows_ok hS hg suA_16 hSQ, of_ok hS hEn hEQ (gSt_pos hsN).2, hq, hps1.1, hps1.2, one0]
                rw [fb_ct_succ, hps2, ← nI_succ, ← nI_succ]
                rfl
              rw [xloop_step stp]
              refine ih (s + 1) _ (by omega) (fun j hj => ?_) (fun a j h => by rw [xup_at, if_neg (by omega)]; exact hq2 a j h)
              rw [fb_ct_succ, hps2] at hj
              simp at hj
              rw [xup_at]
              by_cases z : j = fb_ct p s
              · rw [if_pos ⟨rfl, z⟩, z, Gof s hsN hps2]
              · rw [if_neg (by omega)]; exact hq1 j (by omega)
            · have hps2 : p s = false := Bool.not_eq_true _ ▸ hps1
              have hct : fb_ct p (s + 1) = fb_ct p s := by rw [fb_ct_succ, hps2]; rfl
              by_cases hfull : 256 ≤ fb_ct p s
              · -- the row is full: nothing more may come
                refine ⟨_, xloop_end (b := (nI (fb_ct p s), xw τ Q)) ?_, Q, ?_⟩
                · simp only [f_X11_listGround_b13]
                  rw [if_neg (by rw [nn_le (by omega) (by omega)]; omega)]
                  simp (disch := first | assumption | omega) only [Option.bind_some, Option.map_some, xw_gR, xw_gN, xw_al, xw_ck, xw_uI, xw_ur, xup_at, xur_at, if_true, if_false, reduceIte, and_true, true_and, and_false, false_and, not_true_eq_false, not_false_eq_true, Nat.reduceEqDiff, eq_self, Nat.reduceAdd, Nat.reduceMul, kC1, kG1, kP1, kR1_0, kR1_1, kR1_2, kR1_3, kR1_4, kR1_5, kR1_6, kR1_7, kR1_8, kR1_9, kR1_10, kR1_11, kR1_12, kR1_13, kC2, kG2, kP2, kR2_0, kR2_1, kC3, kG3, kP3, kR3_0, kR3_1, kR3_2, kR3_3, kL4, kA4, kS4, kL5, kA5, kS5, kL6, kA6, kS6, kL7, kA7, kS7, kC8, kG8, kP8, kR8_0, kR8_1, kL9, kA9, kS9, kL10, kA10, kS10, kC11, kG11, kP11, kR11_0, kR11_1, kR11_2, kR11_3, kL12, kA12, kS12, kL13, kA13, kS13, kL14, kA14, kS14, kL15, kA15, kS15, kC16, kG16, kP16, kR16_0, kR16_1, kL17, kA17, kS17, kL18, kA18, kS18, kC19, kG19, kP19, kR19_0, kL20, kL141, kL146, kA146, kS146, kL151, kA151, kS151, kL156, kA156, kS156, kC157, kG157, kP157, kR157_0, kR157_1, kL158, kA158, kS158, kL159, kA159, kS159, kC161, kG161, kP161, kR161_0, kR161_1, kL162, kA162, kS162, kL163, kA163, kS163, kC165, kG165, kP165, kR165_0, kR165_1, kR165_2, kR165_3, kL166, kA166, kS166, kL167, kA167, kS167, kL168, kA168, kS168, kL169, kA169, kS169, kC170, kG170, kP170, kR170_0, kR170_1, kR170_2, kL171, kA171, kS171, kL172, kA172, kS172, kL173, kA173, kS173, kC174, kG174, kP174, kR174_0, kR174_1, kR174_2, kR174_3, kR174_4, kL175, kA175, kS175, kL176, kA176, kS176, kL177, kA177, kS177, kL178, kA178, kS178, kL179, kC180, kG180, kP180, kL181, kL182, kA182, kS182, kC183, kG183, kP183, kR183_1, kR183_3, kR183_5, kR183_6, kR183_7, kR183_8, kR183_9, kR183_21, kR183_26, kR183_27, kR183_30, kR183_31, kR183_33, kR183_34, kR183_36, kR183_37, kR183_38, kR183_39, kR183_40, kR183_41, kR183_42, kR183_43, kR183_44, kL184, kA184, kS184, kL185, kA185, kS185, kL186, kA186, kS186, kL187, kA187, kS187, kL188, kA188, kS188, kL189, kL190, kL191, kA191, kS191, kL192, kA192, kS192, kL193, kA193, kS193, kL194, kA194, kS194, kL195, kA195, kS195, kL196, kA196, kS196, kL197, kA197, kS197, kL198, kA198, kS198, kL199, kA199, kS199, kL200, kA200, kS200, kL201, kL202, kA202, kS202, kL203, kA203, kS203, kL204, kA204, kS204, kL205, kL206, kA206, kS206, nn_le, hfull]
                · have hno : ∀ t, s ≤ t → t < gSt g → p t = false := by
                    intro t h1 h2
                    cases hpt : p t with
                    | false => rfl
                    | true =>
                      have h3 := hle (t + 1) (by omega)
                      rw [fb_ct_succ, hpt] at h3
                      have h4 := fb_ct_mono p h1
                      simp at h3
                      omega
                  have := fin s Q (by omega) hno hq1
                  exact ⟨this.1, this.2, hq2⟩
              · have stp : f_X11_listGround_b13 1 (iI ((k : Int) - 144)) (nI (gSt g)) (nI (fb_ct p s), nI s, xw τ Q) = some (.inl (nI (fb_ct p (s + 1)), nI (s + 1), xw τ Q)) := by
                  simp only [f_X11_listGround_b13]
                  rw [if_neg (by rw [nn_le (by omega) (by omega)]; omega)]
                  simp (disch := first | assumption | omega) only [Option.bind_some, Option.map_some, xw_gR, xw_gN, xw_al, xw_ck, xw_uI, xw_ur, xup_at, xur_at, if_true, if_false, reduceIte, and_true, true_and, and_false, false_and, not_true_eq_false, not_false_eq_true, Nat.reduceEqDiff, eq_self, Nat.reduceAdd, Nat.reduceMul, kC1, kG1, kP1, kR1_0, kR1_1, kR1_2, kR1_3, kR1_4, kR1_5, kR1_6, kR1_7, kR1_8, kR1_9, kR1_10, kR1_11, kR1_12, kR1_13, kC2, kG2, kP2, kR2_0, kR2_1, kC3, kG3, kP3, kR3_0, kR3_1, kR3_2, kR3_3, kL4, kA4, kS4, kL5, kA5, kS5, kL6, kA6, kS6, kL7, kA7, kS7, kC8, kG8, kP8, kR8_0, kR8_1, kL9, kA9, kS9, kL10, kA10, kS10, kC11, kG11, kP11, kR11_0, kR11_1, kR11_2, kR11_3, kL12, kA12, kS12, kL13, kA13, kS13, kL14, kA14, kS14, kL15, kA15, kS15, kC16, kG16, kP16, kR16_0, kR16_1, kL17, kA17, kS17, kL18, kA18, kS18, kC19, kG19, kP19, kR19_0, kL20, kL141, kL146, kA146, kS146, kL151, kA151, kS151, kL156, kA156, kS156, kC157, kG157, kP157, kR157_0, kR157_1, kL158, kA158, kS158, kL159, kA159, kS159, kC161, kG161, kP161, kR161_0, kR161_1, kL162, kA162, kS162, kL163, kA163, kS163, kC165, kG165, kP165, kR165_0, kR165_1, kR165_2, kR165_3, kL166, kA166, kS166, kL167, kA167, kS167, kL168, kA168, kS168, kL169, kA169, kS169, kC170, kG170, kP170, kR170_0, kR170_1, kR170_2, kL171, kA171, kS171, kL172, kA172, kS172, kL173, kA173, kS173, kC174, kG174, kP174, kR174_0, kR174_1, kR174_2, kR174_3, kR174_4, kL175, kA175, kS175, kL176, kA176, kS176, kL177, kA177, kS177, kL178, kA178, kS178, kL179, kC180, kG180, kP180, kL181, kL182, kA182, kS182, kC183, kG183, kP183, kR183_1, kR183_3, kR183_5, kR183_6, kR183_7, kR183_8, kR183_9, kR183_21, kR183_26, kR183_27, kR183_30, kR183_31, kR183_33, kR183_34, kR183_36, kR183_37, kR183_38, kR183_39, kR183_40, kR183_41, kR183_42, kR183_43, kR183_44, kL184, kA184, kS184, kL185, kA185, kS185, kL186, kA186, kS186, kL187, kA187, kS187, kL188, kA188, kS188, kL189, kL190, kL191, kA191, kS191, kL192, kA192, kS192, kL193, kA193, kS193, kL194, kA194, kS194, kL195, kA195, kS195, kL196, kA196, kS196, kL197, kA197, kS197, kL198, kA198, kS198, kL199, kA199, kS199, kL200, kA200, kS200, kL201, kL202, kA202, kS202, kL203, kA203, kS203, kL204, kA204, kS204, kL205, kL206, kA206, kS206, nn_le, hfull, allows_ok hS hg suA_16 hSQ, of_ok hS hEn hEQ (gSt_pos hsN).2, hq]
                  rw [hct, ← nI_succ]
                  rw [hps] at hps2
                  cases hw : lW g F s with
                  | false => simp
                  | true =>
                    rw [hw] at hps2
                    have : ¬ eE g (zR F) s = (k : Int) - 144 := by simpa using hps2
                    simp [this]
                rw [xloop_step stp]
                exact ih (s + 1) Q (by omega) (fun j hj => hq1 j (by rw [← hct]; exact hj)) hq2
        exact gen (gSt g) 0 (xI τ) (by omega) (fun j hj => by have : fb_ct p 0 = 0 := rfl; omega) (fun _ _ _ => rfl)
      obtain ⟨y, k1, Q, rfl, k2⟩ := key
      exact ⟨Q, k1, k2⟩
    obtain ⟨Q, l1, l2, l3⟩ := list
    have HQ : IV n (xw τ Q) g gT gP st := H1.walk (fun a j h => l3 a j (by omega))
    obtain ⟨J, e3, H3, K3, u3⟩ := knows_ok HQ
    have rJ : J 191 = F := by rw [hF, ← r1]; funext j; exact (u3 191 j (by omega) (by omega)).trans (l3 191 j (by omega))
    rw [rJ] at K3
    have hG3 : GRD J g := H3.grd
    have q3 : J 198 0 = iI ((k : Int) - 144) := by rw [← hki]; exact K3.2.2.2 k hk hp
    -- the model's run
    have run : ∃ R, xloop (f_X12_overlap_b44 183 x) ((0 : Int32), (0 : Int32), (0 : Int32), xw τ J) = some (nI (ovC G x (fb_ct p (gSt g))), xw τ R) ∧ ∀ a j, a ≠ 206 → R a j = J a j := by
      have key : ∃ y, xloop (f_X12_overlap_b44 183 x) (nI 0, nI 0, nI 0, xw τ J) = some y ∧ ∃ R, y = (nI (ovC G x (fb_ct p (gSt g))), xw τ R) ∧ ∀ a j, a ≠ 206 → R a j = J a j := by
        refine xforI (fun s y => ∃ R, y = (nI (fb_ct p s), nI (ovC G x (fb_ct p s)), nI s, xw τ R) ∧ (∀ j, j < fb_ct p s → R 206 j = nI (G j)) ∧ ∀ a j, a ≠ 206 → R a j = J a j) (gSt g) ⟨J, rfl, fun j hj => by have : fb_ct p 0 = 0 := rfl; omega, fun _ _ _ => rfl⟩ ?_ ?_
        · rintro s y hs ⟨R, rfl, h1, h2⟩
          have hGR : GRD R g := GRD_c (fun a j z => h2 a j (by unfold sGRD at z; omega)) hG3
          have hv : R 196 s = if lW g F s then iI (eE g (zR F) s) else nI 100000 := (h2 196 s (by omega)).trans (K3.1 s hs)
          have hq := knE hg ho (e := (k : Int) - 144) (by omega) (by omega) s
          rw [← hpd] at hq
          have hz : R 198 0 = iI ((k : Int) - 144) := (h2 198 0 (by omega)).trans q3
          have hcs := fb_ct_le p s
          simp only [f_X12_overlap_b44]
          simp (disch := first | assumption | omega) only [Option.bind_some, Option.map_some, xw_gR, xw_gN, xw_al, xw_ck, xw_uI, xw_ur, xup_at, xur_at, if_true, if_false, reduceIte, and_true, true_and, and_false, false_and, not_true_eq_false, not_false_eq_true, Nat.reduceEqDiff, eq_self, Nat.reduceAdd, Nat.reduceMul, kC1, kG1, kP1, kR1_0, kR1_1, kR1_2, kR1_3, kR1_4, kR1_5, kR1_6, kR1_7, kR1_8, kR1_9, kR1_10, kR1_11, kR1_12, kR1_13, kC2, kG2, kP2, kR2_0, kR2_1, kC3, kG3, kP3, kR3_0, kR3_1, kR3_2, kR3_3, kL4, kA4, kS4, kL5, kA5, kS5, kL6, kA6, kS6, kL7, kA7, kS7, kC8, kG8, kP8, kR8_0, kR8_1, kL9, kA9, kS9, kL10, kA10, kS10, kC11, kG11, kP11, kR11_0, kR11_1, kR11_2, kR11_3, kL12, kA12, kS12, kL13, kA13, kS13, kL14, kA14, kS14, kL15, kA15, kS15, kC16, kG16, kP16, kR16_0, kR16_1, kL17, kA17, kS17, kL18, kA18, kS18, kC19, kG19, kP19, kR19_0, kL20, kL141, kL146, kA146, kS146, kL151, kA151, kS151, kL156, kA156, kS156, kC157, kG157, kP157, kR157_0, kR157_1, kL158, kA158, kS158, kL159, kA159, kS159, kC161, kG161, kP161, kR161_0, kR161_1, kL162, kA162, kS162, kL163, kA163, kS163, kC165, kG165, kP165, kR165_0, kR165_1, kR165_2, kR165_3, kL166, kA166, kS166, kL167, kA167, kS167, kL168, kA168, kS168, kL169, kA169, kS169, kC170, kG170, kP170, kR170_0, kR170_1, kR170_2, kL171, kA171, kS171, kL172, kA172, kS172, kL173, kA173, kS173, kC174, kG174, kP174, kR174_0, kR174_1, kR174_2, kR174_3, kR174_4, kL175, kA175, kS175, kL176, kA176, kS176, kL177, kA177, kS177, kL178, kA178, kS178, kL179, kC180, kG180, kP180, kL181, kL182, kA182, kS182, kC183, kG183, kP183, kR183_1, kR183_3, kR183_5, kR183_6, kR183_7, kR183_8, kR183_9, kR183_21, kR183_26, kR183_27, kR183_30, kR183_31, kR183_33, kR183_34, kR183_36, kR183_37, kR183_38, kR183_39, kR183_40, kR183_41, kR183_42, kR183_43, kR183_44, kL184, kA184, kS184, kL185, kA185, kS185, kL186, kA186, kS186, kL187, kA187, kS187, kL188, kA188, kS188, kL189, kL190, kL191, kA191, kS191, kL192, kA192, kS192, kL193, kA193, kS193, kL194, kA194, kS194, kL195, kA195, kS195, kL196, kA196, kS196, kL197, kA197, kS197, kL198, kA198, kS198, kL199, kA199, kS199, kL200, kA200, kS200, kL201, kL202, kA202, kS202, kL203, kA203, kS203, kL204, kA204, kS204, kL205, kL206, kA206, kS206, states12_ok hS hGR, nn_le, show ¬ (gSt g ≤ s) by omega, hv, z0 R, hz, hq]
          by_cases hps : p s = true
          · rw [if_pos hps]
            have hlt : fb_ct p s < fb_ct p (gSt g) := by
              have := hle (s + 1) (by omega)
              rw [fb_ct_succ, hps] at this
              simp at this
              omega
            have hin : xloop (f_X12_overlap_b75 (xw τ R) 183 x (nI (fb_ct p s)) (nI s)) (nI (ovC G x (fb_ct p s)), (0 : Int32)) = some (.inl (nI (fb_ct p s + 1), nI (ovC G x (fb_ct p s + 1)), nI (s + 1), xw τ (xup R 206 (fb_ct p s) (nI s)))) := by
              refine xforE (fun b : Nat => (nI (ovC G x (fb_ct p s) + fb_ct (ovP G x (fb_ct p s)) b), nI b)) (fb_ct p s) rfl (fun b hb => ?_) ?_
              · simp only [f_X12_overlap_b75]
                have hGb := Gb b (by omega)
                rw [if_neg (by rw [nn_le (by omega) (by omega)]; omega)]
                simp (disch := first | assumption | omega) only [Option.bind_some, Option.map_some, xw_gR, xw_gN, xw_al, xw_ck, xw_uI, xw_ur, xup_at, xur_at, if_true, if_false, reduceIte, and_true, true_and, and_false, false_and, not_true_eq_false, not_false_eq_true, Nat.reduceEqDiff, eq_self, Nat.reduceAdd, Nat.reduceMul, kC1, kG1, kP1, kR1_0, kR1_1, kR1_2, kR1_3, kR1_4, kR1_5, kR1_6, kR1_7, kR1_8, kR1_9, kR1_10, kR1_11, kR1_12, kR1_13, kC2, kG2, kP2, kR2_0, kR2_1, kC3, kG3, kP3, kR3_0, kR3_1, kR3_2, kR3_3, kL4, kA4, kS4, kL5, kA5, kS5, kL6, kA6, kS6, kL7, kA7, kS7, kC8, kG8, kP8, kR8_0, kR8_1, kL9, kA9, kS9, kL10, kA10, kS10, kC11, kG11, kP11, kR11_0, kR11_1, kR11_2, kR11_3, kL12, kA12, kS12, kL13, kA13, kS13, kL14, kA14, kS14, kL15, kA15, kS15, kC16, kG16, kP16, kR16_0, kR16_1, kL17, kA17, kS17, kL18, kA18, kS18, kC19, kG19, kP19, kR19_0, kL20, kL141, kL146, kA146, kS146, kL151, kA151, kS151, kL156, kA156, kS156, kC157, kG157, kP157, kR157_0, kR157_1, kL158, kA158, kS158, kL159, kA159, kS159, kC161, kG161, kP161, kR161_0, kR161_1, kL162, kA162, kS162, kL163, kA163, kS163, kC165, kG165, kP165, kR165_0, kR165_1, kR165_2, kR165_3, kL166, kA166, kS166, kL167, kA167, kS167, kL168, kA168, kS168, kL169, kA169, kS169, kC170, kG170, kP170, kR170_0, kR170_1, kR170_2, kL171, kA171, kS171, kL172, kA172, kS172, kL173, kA173, kS173, kC174, kG174, kP174, kR174_0, kR174_1, kR174_2, kR174_3, kR174_4, kL175, kA175, kS175, kL176, kA176, kS176, kL177, kA177, kS177, kL178, kA178, kS178, kL179, kC180, kG180, kP180, kL181, kL182, kA182, kS182, kC183, kG183, kP183, kR183_1, kR183_3, kR183_5, kR183_6, kR183_7, kR183_8, kR183_9, kR183_21, kR183_26, kR183_27, kR183_30, kR183_31, kR183_33, kR183_34, kR183_36, kR183_37, kR183_38, kR183_39, kR183_40, kR183_41, kR183_42, kR183_43, kR183_44, kL184, kA184, kS184, kL185, kA185, kS185, kL186, kA186, kS186, kL187, kA187, kS187, kL188, kA188, kS188, kL189, kL190, kL191, kA191, kS191, kL192, kA192, kS192, kL193, kA193, kS193, kL194, kA194, kS194, kL195, kA195, kS195, kL196, kA196, kS196, kL197, kA197, kS197, kL198, kA198, kS198, kL199, kA199, kS199, kL200, kA200, kS200, kL201, kL202, kA202, kS202, kL203, kA203, kS203, kL204, kA204, kS204, kL205, kL206, kA206, kS206, h1 b hb, nn_xor, bitsOf_ok (x16 s (G b) (by omega) (by omega))]
                rw [fb_ct_succ, ← nI_succ, ← nI_succ]
                unfold ovP
                rw [Gof s hs hps]
                by_cases hc : nI (pC (s ^^^ G b)) = x
                · rw [if_pos hc]; simp [hc]; rfl
                · rw [if_neg hc]; simp [hc]
              · simp only [f_X12_overlap_b75]
                rw [if_pos (by rw [nn_le (by omega) (by omega)]; exact Nat.le_refl _)]
                simp (disch := first | assumption | omega) only [Option.bind_some, Option.map_some, xw_gR, xw_gN, xw_al, xw_ck, xw_uI, xw_ur, xup_at, xur_at, if_true, if_false, reduceIte, and_true, true_and, and_false, false_and, not_true_eq_false, not_false_eq_true, Nat.reduceEqDiff, eq_self, Nat.reduceAdd, Nat.reduceMul, kC1, kG1, kP1, kR1_0, kR1_1, kR1_2, kR1_3, kR1_4, kR1_5, kR1_6, kR1_7, kR1_8, kR1_9, kR1_10, kR1_11, kR1_12, kR1_13, kC2, kG2, kP2, kR2_0, kR2_1, kC3, kG3, kP3, kR3_0, kR3_1, kR3_2, kR3_3, kL4, kA4, kS4, kL5, kA5, kS5, kL6, kA6, kS6, kL7, kA7, kS7, kC8, kG8, kP8, kR8_0, kR8_1, kL9, kA9, kS9, kL10, kA10, kS10, kC11, kG11, kP11, kR11_0, kR11_1, kR11_2, kR11_3, kL12, kA12, kS12, kL13, kA13, kS13, kL14, kA14, kS14, kL15, kA15, kS15, kC16, kG16, kP16, kR16_0, kR16_1, kL17, kA17, kS17, kL18, kA18, kS18, kC19, kG19, kP19, kR19_0, kL20, kL141, kL146, kA146, kS146, kL151, kA151, kS151, kL156, kA156, kS156, kC157, kG157, kP157, kR157_0, kR157_1, kL158, kA158, kS158, kL159, kA159, kS159, kC161, kG161, kP161, kR161_0, kR161_1, kL162, kA162, kS162, kL163, kA163, kS163, kC165, kG165, kP165, kR165_0, kR165_1, kR165_2, kR165_3, kL166, kA166, kS166, kL167, kA167, kS167, kL168, kA168, kS168, kL169, kA169, kS169, kC170, kG170, kP170, kR170_0, kR170_1, kR170_2, kL171, kA171, kS171, kL172, kA172, kS172, kL173, kA173, kS173, kC174, kG174, kP174, kR174_0, kR174_1, kR174_2, kR174_3, kR174_4, kL175, kA175, kS175, kL176, kA176, kS176, kL177, kA177, kS177, kL178, kA178, kS178, kL179, kC180, kG180, kP180, kL181, kL182, kA182, kS182, kC183, kG183, kP183, kR183_1, kR183_3, kR183_5, kR183_6, kR183_7, kR183_8, kR183_9, kR183_21, kR183_26, kR183_27, kR183_30, kR183_31, kR183_33, kR183_34, kR183_36, kR183_37, kR183_38, kR183_39, kR183_40, kR183_41, kR183_42, kR183_43, kR183_44, kL184, kA184, kS184, kL185, kA185, kS185, kL186, kA186, kS186, kL187, kA187, kS187, kL188, kA188, kS188, kL189, kL190, kL191, kA191, kS191, kL192, kA192, kS192, kL193, kA193, kS193, kL194, kA194, kS194, kL195, kA195, kS195, kL196, kA196, kS196, kL197, kA197, kS197, kL198, kA198, kS198, kL199, kA199, kS199, kL200, kA200, kS200, kL201, kL202, kA202, kS202, kL203, kA203, kS203, kL204, kA204, kS204, kL205, kL206, kA206, kS206, ← nI_succ]
                rfl
            rw [hin]
            have hct : fb_ct p (s + 1) = fb_ct p s + 1 := by rw [fb_ct_succ, hps]; rfl
            refine ⟨_, rfl, _, by rw [hct], fun j hj => ?_, fun a j h => by rw [xup_at, if_neg (by omega)]; exact h2 a j h⟩
            rw [hct] at hj
            rw [xup_at]
            by_cases z : j = fb_ct p s
            · rw [if_pos ⟨rfl, z⟩, z, Gof s hs hps]
            · rw [if_neg (by omega)]; exact h1 j (by omega)
          · rw [if_neg hps]
            have hps2 : p s = false := Bool.not_eq_true _ ▸ hps
            have hct : fb_ct p (s + 1) = fb_ct p s := by rw [fb_ct_succ, hps2]; rfl
            exact ⟨_, rfl, R, by rw [hct, nI_succ], fun j hj => h1 j (by rw [← hct]; exact hj), h2⟩
        · rintro y ⟨R, rfl, h1, h2⟩
          have hGR : GRD R g := GRD_c (fun a j z => h2 a j (by unfold sGRD at z; omega)) hG3
          refine ⟨_, ?_, R, rfl, h2⟩
          simp only [f_X12_overlap_b44]
          simp (disch := first | assumption | omega) only [Option.bind_some, Option.map_some, xw_gR, xw_gN, xw_al, xw_ck, xw_uI, xw_ur, xup_at, xur_at, if_true, if_false, reduceIte, and_true, true_and, and_false, false_and, not_true_eq_false, not_false_eq_true, Nat.reduceEqDiff, eq_self, Nat.reduceAdd, Nat.reduceMul, kC1, kG1, kP1, kR1_0, kR1_1, kR1_2, kR1_3, kR1_4, kR1_5, kR1_6, kR1_7, kR1_8, kR1_9, kR1_10, kR1_11, kR1_12, kR1_13, kC2, kG2, kP2, kR2_0, kR2_1, kC3, kG3, kP3, kR3_0, kR3_1, kR3_2, kR3_3, kL4, kA4, kS4, kL5, kA5, kS5, kL6, kA6, kS6, kL7, kA7, kS7, kC8, kG8, kP8, kR8_0, kR8_1, kL9, kA9, kS9, kL10, kA10, kS10, kC11, kG11, kP11, kR11_0, kR11_1, kR11_2, kR11_3, kL12, kA12, kS12, kL13, kA13, kS13, kL14, kA14, kS14, kL15, kA15, kS15, kC16, kG16, kP16, kR16_0, kR16_1, kL17, kA17, kS17, kL18, kA18, kS18, kC19, kG19, kP19, kR19_0, kL20, kL141, kL146, kA146, kS146, kL151, kA151, kS151, kL156, kA156, kS156, kC157, kG157, kP157, kR157_0, kR157_1, kL158, kA158, kS158, kL159, kA159, kS159, kC161, kG161, kP161, kR161_0, kR161_1, kL162, kA162, kS162, kL163, kA163, kS163, kC165, kG165, kP165, kR165_0, kR165_1, kR165_2, kR165_3, kL166, kA166, kS166, kL167, kA167, kS167, kL168, kA168, kS168, kL169, kA169, kS169, kC170, kG170, kP170, kR170_0, kR170_1, kR170_2, kL171, kA171, kS171, kL172, kA172, kS172, kL173, kA173, kS173, kC174, kG174, kP174, kR174_0, kR174_1, kR174_2, kR174_3, kR174_4, kL175, kA175, kS175, kL176, kA176, kS176, kL177, kA177, kS177, kL178, kA178, kS178, kL179, kC180, kG180, kP180, kL181, kL182, kA182, kS182, kC183, kG183, kP183, kR183_1, kR183_3, kR183_5, kR183_6, kR183_7, kR183_8, kR183_9, kR183_21, kR183_26, kR183_27, kR183_30, kR183_31, kR183_33, kR183_34, kR183_36, kR183_37, kR183_38, kR183_39, kR183_40, kR183_41, kR183_42, kR183_43, kR183_44, kL184, kA184, kS184, kL185, kA185, kS185, kL186, kA186, kS186, kL187, kA187, kS187, kL188, kA188, kS188, kL189, kL190, kL191, kA191, kS191, kL192, kA192, kS192, kL193, kA193, kS193, kL194, kA194, kS194, kL195, kA195, kS195, kL196, kA196, kS196, kL197, kA197, kS197, kL198, kA198, kS198, kL199, kA199, kS199, kL200, kA200, kS200, kL201, kL202, kA202, kS202, kL203, kA203, kS203, kL204, kA204, kS204, kL205, kL206, kA206, kS206, states12_ok hS hGR, nn_le, Nat.le_refl]
      obtain ⟨y, k1, R, rfl, k2⟩ := key
      exact ⟨R, k1, k2⟩
    obtain ⟨R, t1, t2⟩ := run
    have H4 : IV n (xw τ R) g gT gP st := by
      refine H3.model (fun a j h => t2 a j (by omega)) (KNW_c hg (fun a j q => t2 a j (by unfold sKNW at q; omega)) H3.knw)
    refine ⟨nI (ovC G x (fb_ct p (gSt g))), xw τ Q, xw τ R, ?_, ?_, INV_i H4.nop⟩
    · rw [A]
      unfold f_X11_overlap_j4
      simp (disch := first | assumption | omega) only [Option.bind_some, Option.map_some, xw_gR, xw_gN, xw_al, xw_ck, xw_uI, xw_ur, xup_at, xur_at, if_true, if_false, reduceIte, and_true, true_and, and_false, false_and, not_true_eq_false, not_false_eq_true, Nat.reduceEqDiff, eq_self, Nat.reduceAdd, Nat.reduceMul, kC1, kG1, kP1, kR1_0, kR1_1, kR1_2, kR1_3, kR1_4, kR1_5, kR1_6, kR1_7, kR1_8, kR1_9, kR1_10, kR1_11, kR1_12, kR1_13, kC2, kG2, kP2, kR2_0, kR2_1, kC3, kG3, kP3, kR3_0, kR3_1, kR3_2, kR3_3, kL4, kA4, kS4, kL5, kA5, kS5, kL6, kA6, kS6, kL7, kA7, kS7, kC8, kG8, kP8, kR8_0, kR8_1, kL9, kA9, kS9, kL10, kA10, kS10, kC11, kG11, kP11, kR11_0, kR11_1, kR11_2, kR11_3, kL12, kA12, kS12, kL13, kA13, kS13, kL14, kA14, kS14, kL15, kA15, kS15, kC16, kG16, kP16, kR16_0, kR16_1, kL17, kA17, kS17, kL18, kA18, kS18, kC19, kG19, kP19, kR19_0, kL20, kL141, kL146, kA146, kS146, kL151, kA151, kS151, kL156, kA156, kS156, kC157, kG157, kP157, kR157_0, kR157_1, kL158, kA158, kS158, kL159, kA159, kS159, kC161, kG161, kP161, kR161_0, kR161_1, kL162, kA162, kS162, kL163, kA163, kS163, kC165, kG165, kP165, kR165_0, kR165_1, kR165_2, kR165_3, kL166, kA166, kS166, kL167, kA167, kS167, kL168, kA168, kS168, kL169, kA169, kS169, kC170, kG170, kP170, kR170_0, kR170_1, kR170_2, kL171, kA171, kS171, kL172, kA172, kS172, kL173, kA173, kS173, kC174, kG174, kP174, kR174_0, kR174_1, kR174_2, kR174_3, kR174_4, kL175, kA175, kS175, kL176, kA176, kS176, kL177, kA177, kS177, kL178, kA178, kS178, kL179, kC180, kG180, kP180, kL181, kL182, kA182, kS182, kC183, kG183, kP183, kR183_1, kR183_3, kR183_5, kR183_6, kR183_7, kR183_8, kR183_9, kR183_21, kR183_26, kR183_27, kR183_30, kR183_31, kR183_33, kR183_34, kR183_36, kR183_37, kR183_38, kR183_39, kR183_40, kR183_41, kR183_42, kR183_43, kR183_44, kL184, kA184, kS184, kL185, kA185, kS185, kL186, kA186, kS186, kL187, kA187, kS187, kL188, kA188, kS188, kL189, kL190, kL191, kA191, kS191, kL192, kA192, kS192, kL193, kA193, kS193, kL194, kA194, kS194, kL195, kA195, kS195, kL196, kA196, kS196, kL197, kA197, kS197, kL198, kA198, kS198, kL199, kA199, kS199, kL200, kA200, kS200, kL201, kL202, kA202, kS202, kL203, kA203, kS203, kL204, kA204, kS204, kL205, kL206, kA206, kS206, hL.2.2.2.1, hn0, hen, waysOf_ok hS hL hk, hCd, hle256, l1]
      refine xforE (fun a : Nat => (nI (ovC G x a), nI a)) (fb_ct p (gSt g)) rfl (fun a ha => ?_) ?_
      · simp only [f_X11_overlap_b48]
        rw [if_neg (by rw [nn_le (by omega) (by omega)]; omega)]
        simp (disch := first | assumption | omega) only [Option.bind_some, Option.map_some, xw_gR, xw_gN, xw_al, xw_ck, xw_uI, xw_ur, xup_at, xur_at, if_true, if_false, reduceIte, and_true, true_and, and_false, false_and, not_true_eq_false, not_false_eq_true, Nat.reduceEqDiff, eq_self, Nat.reduceAdd, Nat.reduceMul, kC1, kG1, kP1, kR1_0, kR1_1, kR1_2, kR1_3, kR1_4, kR1_5, kR1_6, kR1_7, kR1_8, kR1_9, kR1_10, kR1_11, kR1_12, kR1_13, kC2, kG2, kP2, kR2_0, kR2_1, kC3, kG3, kP3, kR3_0, kR3_1, kR3_2, kR3_3, kL4, kA4, kS4, kL5, kA5, kS5, kL6, kA6, kS6, kL7, kA7, kS7, kC8, kG8, kP8, kR8_0, kR8_1, kL9, kA9, kS9, kL10, kA10, kS10, kC11, kG11, kP11, kR11_0, kR11_1, kR11_2, kR11_3, kL12, kA12, kS12, kL13, kA13, kS13, kL14, kA14, kS14, kL15, kA15, kS15, kC16, kG16, kP16, kR16_0, kR16_1, kL17, kA17, kS17, kL18, kA18, kS18, kC19, kG19, kP19, kR19_0, kL20, kL141, kL146, kA146, kS146, kL151, kA151, kS151, kL156, kA156, kS156, kC157, kG157, kP157, kR157_0, kR157_1, kL158, kA158, kS158, kL159, kA159, kS159, kC161, kG161, kP161, kR161_0, kR161_1, kL162, kA162, kS162, kL163, kA163, kS163, kC165, kG165, kP165, kR165_0, kR165_1, kR165_2, kR165_3, kL166, kA166, kS166, kL167, kA167, kS167, kL168, kA168, kS168, kL169, kA169, kS169, kC170, kG170, kP170, kR170_0, kR170_1, kR170_2, kL171, kA171, kS171, kL172, kA172, kS172, kL173, kA173, kS173, kC174, kG174, kP174, kR174_0, kR174_1, kR174_2, kR174_3, kR174_4, kL175, kA175, kS175, kL176, kA176, kS176, kL177, kA177, kS177, kL178, kA178, kS178, kL179, kC180, kG180, kP180, kL181, kL182, kA182, kS182, kC183, kG183, kP183, kR183_1, kR183_3, kR183_5, kR183_6, kR183_7, kR183_8, kR183_9, kR183_21, kR183_26, kR183_27, kR183_30, kR183_31, kR183_33, kR183_34, kR183_36, kR183_37, kR183_38, kR183_39, kR183_40, kR183_41, kR183_42, kR183_43, kR183_44, kL184, kA184, kS184, kL185, kA185, kS185, kL186, kA186, kS186, kL187, kA187, kS187, kL188, kA188, kS188, kL189, kL190, kL191, kA191, kS191, kL192, kA192, kS192, kL193, kA193, kS193, kL194, kA194, kS194, kL195, kA195, kS195, kL196, kA196, kS196, kL197, kA197, kS197, kL198, kA198, kS198, kL199, kA199, kS199, kL200, kA200, kS200, kL201, kL202, kA202, kS202, kL203, kA203, kS203, kL204, kA204, kS204, kL205, kL206, kA206, kS206, nn_le, show ¬ (256 ≤ a) by omega]
        refine xforE (fun b : Nat => (nI (ovC G x a + fb_ct (ovP G x a) b), nI b)) a rfl (fun b hb => ?_) ?_
        · simp only [f_X11_overlap_b67]
          have hGa := Gb a ha
          have hGb := Gb b (by omega)
          rw [if_neg (by rw [nn_le (by omega) (by omega)]; omega)]
          simp (disch := first | assumption | omega) only [Option.bind_some, Option.map_some, xw_gR, xw_gN, xw_al, xw_ck, xw_uI, xw_ur, xup_at, xur_at, if_true, if_false, reduceIte, and_true, true_and, and_false, false_and, not_true_eq_false, not_false_eq_true, Nat.reduceEqDiff, eq_self, Nat.reduceAdd, Nat.reduceMul, kC1, kG1, kP1, kR1_0, kR1_1, kR1_2, kR1_3, kR1_4, kR1_5, kR1_6, kR1_7, kR1_8, kR1_9, kR1_10, kR1_11, kR1_12, kR1_13, kC2, kG2, kP2, kR2_0, kR2_1, kC3, kG3, kP3, kR3_0, kR3_1, kR3_2, kR3_3, kL4, kA4, kS4, kL5, kA5, kS5, kL6, kA6, kS6, kL7, kA7, kS7, kC8, kG8, kP8, kR8_0, kR8_1, kL9, kA9, kS9, kL10, kA10, kS10, kC11, kG11, kP11, kR11_0, kR11_1, kR11_2, kR11_3, kL12, kA12, kS12, kL13, kA13, kS13, kL14, kA14, kS14, kL15, kA15, kS15, kC16, kG16, kP16, kR16_0, kR16_1, kL17, kA17, kS17, kL18, kA18, kS18, kC19, kG19, kP19, kR19_0, kL20, kL141, kL146, kA146, kS146, kL151, kA151, kS151, kL156, kA156, kS156, kC157, kG157, kP157, kR157_0, kR157_1, kL158, kA158, kS158, kL159, kA159, kS159, kC161, kG161, kP161, kR161_0, kR161_1, kL162, kA162, kS162, kL163, kA163, kS163, kC165, kG165, kP165, kR165_0, kR165_1, kR165_2, kR165_3, kL166, kA166, kS166, kL167, kA167, kS167, kL168, kA168, kS168, kL169, kA169, kS169, kC170, kG170, kP170, kR170_0, kR170_1, kR170_2, kL171, kA171, kS171, kL172, kA172, kS172, kL173, kA173, kS173, kC174, kG174, kP174, kR174_0, kR174_1, kR174_2, kR174_3, kR174_4, kL175, kA175, kS175, kL176, kA176, kS176, kL177, kA177, kS177, kL178, kA178, kS178, kL179, kC180, kG180, kP180, kL181, kL182, kA182, kS182, kC183, kG183, kP183, kR183_1, kR183_3, kR183_5, kR183_6, kR183_7, kR183_8, kR183_9, kR183_21, kR183_26, kR183_27, kR183_30, kR183_31, kR183_33, kR183_34, kR183_36, kR183_37, kR183_38, kR183_39, kR183_40, kR183_41, kR183_42, kR183_43, kR183_44, kL184, kA184, kS184, kL185, kA185, kS185, kL186, kA186, kS186, kL187, kA187, kS187, kL188, kA188, kS188, kL189, kL190, kL191, kA191, kS191, kL192, kA192, kS192, kL193, kA193, kS193, kL194, kA194, kS194, kL195, kA195, kS195, kL196, kA196, kS196, kL197, kA197, kS197, kL198, kA198, kS198, kL199, kA199, kS199, kL200, kA200, kS200, kL201, kL202, kA202, kS202, kL203, kA203, kS203, kL204, kA204, kS204, kL205, kL206, kA206, kS206, l2 a ha, l2 b (show b < fb_ct p (gSt g) by omega), nn_xor, bitCount_ok (x16 (G a) (G b) (by omega) (by omega))]
          rw [fb_ct_succ, ← nI_succ, ← nI_succ]
          unfold ovP
          by_cases hc : nI (pC (G a ^^^ G b)) = x
          · rw [if_pos hc]; simp [hc]; rfl
          · rw [if_neg hc]; simp [hc]
        · simp only [f_X11_overlap_b67]
          rw [if_pos (by rw [nn_le (by omega) (by omega)]; exact Nat.le_refl _), ← nI_succ]
          rfl
      · simp only [f_X11_overlap_b48]
        rw [if_pos (by rw [nn_le (by omega) (by omega)]; exact Nat.le_refl _)]
        rfl
    · unfold f_X12_overlap
      rw [xck_ok (show xT (xw τ Q) 183 = 12 from sT183 hS), Option.bind_some, e3, Option.bind_some]
      show ((xgI (xw τ J) 183 12 35).bind fun v5 => _) = _
      simp (disch := first | assumption | omega) only [Option.bind_some, Option.map_some, xw_gR, xw_gN, xw_al, xw_ck, xw_uI, xw_ur, xup_at, xur_at, if_true, if_false, reduceIte, and_true, true_and, and_false, false_and, not_true_eq_false, not_false_eq_true, Nat.reduceEqDiff, eq_self, Nat.reduceAdd, Nat.reduceMul, kC1, kG1, kP1, kR1_0, kR1_1, kR1_2, kR1_3, kR1_4, kR1_5, kR1_6, kR1_7, kR1_8, kR1_9, kR1_10, kR1_11, kR1_12, kR1_13, kC2, kG2, kP2, kR2_0, kR2_1, kC3, kG3, kP3, kR3_0, kR3_1, kR3_2, kR3_3, kL4, kA4, kS4, kL5, kA5, kS5, kL6, kA6, kS6, kL7, kA7, kS7, kC8, kG8, kP8, kR8_0, kR8_1, kL9, kA9, kS9, kL10, kA10, kS10, kC11, kG11, kP11, kR11_0, kR11_1, kR11_2, kR11_3, kL12, kA12, kS12, kL13, kA13, kS13, kL14, kA14, kS14, kL15, kA15, kS15, kC16, kG16, kP16, kR16_0, kR16_1, kL17, kA17, kS17, kL18, kA18, kS18, kC19, kG19, kP19, kR19_0, kL20, kL141, kL146, kA146, kS146, kL151, kA151, kS151, kL156, kA156, kS156, kC157, kG157, kP157, kR157_0, kR157_1, kL158, kA158, kS158, kL159, kA159, kS159, kC161, kG161, kP161, kR161_0, kR161_1, kL162, kA162, kS162, kL163, kA163, kS163, kC165, kG165, kP165, kR165_0, kR165_1, kR165_2, kR165_3, kL166, kA166, kS166, kL167, kA167, kS167, kL168, kA168, kS168, kL169, kA169, kS169, kC170, kG170, kP170, kR170_0, kR170_1, kR170_2, kL171, kA171, kS171, kL172, kA172, kS172, kL173, kA173, kS173, kC174, kG174, kP174, kR174_0, kR174_1, kR174_2, kR174_3, kR174_4, kL175, kA175, kS175, kL176, kA176, kS176, kL177, kA177, kS177, kL178, kA178, kS178, kL179, kC180, kG180, kP180, kL181, kL182, kA182, kS182, kC183, kG183, kP183, kR183_1, kR183_3, kR183_5, kR183_6, kR183_7, kR183_8, kR183_9, kR183_21, kR183_26, kR183_27, kR183_30, kR183_31, kR183_33, kR183_34, kR183_36, kR183_37, kR183_38, kR183_39, kR183_40, kR183_41, kR183_42, kR183_43, kR183_44, kL184, kA184, kS184, kL185, kA185, kS185, kL186, kA186, kS186, kL187, kA187, kS187, kL188, kA188, kS188, kL189, kL190, kL191, kA191, kS191, kL192, kA192, kS192, kL193, kA193, kS193, kL194, kA194, kS194, kL195, kA195, kS195, kL196, kA196, kS196, kL197, kA197, kS197, kL198, kA198, kS198, kL199, kA199, kS199, kL200, kA200, kS200, kL201, kL202, kA202, kS202, kL203, kA203, kS203, kL204, kA204, kS204, kL205, kL206, kA206, kS206, xw_w, K3.2.2.1, hn0, z0 J, q3, e150, many12 K3 hk, hCd, hle256]
      exact t1
  · have hle256 : (nI (fb_ct p (gSt g)) ≤ (256 : Int32)) = False := by
      rw [show (256 : Int32) = nI 256 from rfl, nn_le (by omega) (by omega)]; exact eq_false hbig
    refine ⟨-2, τ, xw τ I', ?_, ?_, INV_i H2.nop⟩
    · rw [A]
      unfold f_X11_overlap_j4
      simp (disch := first | assumption | omega) only [Option.bind_some, Option.map_some, xw_gR, xw_gN, xw_al, xw_ck, xw_uI, xw_ur, xup_at, xur_at, if_true, if_false, reduceIte, and_true, true_and, and_false, false_and, not_true_eq_false, not_false_eq_true, Nat.reduceEqDiff, eq_self, Nat.reduceAdd, Nat.reduceMul, kC1, kG1, kP1, kR1_0, kR1_1, kR1_2, kR1_3, kR1_4, kR1_5, kR1_6, kR1_7, kR1_8, kR1_9, kR1_10, kR1_11, kR1_12, kR1_13, kC2, kG2, kP2, kR2_0, kR2_1, kC3, kG3, kP3, kR3_0, kR3_1, kR3_2, kR3_3, kL4, kA4, kS4, kL5, kA5, kS5, kL6, kA6, kS6, kL7, kA7, kS7, kC8, kG8, kP8, kR8_0, kR8_1, kL9, kA9, kS9, kL10, kA10, kS10, kC11, kG11, kP11, kR11_0, kR11_1, kR11_2, kR11_3, kL12, kA12, kS12, kL13, kA13, kS13, kL14, kA14, kS14, kL15, kA15, kS15, kC16, kG16, kP16, kR16_0, kR16_1, kL17, kA17, kS17, kL18, kA18, kS18, kC19, kG19, kP19, kR19_0, kL20, kL141, kL146, kA146, kS146, kL151, kA151, kS151, kL156, kA156, kS156, kC157, kG157, kP157, kR157_0, kR157_1, kL158, kA158, kS158, kL159, kA159, kS159, kC161, kG161, kP161, kR161_0, kR161_1, kL162, kA162, kS162, kL163, kA163, kS163, kC165, kG165, kP165, kR165_0, kR165_1, kR165_2, kR165_3, kL166, kA166, kS166, kL167, kA167, kS167, kL168, kA168, kS168, kL169, kA169, kS169, kC170, kG170, kP170, kR170_0, kR170_1, kR170_2, kL171, kA171, kS171, kL172, kA172, kS172, kL173, kA173, kS173, kC174, kG174, kP174, kR174_0, kR174_1, kR174_2, kR174_3, kR174_4, kL175, kA175, kS175, kL176, kA176, kS176, kL177, kA177, kS177, kL178, kA178, kS178, kL179, kC180, kG180, kP180, kL181, kL182, kA182, kS182, kC183, kG183, kP183, kR183_1, kR183_3, kR183_5, kR183_6, kR183_7, kR183_8, kR183_9, kR183_21, kR183_26, kR183_27, kR183_30, kR183_31, kR183_33, kR183_34, kR183_36, kR183_37, kR183_38, kR183_39, kR183_40, kR183_41, kR183_42, kR183_43, kR183_44, kL184, kA184, kS184, kL185, kA185, kS185, kL186, kA186, kS186, kL187, kA187, kS187, kL188, kA188, kS188, kL189, kL190, kL191, kA191, kS191, kL192, kA192, kS192, kL193, kA193, kS193, kL194, kA194, kS194, kL195, kA195, kS195, kL196, kA196, kS196, kL197, kA197, kS197, kL198, kA198, kS198, kL199, kA199, kS199, kL200, kA200, kS200, kL201, kL202, kA202, kS202, kL203, kA203, kS203, kL204, kA204, kS204, kL205, kL206, kA206, kS206, hL.2.2.2.1, hn0, hen, waysOf_ok hS hL hk, hCd, hle256]
      rfl
    · unfold f_X12_overlap
      rw [xck_ok (sT183 hS), Option.bind_some, e2, Option.bind_some]
      simp (disch := first | assumption | omega) only [Option.bind_some, Option.map_some, xw_gR, xw_gN, xw_al, xw_ck, xw_uI, xw_ur, xup_at, xur_at, if_true, if_false, reduceIte, and_true, true_and, and_false, false_and, not_true_eq_false, not_false_eq_true, Nat.reduceEqDiff, eq_self, Nat.reduceAdd, Nat.reduceMul, kC1, kG1, kP1, kR1_0, kR1_1, kR1_2, kR1_3, kR1_4, kR1_5, kR1_6, kR1_7, kR1_8, kR1_9, kR1_10, kR1_11, kR1_12, kR1_13, kC2, kG2, kP2, kR2_0, kR2_1, kC3, kG3, kP3, kR3_0, kR3_1, kR3_2, kR3_3, kL4, kA4, kS4, kL5, kA5, kS5, kL6, kA6, kS6, kL7, kA7, kS7, kC8, kG8, kP8, kR8_0, kR8_1, kL9, kA9, kS9, kL10, kA10, kS10, kC11, kG11, kP11, kR11_0, kR11_1, kR11_2, kR11_3, kL12, kA12, kS12, kL13, kA13, kS13, kL14, kA14, kS14, kL15, kA15, kS15, kC16, kG16, kP16, kR16_0, kR16_1, kL17, kA17, kS17, kL18, kA18, kS18, kC19, kG19, kP19, kR19_0, kL20, kL141, kL146, kA146, kS146, kL151, kA151, kS151, kL156, kA156, kS156, kC157, kG157, kP157, kR157_0, kR157_1, kL158, kA158, kS158, kL159, kA159, kS159, kC161, kG161, kP161, kR161_0, kR161_1, kL162, kA162, kS162, kL163, kA163, kS163, kC165, kG165, kP165, kR165_0, kR165_1, kR165_2, kR165_3, kL166, kA166, kS166, kL167, kA167, kS167, kL168, kA168, kS168, kL169, kA169, kS169, kC170, kG170, kP170, kR170_0, kR170_1, kR170_2, kL171, kA171, kS171, kL172, kA172, kS172, kL173, kA173, kS173, kC174, kG174, kP174, kR174_0, kR174_1, kR174_2, kR174_3, kR174_4, kL175, kA175, kS175, kL176, kA176, kS176, kL177, kA177, kS177, kL178, kA178, kS178, kL179, kC180, kG180, kP180, kL181, kL182, kA182, kS182, kC183, kG183, kP183, kR183_1, kR183_3, kR183_5, kR183_6, kR183_7, kR183_8, kR183_9, kR183_21, kR183_26, kR183_27, kR183_30, kR183_31, kR183_33, kR183_34, kR183_36, kR183_37, kR183_38, kR183_39, kR183_40, kR183_41, kR183_42, kR183_43, kR183_44, kL184, kA184, kS184, kL185, kA185, kS185, kL186, kA186, kS186, kL187, kA187, kS187, kL188, kA188, kS188, kL189, kL190, kL191, kA191, kS191, kL192, kA192, kS192, kL193, kA193, kS193, kL194, kA194, kS194, kL195, kA195, kS195, kL196, kA196, kS196, kL197, kA197, kS197, kL198, kA198, kS198, kL199, kA199, kS199, kL200, kA200, kS200, kL201, kL202, kA202, kS202, kL203, kA203, kS203, kL204, kA204, kS204, kL205, kL206, kA206, kS206, hK.2.2.1, hn0, z0 I', q0, e150, many12 hK hk, hCd, hle256]
end
section
/-! filling the energies that lie aside -/
theorem IV.aside {n : Nat} {σ τ : XS} {g : GD} {gT gP : GH} {st : Nat} (H : IV n σ g gT gP st) {c b k : Nat} {g' : GD} {G : Nat → Int} {I1 : Nat → Nat → Int32} (hE : EnO σ 161 c (2 ^ b)) (u1 : ∀ a k, a ≠ 172 → I1 a k = xI σ a k) (hτ : FlR σ I1 161 g' G k b τ) : IV n τ g gT gP st := by
  obtain ⟨hτS, ⟨c', b', hE', f1, f2, f3, f4, f5, f6, f7, f8, f9⟩, f10, f11, f12, f13⟩ := hτ
  have hS := H.shp
  have h206 := hS.1
  have hEb' := hE'.b
  obtain ⟨a0, b0, h1, h2, h3, h4, h5, h6, h7, h8, h9, h10, h11⟩ := H.cel
  have hne : c' ≠ xR σ 157 4 := by
    rcases f5 with z | z
    · rw [z]; exact fun q => h7 q.symm
    · omega
  have fr : ∀ a j, a ≤ xn σ → a ≠ c' → (a < 161 ∨ 163 < a) → a ≠ 172 → xI τ a j = xI σ a j := fun a j q1 q2 q3 q4 => by rw [f9 a j q2 q1 (by omega), u1 a j q4]
  have r157 : xR τ 157 4 = xR σ 157 4 := f12 157 4 (by omega) (by omega)
  refine H.cache hτS (fun a j h => fr a j (by omega) (by omega) (by omega) (by omega)) ?_ ?_
  · obtain ⟨c1, c2, c3, c4⟩ := H.cch
    refine ⟨?_, ?_, ?_, ?_⟩
    · rw [fr 157 5 (by omega) (by omega) (by omega) (by omega)]
      rcases c1 with z | ⟨t, z1, z2, z3, z4⟩
      · exact .inl z
      · refine .inr ⟨t, z1, z2, ?_, fun s hs => ?_⟩
        · rw [r157]
          unfold xlen
          rw [f11 _ h8]
          exact z3
        · rw [r157, fr _ _ h8 hne.symm (by omega) (by omega)]
          exact z4 s hs
    · rw [fr 165 5 (by omega) (by omega) (by omega) (by omega)]
      rcases c2 with z | ⟨q, z1, z2, z3⟩
      · exact .inl z
      · exact .inr ⟨q, z1, z2, LVK_c (fun a j h => fr a j (by omega) (by omega) (by omega) (by omega)) z3⟩
    · rw [fr 170 3 (by omega) (by omega) (by omega) (by omega)]
      rcases c3 with z | ⟨q, z1, z2, z3⟩
      · exact .inl z
      · exact .inr ⟨q, z1, z2, BRK_c (fun j => fr 171 j (by omega) (by omega) (by omega) (by omega)) z3⟩
    · rw [fr 174 10 (by omega) (by omega) (by omega) (by omega)]
      rcases c4 with z | ⟨q, z1, z2, z3⟩
      · exact .inl z
      · refine .inr ⟨q, z1, z2, ?_⟩
        intro hs
        have := TRK_c (I' := xI τ) (fun a j h => fr a j (by omega) (by omega) (by omega) (by omega)) z3 hs
        rw [f12 174 5 (by omega) (by omega), f12 174 6 (by omega) (by omega)]
        exact this
  · have eb : b0 = b := by
      have q := hE.2.2.1
      rw [hE.2.1] at h4
      rw [h4] at q
      have q2 := congrArg Prod.snd q
      exact Nat.le_antisymm ((Nat.pow_le_pow_iff_right (by decide)).mp (Nat.le_of_eq q2)) ((Nat.pow_le_pow_iff_right (by decide)).mp (Nat.le_of_eq q2.symm))
    refine ⟨a0, b', h1, f2, ?_, ?_, ?_, ?_, ?_, ?_, ?_, ?_, ?_, fun k hk => (f13 190 k (by omega)).trans (h11.2 k hk)⟩
    · rw [r157, f11 _ h8]; exact h3
    · rw [hE'.2.1]; exact hE'.2.2.1
    · rw [r157]; exact h5
    · rw [hE'.2.1]; exact hE'.2.2.2.2
    · rw [hE'.2.1, r157]; exact fun q => hne q.symm
    · rw [r157]; omega
    · rw [hE'.2.1]; exact f4
    · omega
    · omega
theorem IV.brk {n : Nat} {σ : XS} {g : GD} {gT gP : GH} {st : Nat} (H : IV n σ g gT gP st) {Q : Nat → Nat → Int32} (u : ∀ a k, ¬ (170 ≤ a ∧ a ≤ 171) → Q a k = xI σ a k) (hb : Q 170 3 = -1 ∨ ∃ p, p ≤ st ∧ Q 170 3 = nI p ∧ BRK Q (gP p).1 (gP p).2) : IV n (xw σ Q) g gT gP st := by
  have hc := H.cells
  refine H.cache H.shp (fun a k h => u a k (by omega)) ?_ H.cel
  obtain ⟨c1, c2, c3, c4⟩ := H.cch
  refine ⟨?_, ?_, hb, ?_⟩
  · rw [xw_I, u 157 5 (by omega)]
    rcases c1 with z | ⟨q, z1, z2, z3⟩
    · exact .inl z
    · exact .inr ⟨q, z1, z2, ENK_c (R := xR σ) (fun k => u _ k (by omega)) z3⟩
  · rw [xw_I, u 165 5 (by omega)]
    rcases c2 with z | ⟨q, z1, z2, z3⟩
    · exact .inl z
    · exact .inr ⟨q, z1, z2, LVK_c (fun a k h => u _ k (by omega)) z3⟩
  · rw [xw_I, u 174 10 (by omega)]
    rcases c4 with z | ⟨q, z1, z2, z3⟩
    · exact .inl z
    · exact .inr ⟨q, z1, z2, TRK_c (fun a k h => u _ k (by omega)) z3⟩
/-! breaks -/
def sgn (z : Int) : Int := if 0 < z then 1 else if z < 0 then -1 else 0
theorem signum_ok {x : Int32} (h1 : -3 ≤ x.toInt) (h2 : x.toInt ≤ 3) : f_J6_signum_0f7a4 x = some (iI (sgn x.toInt)) := by
  have e := iI_of x
  rcases (show x.toInt = -3 ∨ x.toInt = -2 ∨ x.toInt = -1 ∨ x.toInt = 0 ∨ x.toInt = 1 ∨ x.toInt = 2 ∨ x.toInt = 3 by omega) with z | z | z | z | z | z | z <;> rw [z] at e ⊢ <;> rw [e] <;> decide
def SG (g : GD) (F : Nat → Int32) (t : Nat) : Int := if t < 32 then (if gTo g t = none then 0 else sgn (F t).toInt) else 0
theorem SG_b (g : GD) (F : Nat → Int32) (t : Nat) : -1 ≤ SG g F t ∧ SG g F t ≤ 1 := by
  unfold SG sgn
  split
  · split
    · omega
    · split
      · omega
      · split <;> omega
  · omega
def tld (g : GD) (F : Nat → Int32) (m : Nat) : Int := fb_si (fun t => if SG g F t < 0 then -SG g F t else SG g F t) m
theorem tld_b (g : GD) (F : Nat → Int32) (m : Nat) : -(m : Int) ≤ tld g F m ∧ tld g F m ≤ m := by
  have := fb_si_bound (f := fun t => if SG g F t < 0 then -SG g F t else SG g F t) (c := 1) (by decide) (n := m) (fun t _ => by
    have := SG_b g F t
    split <;> omega)
  unfold tld
  omega
theorem bk_sum {g : GD} (hg : g ∈ gAll) (F : Nat → Int32) (s : Nat) : tld g F 32 + eE g (SG g F) s = 2 * (bk g F s : Int) := by
  have h16 := (gAll_b g hg).2.2.1
  have hH : fb_si (eH (SG g F) s) (gSz g) = 0 := by
    rw [fb_si_z (k := 0) (Nat.zero_le _) (fun i _ hi => by
      unfold eH SG
      rw [if_neg (show ¬ (32 + i < 32) by omega)]
      split <;> rfl)]
    rfl
  unfold eE
  rw [hH, Int.add_zero]
  unfold tld bk
  rw [← fb_si_add]
  have key : ∀ m, m ≤ 32 → fb_si (fun t => (if SG g F t < 0 then -SG g F t else SG g F t) + eT g (SG g F) s t) m = 2 * (fb_ct (bkP g F s) m : Int) := by
    intro m
    induction m with
    | zero => intro _; rfl
    | succ m ih =>
      intro hm
      rw [fb_si_succ, ih (by omega), fb_ct_succ]
      have : (if SG g F m < 0 then -SG g F m else SG g F m) + eT g (SG g F) s m = if bkP g F s m then 2 else 0 := by
        unfold eT bkP SG
        rw [if_pos (show m < 32 by omega)]
        cases he : gTo g m with
        | none => simp
        | some e =>
          have hz : (F m = 0) ↔ ((F m).toInt = 0) := by rw [fa_eq]; rfl
          unfold sgn
          simp only [reduceCtorEq, if_false, ne_eq, hz]
          by_cases hb : s.testBit (gFr m) = s.testBit e
          · rcases Int.lt_trichotomy (F m).toInt 0 with h | h | h
            · have a1 : ¬ 0 < (F m).toInt := by omega
              have a2 : ¬ (F m).toInt = 0 := by omega
              simp [hb, h, a1, a2]
            · simp [hb, h]
            · have a1 : ¬ (F m).toInt < 0 := by omega
              have a2 : ¬ (F m).toInt = 0 := by omega
              simp [hb, h, a1, a2]
          · rcases Int.lt_trichotomy (F m).toInt 0 with h | h | h
            · have a1 : ¬ 0 < (F m).toInt := by omega
              have a2 : ¬ (F m).toInt = 0 := by omega
              simp [hb, h, a1, a2]
            · simp [hb, h]
            · have a1 : ¬ (F m).toInt < 0 := by omega
              have a2 : ¬ (F m).toInt = 0 := by omega
              simp [hb, h, a1, a2]
      rw [this]
      cases bkP g F s m <;> simp <;> omega
  exact key 32 (Nat.le_refl _)
end
section
/-! breaks on the heap -/
def sgI (I : Nat → Nat → Int32) (g : GD) (F : Nat → Int32) (t : Nat) : Nat → Nat → Int32 := fun a k => if a = 172 ∧ k < t then iI (SG g F k) else I a k
theorem sgI_out {I : Nat → Nat → Int32} {g : GD} {F : Nat → Int32} {t a k : Nat} (h : a ≠ 172) : sgI I g F t a k = I a k := by
  unfold sgI; rw [if_neg (fun z => h z.1)]
theorem sgI_s {I : Nat → Nat → Int32} {g : GD} {F : Nat → Int32} {t : Nat} : xup (sgI I g F t) 172 t (iI (SG g F t)) = sgI I g F (t + 1) := by
  funext a k
  simp only [xup_at, sgI]
  by_cases h : a = 172
  · subst h
    by_cases h1 : k = t
    · subst h1; simp
    · have : (k < t + 1) ↔ (k < t) := by omega
      simp [h1, this]
  · simp [h]
theorem xabs_i {z : Int} (h1 : -1 ≤ z) (h2 : z ≤ 1) : xabs (iI z) = iI (if z < 0 then -z else z) := by
  rcases (show z = -1 ∨ z = 0 ∨ z = 1 by omega) with rfl | rfl | rfl <;> decide
def brI (I : Nat → Nat → Int32) (g : GD) (F : Nat → Int32) (s : Nat) : Nat → Nat → Int32 := fun a k => if a = 171 ∧ k < 33 then nI (fb_ct (fun s => lW g F s && decide (bk g F s = k)) s) else I a k
theorem brI_out {I : Nat → Nat → Int32} {g : GD} {F : Nat → Int32} {s a k : Nat} (h : a ≠ 171) : brI I g F s a k = I a k := by
  unfold brI; rw [if_neg (fun z => h z.1)]
theorem bk_b (g : GD) (F : Nat → Int32) (s : Nat) : bk g F s ≤ 32 := fb_ct_le _ _
theorem brI_no {I : Nat → Nat → Int32} {g : GD} {F : Nat → Int32} {s : Nat} (h : lW g F s = false) : brI I g F (s + 1) = brI I g F s := by
  funext a k
  unfold brI
  rw [fb_ct_succ, h]
  rfl
theorem brI_yes {I : Nat → Nat → Int32} {g : GD} {F : Nat → Int32} {s : Nat} (h : lW g F s = true) : xup (brI I g F s) 171 (bk g F s) (nI (fb_ct (fun t => lW g F t && decide (bk g F t = bk g F s)) s) + 1) = brI I g F (s + 1) := by
  have hb := bk_b g F s
  funext a k
  simp only [xup_at, brI]
  by_cases h0 : a = 171
  · subst h0
    by_cases h1 : k = bk g F s
    · subst h1
      have : bk g F s < 33 := by omega
      simp [this, fb_ct_succ, h, nI_succ]
    · have h2 : ¬ bk g F s = k := fun z => h1 z.symm
      simp [h1, fb_ct_succ, h, h2]
  · simp [h0]
theorem breaks_ok {n : Nat} {σ : XS} {g : GD} {gT gP : GH} {st : Nat} (H : IV n σ g gT gP st) : ∃ τ Q, f_X0_gather (xw σ (xI σ)) 170 11 16 161 = some (xw τ Q) ∧ IV n τ g gT gP st ∧ (∀ a k, a ≠ 171 → Q a k = xI τ a k) ∧ BRK Q g (xI σ 191) ∧ ∀ a k, (a < 161 ∨ (165 ≤ a ∧ a ≤ 171) ∨ (173 ≤ a ∧ a ≤ 206)) → xI τ a k = xI σ a k := by
  have hS := H.shp
  have hG := H.grd
  have hg := hG.1
  have h16 := (gAll_b g hg).2.2.1
  have hSt := (gSt_b hg).1
  obtain ⟨F, hF⟩ : ∃ F, F = xI σ 191 := ⟨_, rfl⟩
  have hSR := H.now.1
  have ho := H.now.2.1
  rw [← hF] at hSR ho ⊢
  obtain ⟨c, b, hE, hb, hcn⟩ := H.en161
  have hEb := hE.b
  have K172 : σ.1 172 = (20, 32) := xw_K hS (by decide) (by decide) (by decide)
  have K173 : σ.1 173 = (20, 16) := xw_K hS (by decide) (by decide) (by decide)
  have hGs : ∀ t, GRD (sgI (xI σ) g F t) g := fun t => GRD_c (fun a k z => sgI_out (by unfold sGRD at z; omega)) hG
  have hSs : ∀ t, SR g (sgI (xI σ) g F t) 16 F := fun t => SR_m hg (fun k _ _ => sgI_out (by omega)) (fun k _ => sgI_out (by omega)) (fun k _ => sgI_out (by omega)) (fun k _ => rfl) hSR
  obtain ⟨τ, e1, hτ⟩ := fill11_ok (I := sgI (xI σ) g F 32) (k := gSz g) (F := SG g F) hS (hGs 32) hE hb hcn K172 K173 (by omega) (by omega) (by omega) (by omega) (by omega) (by omega) (Nat.le_refl _)
    (fun t ht _ => ⟨by unfold sgI; rw [if_pos ⟨rfl, ht⟩], by have := SG_b g F t; omega, by have := SG_b g F t; omega⟩)
    (fun i hi => by
      rw [sgI_out (by decide), hG.2.2.2.2.2.2.2.2.2.2.2.2 i (by omega)]
      unfold SG
      rw [if_neg (by omega)]
      rfl)
  have HA := H.aside hE (fun a k h => sgI_out h) hτ
  have hτ2 := hτ
  obtain ⟨hτS, ⟨c', b', hE', f1, f2, f3, f4, f5, f6, f7, f8, f9⟩, f10, f11, f12, f13⟩ := hτ
  have hEb' := hE'.b
  have h206 := hS.1
  have fr : ∀ a k, (a < 161 ∨ (165 ≤ a ∧ a ≤ 171) ∨ (173 ≤ a ∧ a ≤ 206)) → xI τ a k = xI σ a k := fun a k h => by
    rw [f9 a k (by omega) (by omega) (by omega), sgI_out (by omega)]
  have hGτ := HA.grd
  have hSRτ := HA.now.1
  have rτ : xI τ 191 = F := by rw [hF]; funext k; exact fr 191 k (by omega)
  rw [rτ] at hSRτ
  have K171 : τ.1 171 = (20, 33) := xw_K hτS (by decide) (by decide) (by decide)
  have hGb : ∀ s, GRD (brI (xI τ) g F s) g := fun s => GRD_c (fun a k z => brI_out (by unfold sGRD at z; omega)) hGτ
  have hSb : ∀ s, SR g (brI (xI τ) g F s) 16 F := fun s => SR_m hg (fun k _ _ => brI_out (by omega)) (fun k _ => brI_out (by omega)) (fun k _ => brI_out (by omega)) (fun k _ => rfl) hSRτ
  have loop2 : f_X0_gather_j81 (xw τ (xI τ)) 170 11 16 161 (iI (tld g F 32)) = some (xw τ (brI (xI τ) g F (gSt g))) := by
    unfold f_X0_gather_j81
    have e0 : xur (xI τ) 171 (fun j => if j < 33 then 0 else xI τ 171 j) = brI (xI τ) g F 0 := by
      funext a k
      unfold xur brI
      by_cases h : a = 171
      · subst h
        by_cases h1 : k < 33
        · simp [h1]; rfl
        · simp [h1]
      · simp [h]
    simp (disch := first | assumption | omega) only [Option.bind_some, Option.map_some, xw_gR, xw_gN, xw_al, xw_ck, xw_uI, xw_ur, xup_at, xur_at, if_true, if_false, reduceIte, and_true, true_and, and_false, false_and, not_true_eq_false, not_false_eq_true, Nat.reduceEqDiff, eq_self, Nat.reduceAdd, Nat.reduceMul, kC1, kG1, kP1, kR1_0, kR1_1, kR1_2, kR1_3, kR1_4, kR1_5, kR1_6, kR1_7, kR1_8, kR1_9, kR1_10, kR1_11, kR1_12, kR1_13, kC2, kG2, kP2, kR2_0, kR2_1, kC3, kG3, kP3, kR3_0, kR3_1, kR3_2, kR3_3, kL4, kA4, kS4, kL5, kA5, kS5, kL6, kA6, kS6, kL7, kA7, kS7, kC8, kG8, kP8, kR8_0, kR8_1, kL9, kA9, kS9, kL10, kA10, kS10, kC11, kG11, kP11, kR11_0, kR11_1, kR11_2, kR11_3, kL12, kA12, kS12, kL13, kA13, kS13, kL14, kA14, kS14, kL15, kA15, kS15, kC16, kG16, kP16, kR16_0, kR16_1, kL17, kA17, kS17, kL18, kA18, kS18, kC19, kG19, kP19, kR19_0, kL20, kL141, kL146, kA146, kS146, kL151, kA151, kS151, kL156, kA156, kS156, kC157, kG157, kP157, kR157_0, kR157_1, kL158, kA158, kS158, kL159, kA159, kS159, kC161, kG161, kP161, kR161_0, kR161_1, kL162, kA162, kS162, kL163, kA163, kS163, kC165, kG165, kP165, kR165_0, kR165_1, kR165_2, kR165_3, kL166, kA166, kS166, kL167, kA167, kS167, kL168, kA168, kS168, kL169, kA169, kS169, kC170, kG170, kP170, kR170_0, kR170_1, kR170_2, kL171, kA171, kS171, kL172, kA172, kS172, kL173, kA173, kS173, kC174, kG174, kP174, kR174_0, kR174_1, kR174_2, kR174_3, kR174_4, kL175, kA175, kS175, kL176, kA176, kS176, kL177, kA177, kS177, kL178, kA178, kS178, kL179, kC180, kG180, kP180, kL181, kL182, kA182, kS182, kC183, kG183, kP183, kR183_1, kR183_3, kR183_5, kR183_6, kR183_7, kR183_8, kR183_9, kR183_21, kR183_26, kR183_27, kR183_30, kR183_31, kR183_33, kR183_34, kR183_36, kR183_37, kR183_38, kR183_39, kR183_40, kR183_41, kR183_42, kR183_43, kR183_44, kL184, kA184, kS184, kL185, kA185, kS185, kL186, kA186, kS186, kL187, kA187, kS187, kL188, kA188, kS188, kL189, kL190, kL191, kA191, kS191, kL192, kA192, kS192, kL193, kA193, kS193, kL194, kA194, kS194, kL195, kA195, kS195, kL196, kA196, kS196, kL197, kA197, kS197, kL198, kA198, kS198, kL199, kA199, kS199, kL200, kA200, kS200, kL201, kL202, kA202, kS202, kL203, kA203, kS203, kL204, kA204, kS204, kL205, kL206, kA206, kS206, fillI_ok K171, e0, states11_ok hτS (hGb 0)]
    refine xforE (fun s : Nat => (nI s, xw τ (brI (xI τ) g F s))) (gSt g) rfl (fun s hs => ?_) ?_
    · have hs2 := (gSt_pos hs).2
      have hm : 2 ^ gSz g ≤ 2 ^ b' := Nat.pow_le_pow_right (by decide) f3
      have hof : f_X2_of (xw τ (brI (xI τ) g F s)) 161 (nI s) = some (iI (eE g (SG g F) s)) := by
        rw [of_at hτS hE' (by omega), brI_out (by omega), f8 s hs2, eP_all hg]
      have hsum := bk_sum hg F s
      have hbb := bk_b g F s
      have hdiv : (iI (tld g F 32) + iI (eE g (SG g F) s)) / (2 : Int32) = nI (bk g F s) := by
        rw [iI_add, hsum, show (2 : Int32) = nI 2 from rfl]
        have : iI (2 * (bk g F s : Int)) = nI (2 * bk g F s) := by rw [iI_n]; rfl
        rw [this, nn_div (by omega) (by omega)]
        congr 1; omega
      simp only [f_X0_gather_b98]
      rw [if_neg (by rw [nn_le (by omega) (by omega)]; omega)]
      have kv : brI (xI τ) g F s 171 (bk g F s) = nI (fb_ct (fun t => lW g F t && decide (bk g F t = bk g F s)) s) := by
        unfold brI; rw [if_pos ⟨rfl, by omega⟩]
      simp (disch := first | assumption | omega) only [Option.bind_some, Option.map_some, xw_gR, xw_gN, xw_al, xw_ck, xw_uI, xw_ur, xup_at, xur_at, if_true, if_false, reduceIte, and_true, true_and, and_false, false_and, not_true_eq_false, not_false_eq_true, Nat.reduceEqDiff, eq_self, Nat.reduceAdd, Nat.reduceMul, kC1, kG1, kP1, kR1_0, kR1_1, kR1_2, kR1_3, kR1_4, kR1_5, kR1_6, kR1_7, kR1_8, kR1_9, kR1_10, kR1_11, kR1_12, kR1_13, kC2, kG2, kP2, kR2_0, kR2_1, kC3, kG3, kP3, kR3_0, kR3_1, kR3_2, kR3_3, kL4, kA4, kS4, kL5, kA5, kS5, kL6, kA6, kS6, kL7, kA7, kS7, kC8, kG8, kP8, kR8_0, kR8_1, kL9, kA9, kS9, kL10, kA10, kS10, kC11, kG11, kP11, kR11_0, kR11_1, kR11_2, kR11_3, kL12, kA12, kS12, kL13, kA13, kS13, kL14, kA14, kS14, kL15, kA15, kS15, kC16, kG16, kP16, kR16_0, kR16_1, kL17, kA17, kS17, kL18, kA18, kS18, kC19, kG19, kP19, kR19_0, kL20, kL141, kL146, kA146, kS146, kL151, kA151, kS151, kL156, kA156, kS156, kC157, kG157, kP157, kR157_0, kR157_1, kL158, kA158, kS158, kL159, kA159, kS159, kC161, kG161, kP161, kR161_0, kR161_1, kL162, kA162, kS162, kL163, kA163, kS163, kC165, kG165, kP165, kR165_0, kR165_1, kR165_2, kR165_3, kL166, kA166, kS166, kL167, kA167, kS167, kL168, kA168, kS168, kL169, kA169, kS169, kC170, kG170, kP170, kR170_0, kR170_1, kR170_2, kL171, kA171, kS171, kL172, kA172, kS172, kL173, kA173, kS173, kC174, kG174, kP174, kR174_0, kR174_1, kR174_2, kR174_3, kR174_4, kL175, kA175, kS175, kL176, kA176, kS176, kL177, kA177, kS177, kL178, kA178, kS178, kL179, kC180, kG180, kP180, kL181, kL182, kA182, kS182, kC183, kG183, kP183, kR183_1, kR183_3, kR183_5, kR183_6, kR183_7, kR183_8, kR183_9, kR183_21, kR183_26, kR183_27, kR183_30, kR183_31, kR183_33, kR183_34, kR183_36, kR183_37, kR183_38, kR183_39, kR183_40, kR183_41, kR183_42, kR183_43, kR183_44, kL184, kA184, kS184, kL185, kA185, kS185, kL186, kA186, kS186, kL187, kA187, kS187, kL188, kA188, kS188, kL189, kL190, kL191, kA191, kS191, kL192, kA192, kS192, kL193, kA193, kS193, kL194, kA194, kS194, kL195, kA195, kS195, kL196, kA196, kS196, kL197, kA197, kS197, kL198, kA198, kS198, kL199, kA199, kS199, kL200, kA200, kS200, kL201, kL202, kA202, kS202, kL203, kA203, kS203, kL204, kA204, kS204, kL205, kL206, kA206, kS206, hof, allows_ok hτS hg suA_16 (hSb s), hdiv, nn_nneg, nn_le, show ¬ (33 ≤ bk g F s) by omega, kv]
      rw [← nI_succ]
      cases hl : lW g F s with
      | false => rw [if_pos (by decide), brI_no hl]
      | true =>
        rw [if_neg (by decide)]
        have := brI_yes (I := xI τ) hl
        rw [nI_succ] 
        rw [this]
    · simp only [f_X0_gather_b98]
      rw [if_pos (by rw [nn_le (by omega) (by omega)]; exact Nat.le_refl _)]
      rfl
  refine ⟨τ, brI (xI τ) g F (gSt g), ?_, HA, fun a k h => brI_out h, fun m hm => ?_, fr⟩
  · unfold f_X0_gather
    refine xforE (fun t : Nat => (iI (tld g F t), nI t, xw σ (sgI (xI σ) g F t))) 32 ?_ (fun t ht => ?_) ?_
    · congr 3
      funext a k
      unfold sgI
      rw [if_neg (by omega)]
    · simp only [f_X0_gather_b6]
      rw [if_neg (by rw [show (32 : Int32) = nI 32 from rfl, nn_le (by omega) (by omega)]; omega)]
      have hsb := SG_b g F t
      have main : f_X0_gather_j42 (xw σ (sgI (xI σ) g F t)) 170 11 16 161 (iI (tld g F t)) (nI t) 172 (nI t) (iI (SG g F t)) = some (.inl (iI (tld g F (t + 1)), nI (t + 1), xw σ (sgI (xI σ) g F (t + 1)))) := by
        unfold f_X0_gather_j42
        simp (disch := first | assumption | omega) only [Option.bind_some, Option.map_some, xw_gR, xw_gN, xw_al, xw_ck, xw_uI, xw_ur, xup_at, xur_at, if_true, if_false, reduceIte, and_true, true_and, and_false, false_and, not_true_eq_false, not_false_eq_true, Nat.reduceEqDiff, eq_self, Nat.reduceAdd, Nat.reduceMul, kC1, kG1, kP1, kR1_0, kR1_1, kR1_2, kR1_3, kR1_4, kR1_5, kR1_6, kR1_7, kR1_8, kR1_9, kR1_10, kR1_11, kR1_12, kR1_13, kC2, kG2, kP2, kR2_0, kR2_1, kC3, kG3, kP3, kR3_0, kR3_1, kR3_2, kR3_3, kL4, kA4, kS4, kL5, kA5, kS5, kL6, kA6, kS6, kL7, kA7, kS7, kC8, kG8, kP8, kR8_0, kR8_1, kL9, kA9, kS9, kL10, kA10, kS10, kC11, kG11, kP11, kR11_0, kR11_1, kR11_2, kR11_3, kL12, kA12, kS12, kL13, kA13, kS13, kL14, kA14, kS14, kL15, kA15, kS15, kC16, kG16, kP16, kR16_0, kR16_1, kL17, kA17, kS17, kL18, kA18, kS18, kC19, kG19, kP19, kR19_0, kL20, kL141, kL146, kA146, kS146, kL151, kA151, kS151, kL156, kA156, kS156, kC157, kG157, kP157, kR157_0, kR157_1, kL158, kA158, kS158, kL159, kA159, kS159, kC161, kG161, kP161, kR161_0, kR161_1, kL162, kA162, kS162, kL163, kA163, kS163, kC165, kG165, kP165, kR165_0, kR165_1, kR165_2, kR165_3, kL166, kA166, kS166, kL167, kA167, kS167, kL168, kA168, kS168, kL169, kA169, kS169, kC170, kG170, kP170, kR170_0, kR170_1, kR170_2, kL171, kA171, kS171, kL172, kA172, kS172, kL173, kA173, kS173, kC174, kG174, kP174, kR174_0, kR174_1, kR174_2, kR174_3, kR174_4, kL175, kA175, kS175, kL176, kA176, kS176, kL177, kA177, kS177, kL178, kA178, kS178, kL179, kC180, kG180, kP180, kL181, kL182, kA182, kS182, kC183, kG183, kP183, kR183_1, kR183_3, kR183_5, kR183_6, kR183_7, kR183_8, kR183_9, kR183_21, kR183_26, kR183_27, kR183_30, kR183_31, kR183_33, kR183_34, kR183_36, kR183_37, kR183_38, kR183_39, kR183_40, kR183_41, kR183_42, kR183_43, kR183_44, kL184, kA184, kS184, kL185, kA185, kS185, kL186, kA186, kS186, kL187, kA187, kS187, kL188, kA188, kS188, kL189, kL190, kL191, kA191, kS191, kL192, kA192, kS192, kL193, kA193, kS193, kL194, kA194, kS194, kL195, kA195, kS195, kL196, kA196, kS196, kL197, kA197, kS197, kL198, kA198, kS198, kL199, kA199, kS199, kL200, kA200, kS200, kL201, kL202, kA202, kS202, kL203, kA203, kS203, kL204, kA204, kS204, kL205, kL206, kA206, kS206, xabs_i hsb.1 hsb.2, iI_add]
        rw [sgI_s, ← nI_succ]
        rfl
      simp (disch := first | assumption | omega) only [Option.bind_some, Option.map_some, xw_gR, xw_gN, xw_al, xw_ck, xw_uI, xw_ur, xup_at, xur_at, if_true, if_false, reduceIte, and_true, true_and, and_false, false_and, not_true_eq_false, not_false_eq_true, Nat.reduceEqDiff, eq_self, Nat.reduceAdd, Nat.reduceMul, kC1, kG1, kP1, kR1_0, kR1_1, kR1_2, kR1_3, kR1_4, kR1_5, kR1_6, kR1_7, kR1_8, kR1_9, kR1_10, kR1_11, kR1_12, kR1_13, kC2, kG2, kP2, kR2_0, kR2_1, kC3, kG3, kP3, kR3_0, kR3_1, kR3_2, kR3_3, kL4, kA4, kS4, kL5, kA5, kS5, kL6, kA6, kS6, kL7, kA7, kS7, kC8, kG8, kP8, kR8_0, kR8_1, kL9, kA9, kS9, kL10, kA10, kS10, kC11, kG11, kP11, kR11_0, kR11_1, kR11_2, kR11_3, kL12, kA12, kS12, kL13, kA13, kS13, kL14, kA14, kS14, kL15, kA15, kS15, kC16, kG16, kP16, kR16_0, kR16_1, kL17, kA17, kS17, kL18, kA18, kS18, kC19, kG19, kP19, kR19_0, kL20, kL141, kL146, kA146, kS146, kL151, kA151, kS151, kL156, kA156, kS156, kC157, kG157, kP157, kR157_0, kR157_1, kL158, kA158, kS158, kL159, kA159, kS159, kC161, kG161, kP161, kR161_0, kR161_1, kL162, kA162, kS162, kL163, kA163, kS163, kC165, kG165, kP165, kR165_0, kR165_1, kR165_2, kR165_3, kL166, kA166, kS166, kL167, kA167, kS167, kL168, kA168, kS168, kL169, kA169, kS169, kC170, kG170, kP170, kR170_0, kR170_1, kR170_2, kL171, kA171, kS171, kL172, kA172, kS172, kL173, kA173, kS173, kC174, kG174, kP174, kR174_0, kR174_1, kR174_2, kR174_3, kR174_4, kL175, kA175, kS175, kL176, kA176, kS176, kL177, kA177, kS177, kL178, kA178, kS178, kL179, kC180, kG180, kP180, kL181, kL182, kA182, kS182, kC183, kG183, kP183, kR183_1, kR183_3, kR183_5, kR183_6, kR183_7, kR183_8, kR183_9, kR183_21, kR183_26, kR183_27, kR183_30, kR183_31, kR183_33, kR183_34, kR183_36, kR183_37, kR183_38, kR183_39, kR183_40, kR183_41, kR183_42, kR183_43, kR183_44, kL184, kA184, kS184, kL185, kA185, kS185, kL186, kA186, kS186, kL187, kA187, kS187, kL188, kA188, kS188, kL189, kL190, kL191, kA191, kS191, kL192, kA192, kS192, kL193, kA193, kS193, kL194, kA194, kS194, kL195, kA195, kS195, kL196, kA196, kS196, kL197, kA197, kS197, kL198, kA198, kS198, kL199, kA199, kS199, kL200, kA200, kS200, kL201, kL202, kA202, kS202, kL203, kA203, kS203, kL204, kA204, kS204, kL205, kL206, kA206, kS206, endAt_ok hS (hGs t) ht, oI_none (gTo_s hg ht)]
      by_cases hno : gTo g t = none
      · rw [if_pos hno]
        have z : SG g F t = 0 := by unfold SG; rw [if_pos ht, if_pos hno]
        rw [z] at main
        exact main
      · rw [if_neg hno]
        have hr := ho.1 t (by omega)
        simp (disch := first | assumption | omega) only [Option.bind_some, Option.map_some, xw_gR, xw_gN, xw_al, xw_ck, xw_uI, xw_ur, xup_at, xur_at, if_true, if_false, reduceIte, and_true, true_and, and_false, false_and, not_true_eq_false, not_false_eq_true, Nat.reduceEqDiff, eq_self, Nat.reduceAdd, Nat.reduceMul, kC1, kG1, kP1, kR1_0, kR1_1, kR1_2, kR1_3, kR1_4, kR1_5, kR1_6, kR1_7, kR1_8, kR1_9, kR1_10, kR1_11, kR1_12, kR1_13, kC2, kG2, kP2, kR2_0, kR2_1, kC3, kG3, kP3, kR3_0, kR3_1, kR3_2, kR3_3, kL4, kA4, kS4, kL5, kA5, kS5, kL6, kA6, kS6, kL7, kA7, kS7, kC8, kG8, kP8, kR8_0, kR8_1, kL9, kA9, kS9, kL10, kA10, kS10, kC11, kG11, kP11, kR11_0, kR11_1, kR11_2, kR11_3, kL12, kA12, kS12, kL13, kA13, kS13, kL14, kA14, kS14, kL15, kA15, kS15, kC16, kG16, kP16, kR16_0, kR16_1, kL17, kA17, kS17, kL18, kA18, kS18, kC19, kG19, kP19, kR19_0, kL20, kL141, kL146, kA146, kS146, kL151, kA151, kS151, kL156, kA156, kS156, kC157, kG157, kP157, kR157_0, kR157_1, kL158, kA158, kS158, kL159, kA159, kS159, kC161, kG161, kP161, kR161_0, kR161_1, kL162, kA162, kS162, kL163, kA163, kS163, kC165, kG165, kP165, kR165_0, kR165_1, kR165_2, kR165_3, kL166, kA166, kS166, kL167, kA167, kS167, kL168, kA168, kS168, kL169, kA169, kS169, kC170, kG170, kP170, kR170_0, kR170_1, kR170_2, kL171, kA171, kS171, kL172, kA172, kS172, kL173, kA173, kS173, kC174, kG174, kP174, kR174_0, kR174_1, kR174_2, kR174_3, kR174_4, kL175, kA175, kS175, kL176, kA176, kS176, kL177, kA177, kS177, kL178, kA178, kS178, kL179, kC180, kG180, kP180, kL181, kL182, kA182, kS182, kC183, kG183, kP183, kR183_1, kR183_3, kR183_5, kR183_6, kR183_7, kR183_8, kR183_9, kR183_21, kR183_26, kR183_27, kR183_30, kR183_31, kR183_33, kR183_34, kR183_36, kR183_37, kR183_38, kR183_39, kR183_40, kR183_41, kR183_42, kR183_43, kR183_44, kL184, kA184, kS184, kL185, kA185, kS185, kL186, kA186, kS186, kL187, kA187, kS187, kL188, kA188, kS188, kL189, kL190, kL191, kA191, kS191, kL192, kA192, kS192, kL193, kA193, kS193, kL194, kA194, kS194, kL195, kA195, kS195, kL196, kA196, kS196, kL197, kA197, kS197, kL198, kA198, kS198, kL199, kA199, kS199, kL200, kA200, kS200, kL201, kL202, kA202, kS202, kL203, kA203, kS203, kL204, kA204, kS204, kL205, kL206, kA206, kS206, bond_SR hS suA_16 (hSs t) ht (Option.isSome_iff_ne_none.mpr hno), signum_ok hr.1 hr.2]
        have z : SG g F t = sgn (F t).toInt := by unfold SG; rw [if_pos ht, if_neg hno]
        rw [z] at main
        exact main
    · simp only [f_X0_gather_b6]
      rw [if_pos (by decide)]
      simp (disch := first | assumption | omega) only [Option.bind_some, Option.map_some, xw_gR, xw_gN, xw_al, xw_ck, xw_uI, xw_ur, xup_at, xur_at, if_true, if_false, reduceIte, and_true, true_and, and_false, false_and, not_true_eq_false, not_false_eq_true, Nat.reduceEqDiff, eq_self, Nat.reduceAdd, Nat.reduceMul, kC1, kG1, kP1, kR1_0, kR1_1, kR1_2, kR1_3, kR1_4, kR1_5, kR1_6, kR1_7, kR1_8, kR1_9, kR1_10, kR1_11, kR1_12, kR1_13, kC2, kG2, kP2, kR2_0, kR2_1, kC3, kG3, kP3, kR3_0, kR3_1, kR3_2, kR3_3, kL4, kA4, kS4, kL5, kA5, kS5, kL6, kA6, kS6, kL7, kA7, kS7, kC8, kG8, kP8, kR8_0, kR8_1, kL9, kA9, kS9, kL10, kA10, kS10, kC11, kG11, kP11, kR11_0, kR11_1, kR11_2, kR11_3, kL12, kA12, kS12, kL13, kA13, kS13, kL14, kA14, kS14, kL15, kA15, kS15, kC16, kG16, kP16, kR16_0, kR16_1, kL17, kA17, kS17, kL18, kA18, kS18, kC19, kG19, kP19, kR19_0, kL20, kL141, kL146, kA146, kS146, kL151, kA151, kS151, kL156, kA156, kS156, kC157, kG157, kP157, kR157_0, kR157_1, kL158, kA158, kS158, kL159, kA159, kS159, kC161, kG161, kP161, kR161_0, kR161_1, kL162, kA162, kS162, kL163, kA163, kS163, kC165, kG165, kP165, kR165_0, kR165_1, kR165_2, kR165_3, kL166, kA166, kS166, kL167, kA167, kS167, kL168, kA168, kS168, kL169, kA169, kS169, kC170, kG170, kP170, kR170_0, kR170_1, kR170_2, kL171, kA171, kS171, kL172, kA172, kS172, kL173, kA173, kS173, kC174, kG174, kP174, kR174_0, kR174_1, kR174_2, kR174_3, kR174_4, kL175, kA175, kS175, kL176, kA176, kS176, kL177, kA177, kS177, kL178, kA178, kS178, kL179, kC180, kG180, kP180, kL181, kL182, kA182, kS182, kC183, kG183, kP183, kR183_1, kR183_3, kR183_5, kR183_6, kR183_7, kR183_8, kR183_9, kR183_21, kR183_26, kR183_27, kR183_30, kR183_31, kR183_33, kR183_34, kR183_36, kR183_37, kR183_38, kR183_39, kR183_40, kR183_41, kR183_42, kR183_43, kR183_44, kL184, kA184, kS184, kL185, kA185, kS185, kL186, kA186, kS186, kL187, kA187, kS187, kL188, kA188, kS188, kL189, kL190, kL191, kA191, kS191, kL192, kA192, kS192, kL193, kA193, kS193, kL194, kA194, kS194, kL195, kA195, kS195, kL196, kA196, kS196, kL197, kA197, kS197, kL198, kA198, kS198, kL199, kA199, kS199, kL200, kA200, kS200, kL201, kL202, kA202, kS202, kL203, kA203, kS203, kL204, kA204, kS204, kL205, kL206, kA206, kS206, (hGs 32).2.2.2.2.1, e1]
      rw [show τ = xw τ (xI τ) from rfl, loop2]
      rfl
  · unfold brI
    rw [if_pos ⟨rfl, hm⟩]
end
section
/-! broken -/
theorem breaksNow_ok {n : Nat} {σ : XS} {g : GD} {gT gP : GH} {st : Nat} (hn : n ≤ 512) (H : IV n σ g gT gP st) : ∃ τ, f_X11_breaksNow σ 1 = some (170, τ) ∧ IV n τ g gT gP st ∧ BRK (xI τ) g (xI σ 191) ∧ (∀ a k, (a < 161 ∨ (165 ≤ a ∧ a ≤ 169) ∨ (173 ≤ a ∧ a ≤ 206)) → xI τ a k = xI σ a k) := by
  have hS := H.shp
  have hG := H.grd
  have hg := hG.1
  obtain ⟨hSR, hRO, t, p, ht, hp, e6, e7, gt1, gt2, gp1, gp2⟩ := H.now
  have hst := H.stn
  obtain ⟨τ, Q, g1, H1, uQ, hB, fr⟩ := breaks_ok H
  have hSτ := H1.shp
  have q16 : Q 16 7 = nI p := by rw [uQ 16 7 (by omega), fr 16 7 (by omega)]; exact e7
  have stp : f_X11_breaksNow σ 1 = if xI σ 170 3 = nI p then some (170, σ) else some (170, xw τ (xup Q 170 3 (nI p))) := by
    show f_X11_breaksNow (xw σ (xI σ)) 1 = _
    unfold f_X11_breaksNow
    simp (disch := first | assumption | omega) only [Option.bind_some, Option.map_some, xw_gR, xw_gN, xw_al, xw_ck, xw_uI, xw_ur, xup_at, xur_at, if_true, if_false, reduceIte, and_true, true_and, and_false, false_and, not_true_eq_false, not_false_eq_true, Nat.reduceEqDiff, eq_self, Nat.reduceAdd, Nat.reduceMul, kC1, kG1, kP1, kR1_0, kR1_1, kR1_2, kR1_3, kR1_4, kR1_5, kR1_6, kR1_7, kR1_8, kR1_9, kR1_10, kR1_11, kR1_12, kR1_13, kC2, kG2, kP2, kR2_0, kR2_1, kC3, kG3, kP3, kR3_0, kR3_1, kR3_2, kR3_3, kL4, kA4, kS4, kL5, kA5, kS5, kL6, kA6, kS6, kL7, kA7, kS7, kC8, kG8, kP8, kR8_0, kR8_1, kL9, kA9, kS9, kL10, kA10, kS10, kC11, kG11, kP11, kR11_0, kR11_1, kR11_2, kR11_3, kL12, kA12, kS12, kL13, kA13, kS13, kL14, kA14, kS14, kL15, kA15, kS15, kC16, kG16, kP16, kR16_0, kR16_1, kL17, kA17, kS17, kL18, kA18, kS18, kC19, kG19, kP19, kR19_0, kL20, kL141, kL146, kA146, kS146, kL151, kA151, kS151, kL156, kA156, kS156, kC157, kG157, kP157, kR157_0, kR157_1, kL158, kA158, kS158, kL159, kA159, kS159, kC161, kG161, kP161, kR161_0, kR161_1, kL162, kA162, kS162, kL163, kA163, kS163, kC165, kG165, kP165, kR165_0, kR165_1, kR165_2, kR165_3, kL166, kA166, kS166, kL167, kA167, kS167, kL168, kA168, kS168, kL169, kA169, kS169, kC170, kG170, kP170, kR170_0, kR170_1, kR170_2, kL171, kA171, kS171, kL172, kA172, kS172, kL173, kA173, kS173, kC174, kG174, kP174, kR174_0, kR174_1, kR174_2, kR174_3, kR174_4, kL175, kA175, kS175, kL176, kA176, kS176, kL177, kA177, kS177, kL178, kA178, kS178, kL179, kC180, kG180, kP180, kL181, kL182, kA182, kS182, kC183, kG183, kP183, kR183_1, kR183_3, kR183_5, kR183_6, kR183_7, kR183_8, kR183_9, kR183_21, kR183_26, kR183_27, kR183_30, kR183_31, kR183_33, kR183_34, kR183_36, kR183_37, kR183_38, kR183_39, kR183_40, kR183_41, kR183_42, kR183_43, kR183_44, kL184, kA184, kS184, kL185, kA185, kS185, kL186, kA186, kS186, kL187, kA187, kS187, kL188, kA188, kS188, kL189, kL190, kL191, kA191, kS191, kL192, kA192, kS192, kL193, kA193, kS193, kL194, kA194, kS194, kL195, kA195, kS195, kL196, kA196, kS196, kL197, kA197, kS197, kL198, kA198, kS198, kL199, kA199, kS199, kL200, kA200, kS200, kL201, kL202, kA202, kS202, kL203, kA203, kS203, kL204, kA204, kS204, kL205, kL206, kA206, kS206, e7, xnz_ok, g1]
    unfold f_X11_breaksNow_j36
    simp (disch := first | assumption | omega) only [Option.bind_some, Option.map_some, xw_gR, xw_gN, xw_al, xw_ck, xw_uI, xw_ur, xup_at, xur_at, if_true, if_false, reduceIte, and_true, true_and, and_false, false_and, not_true_eq_false, not_false_eq_true, Nat.reduceEqDiff, eq_self, Nat.reduceAdd, Nat.reduceMul, kC1, kG1, kP1, kR1_0, kR1_1, kR1_2, kR1_3, kR1_4, kR1_5, kR1_6, kR1_7, kR1_8, kR1_9, kR1_10, kR1_11, kR1_12, kR1_13, kC2, kG2, kP2, kR2_0, kR2_1, kC3, kG3, kP3, kR3_0, kR3_1, kR3_2, kR3_3, kL4, kA4, kS4, kL5, kA5, kS5, kL6, kA6, kS6, kL7, kA7, kS7, kC8, kG8, kP8, kR8_0, kR8_1, kL9, kA9, kS9, kL10, kA10, kS10, kC11, kG11, kP11, kR11_0, kR11_1, kR11_2, kR11_3, kL12, kA12, kS12, kL13, kA13, kS13, kL14, kA14, kS14, kL15, kA15, kS15, kC16, kG16, kP16, kR16_0, kR16_1, kL17, kA17, kS17, kL18, kA18, kS18, kC19, kG19, kP19, kR19_0, kL20, kL141, kL146, kA146, kS146, kL151, kA151, kS151, kL156, kA156, kS156, kC157, kG157, kP157, kR157_0, kR157_1, kL158, kA158, kS158, kL159, kA159, kS159, kC161, kG161, kP161, kR161_0, kR161_1, kL162, kA162, kS162, kL163, kA163, kS163, kC165, kG165, kP165, kR165_0, kR165_1, kR165_2, kR165_3, kL166, kA166, kS166, kL167, kA167, kS167, kL168, kA168, kS168, kL169, kA169, kS169, kC170, kG170, kP170, kR170_0, kR170_1, kR170_2, kL171, kA171, kS171, kL172, kA172, kS172, kL173, kA173, kS173, kC174, kG174, kP174, kR174_0, kR174_1, kR174_2, kR174_3, kR174_4, kL175, kA175, kS175, kL176, kA176, kS176, kL177, kA177, kS177, kL178, kA178, kS178, kL179, kC180, kG180, kP180, kL181, kL182, kA182, kS182, kC183, kG183, kP183, kR183_1, kR183_3, kR183_5, kR183_6, kR183_7, kR183_8, kR183_9, kR183_21, kR183_26, kR183_27, kR183_30, kR183_31, kR183_33, kR183_34, kR183_36, kR183_37, kR183_38, kR183_39, kR183_40, kR183_41, kR183_42, kR183_43, kR183_44, kL184, kA184, kS184, kL185, kA185, kS185, kL186, kA186, kS186, kL187, kA187, kS187, kL188, kA188, kS188, kL189, kL190, kL191, kA191, kS191, kL192, kA192, kS192, kL193, kA193, kS193, kL194, kA194, kS194, kL195, kA195, kS195, kL196, kA196, kS196, kL197, kA197, kS197, kL198, kA198, kS198, kL199, kA199, kS199, kL200, kA200, kS200, kL201, kL202, kA202, kS202, kL203, kA203, kS203, kL204, kA204, kS204, kL205, kL206, kA206, kS206, q16, xnz_ok]
    rfl
  rw [stp]
  obtain ⟨c1, c2, c3, c4, c5, c6, c7⟩ := ct_congr hg (F := (gP p).2) (F' := xI σ 191) gp2
  by_cases hq : xI σ 170 3 = nI p
  · rw [if_pos hq]
    refine ⟨σ, rfl, H, ?_, fun _ _ _ => rfl⟩
    rcases H.cch.2.2.1 with z | ⟨p', z1, z2, z3⟩
    · rw [hq] at z
      exact absurd z (by have := nn_m1 (a := p) (by omega); rw [this]; exact id)
    · have : p' = p := by
        rw [hq, nn_eq (by omega) (by omega)] at z2; exact z2.symm
      subst this
      rw [gp1] at z3
      intro m hm
      rw [c1, c7]
      exact z3 m hm
  · rw [if_neg hq]
    have uX : ∀ a k, ¬ (170 ≤ a ∧ a ≤ 171) → xup Q 170 3 (nI p) a k = xI τ a k := fun a k h => by rw [xup_at, if_neg (by omega), uQ a k (by omega)]
    have hB2 : BRK (xup Q 170 3 (nI p)) g (xI σ 191) := BRK_c (fun k => by rw [xup_at, if_neg (by omega)]) hB
    refine ⟨_, rfl, H1.brk uX (.inr ⟨p, hp, by rw [xup_at, if_pos ⟨rfl, rfl⟩], ?_⟩), hB2, fun a k h => by rw [xw_I, uX a k (by omega), fr a k (by omega)]⟩
    rw [gp1]
    intro m hm
    rw [← c1, ← c7]
    exact hB2 m hm
theorem op_broken : Op_broken INV := by
  intro n σ hn ⟨g, gT, gP, st, H⟩ x
  obtain ⟨τ, e1, H1, hB, fr⟩ := breaksNow_ok (by omega) H
  obtain ⟨J, e2, H2, K2, u2⟩ := knows_ok H1
  have hS := H1.shp
  have hG1 := H1.grd
  have hG2 : GRD J g := H2.grd
  have hg := hG1.1
  have hSt := (gSt_b hg).1
  obtain ⟨F, hF⟩ : ∃ F, F = xI σ 191 := ⟨_, rfl⟩
  have ho := H.now.2.1
  rw [← hF] at hB ho
  have rJ : J 191 = F := by rw [hF]; funext k; rw [u2 191 k (by omega) (by omega), fr 191 k (by omega)]
  rw [rJ] at K2
  refine ⟨nI (fb_ct (fun s => lW g F s && decide (nI (bk g F s) = x)) (gSt g)), τ, xw τ J, ?_, ?_, INV_i H2.nop⟩
  · unfold f_X11_broken
    rw [xck_ok (sT1 H.shp), Option.bind_some, e1, Option.bind_some]
    dsimp only
    rw [xnz_ok (by decide), Option.bind_some]
    show f_X11_broken_j4 (xw τ (xI τ)) x 170 = _
    unfold f_X11_broken_j4 f_X0_waysOf
    by_cases h0 : x < 0
    · have : fb_ct (fun s => lW g F s && decide (nI (bk g F s) = x)) (gSt g) = 0 := fb_ct_zero.mpr (fun s _ => by
        have hb := bk_b g F s
        have : ¬ nI (bk g F s) = x := fun z => by rw [← z] at h0; exact nI_pos (by omega) h0
        simp [this])
      rw [this]
      simp (disch := first | assumption | omega) only [Option.bind_some, Option.map_some, xw_gR, xw_gN, xw_al, xw_ck, xw_uI, xw_ur, xup_at, xur_at, if_true, if_false, reduceIte, and_true, true_and, and_false, false_and, not_true_eq_false, not_false_eq_true, Nat.reduceEqDiff, eq_self, Nat.reduceAdd, Nat.reduceMul, kC1, kG1, kP1, kR1_0, kR1_1, kR1_2, kR1_3, kR1_4, kR1_5, kR1_6, kR1_7, kR1_8, kR1_9, kR1_10, kR1_11, kR1_12, kR1_13, kC2, kG2, kP2, kR2_0, kR2_1, kC3, kG3, kP3, kR3_0, kR3_1, kR3_2, kR3_3, kL4, kA4, kS4, kL5, kA5, kS5, kL6, kA6, kS6, kL7, kA7, kS7, kC8, kG8, kP8, kR8_0, kR8_1, kL9, kA9, kS9, kL10, kA10, kS10, kC11, kG11, kP11, kR11_0, kR11_1, kR11_2, kR11_3, kL12, kA12, kS12, kL13, kA13, kS13, kL14, kA14, kS14, kL15, kA15, kS15, kC16, kG16, kP16, kR16_0, kR16_1, kL17, kA17, kS17, kL18, kA18, kS18, kC19, kG19, kP19, kR19_0, kL20, kL141, kL146, kA146, kS146, kL151, kA151, kS151, kL156, kA156, kS156, kC157, kG157, kP157, kR157_0, kR157_1, kL158, kA158, kS158, kL159, kA159, kS159, kC161, kG161, kP161, kR161_0, kR161_1, kL162, kA162, kS162, kL163, kA163, kS163, kC165, kG165, kP165, kR165_0, kR165_1, kR165_2, kR165_3, kL166, kA166, kS166, kL167, kA167, kS167, kL168, kA168, kS168, kL169, kA169, kS169, kC170, kG170, kP170, kR170_0, kR170_1, kR170_2, kL171, kA171, kS171, kL172, kA172, kS172, kL173, kA173, kS173, kC174, kG174, kP174, kR174_0, kR174_1, kR174_2, kR174_3, kR174_4, kL175, kA175, kS175, kL176, kA176, kS176, kL177, kA177, kS177, kL178, kA178, kS178, kL179, kC180, kG180, kP180, kL181, kL182, kA182, kS182, kC183, kG183, kP183, kR183_1, kR183_3, kR183_5, kR183_6, kR183_7, kR183_8, kR183_9, kR183_21, kR183_26, kR183_27, kR183_30, kR183_31, kR183_33, kR183_34, kR183_36, kR183_37, kR183_38, kR183_39, kR183_40, kR183_41, kR183_42, kR183_43, kR183_44, kL184, kA184, kS184, kL185, kA185, kS185, kL186, kA186, kS186, kL187, kA187, kS187, kL188, kA188, kS188, kL189, kL190, kL191, kA191, kS191, kL192, kA192, kS192, kL193, kA193, kS193, kL194, kA194, kS194, kL195, kA195, kS195, kL196, kA196, kS196, kL197, kA197, kS197, kL198, kA198, kS198, kL199, kA199, kS199, kL200, kA200, kS200, kL201, kL202, kA202, kS202, kL203, kA203, kS203, kL204, kA204, kS204, kL205, kL206, kA206, kS206, h0]
      rfl
    · obtain ⟨m, hm, rfl⟩ := nn_of h0
      by_cases h33 : 33 ≤ m
      · have : fb_ct (fun s => lW g F s && decide (nI (bk g F s) = nI m)) (gSt g) = 0 := fb_ct_zero.mpr (fun s _ => by
          have hb := bk_b g F s
          have : ¬ nI (bk g F s) = nI m := by rw [nn_eq (by omega) (by omega)]; omega
          simp [this])
        rw [this]
        simp (disch := first | assumption | omega) only [Option.bind_some, Option.map_some, xw_gR, xw_gN, xw_al, xw_ck, xw_uI, xw_ur, xup_at, xur_at, if_true, if_false, reduceIte, and_true, true_and, and_false, false_and, not_true_eq_false, not_false_eq_true, Nat.reduceEqDiff, eq_self, Nat.reduceAdd, Nat.reduceMul, kC1, kG1, kP1, kR1_0, kR1_1, kR1_2, kR1_3, kR1_4, kR1_5, kR1_6, kR1_7, kR1_8, kR1_9, kR1_10, kR1_11, kR1_12, kR1_13, kC2, kG2, kP2, kR2_0, kR2_1, kC3, kG3, kP3, kR3_0, kR3_1, kR3_2, kR3_3, kL4, kA4, kS4, kL5, kA5, kS5, kL6, kA6, kS6, kL7, kA7, kS7, kC8, kG8, kP8, kR8_0, kR8_1, kL9, kA9, kS9, kL10, kA10, kS10, kC11, kG11, kP11, kR11_0, kR11_1, kR11_2, kR11_3, kL12, kA12, kS12, kL13, kA13, kS13, kL14, kA14, kS14, kL15, kA15, kS15, kC16, kG16, kP16, kR16_0, kR16_1, kL17, kA17, kS17, kL18, kA18, kS18, kC19, kG19, kP19, kR19_0, kL20, kL141, kL146, kA146, kS146, kL151, kA151, kS151, kL156, kA156, kS156, kC157, kG157, kP157, kR157_0, kR157_1, kL158, kA158, kS158, kL159, kA159, kS159, kC161, kG161, kP161, kR161_0, kR161_1, kL162, kA162, kS162, kL163, kA163, kS163, kC165, kG165, kP165, kR165_0, kR165_1, kR165_2, kR165_3, kL166, kA166, kS166, kL167, kA167, kS167, kL168, kA168, kS168, kL169, kA169, kS169, kC170, kG170, kP170, kR170_0, kR170_1, kR170_2, kL171, kA171, kS171, kL172, kA172, kS172, kL173, kA173, kS173, kC174, kG174, kP174, kR174_0, kR174_1, kR174_2, kR174_3, kR174_4, kL175, kA175, kS175, kL176, kA176, kS176, kL177, kA177, kS177, kL178, kA178, kS178, kL179, kC180, kG180, kP180, kL181, kL182, kA182, kS182, kC183, kG183, kP183, kR183_1, kR183_3, kR183_5, kR183_6, kR183_7, kR183_8, kR183_9, kR183_21, kR183_26, kR183_27, kR183_30, kR183_31, kR183_33, kR183_34, kR183_36, kR183_37, kR183_38, kR183_39, kR183_40, kR183_41, kR183_42, kR183_43, kR183_44, kL184, kA184, kS184, kL185, kA185, kS185, kL186, kA186, kS186, kL187, kA187, kS187, kL188, kA188, kS188, kL189, kL190, kL191, kA191, kS191, kL192, kA192, kS192, kL193, kA193, kS193, kL194, kA194, kS194, kL195, kA195, kS195, kL196, kA196, kS196, kL197, kA197, kS197, kL198, kA198, kS198, kL199, kA199, kS199, kL200, kA200, kS200, kL201, kL202, kA202, kS202, kL203, kA203, kS203, kL204, kA204, kS204, kL205, kL206, kA206, kS206, h0, nn_le, h33]
        rfl
      · have hv := hB m (by omega)
        simp (disch := first | assumption | omega) only [Option.bind_some, Option.map_some, xw_gR, xw_gN, xw_al, xw_ck, xw_uI, xw_ur, xup_at, xur_at, if_true, if_false, reduceIte, and_true, true_and, and_false, false_and, not_true_eq_false, not_false_eq_true, Nat.reduceEqDiff, eq_self, Nat.reduceAdd, Nat.reduceMul, kC1, kG1, kP1, kR1_0, kR1_1, kR1_2, kR1_3, kR1_4, kR1_5, kR1_6, kR1_7, kR1_8, kR1_9, kR1_10, kR1_11, kR1_12, kR1_13, kC2, kG2, kP2, kR2_0, kR2_1, kC3, kG3, kP3, kR3_0, kR3_1, kR3_2, kR3_3, kL4, kA4, kS4, kL5, kA5, kS5, kL6, kA6, kS6, kL7, kA7, kS7, kC8, kG8, kP8, kR8_0, kR8_1, kL9, kA9, kS9, kL10, kA10, kS10, kC11, kG11, kP11, kR11_0, kR11_1, kR11_2, kR11_3, kL12, kA12, kS12, kL13, kA13, kS13, kL14, kA14, kS14, kL15, kA15, kS15, kC16, kG16, kP16, kR16_0, kR16_1, kL17, kA17, kS17, kL18, kA18, kS18, kC19, kG19, kP19, kR19_0, kL20, kL141, kL146, kA146, kS146, kL151, kA151, kS151, kL156, kA156, kS156, kC157, kG157, kP157, kR157_0, kR157_1, kL158, kA158, kS158, kL159, kA159, kS159, kC161, kG161, kP161, kR161_0, kR161_1, kL162, kA162, kS162, kL163, kA163, kS163, kC165, kG165, kP165, kR165_0, kR165_1, kR165_2, kR165_3, kL166, kA166, kS166, kL167, kA167, kS167, kL168, kA168, kS168, kL169, kA169, kS169, kC170, kG170, kP170, kR170_0, kR170_1, kR170_2, kL171, kA171, kS171, kL172, kA172, kS172, kL173, kA173, kS173, kC174, kG174, kP174, kR174_0, kR174_1, kR174_2, kR174_3, kR174_4, kL175, kA175, kS175, kL176, kA176, kS176, kL177, kA177, kS177, kL178, kA178, kS178, kL179, kC180, kG180, kP180, kL181, kL182, kA182, kS182, kC183, kG183, kP183, kR183_1, kR183_3, kR183_5, kR183_6, kR183_7, kR183_8, kR183_9, kR183_21, kR183_26, kR183_27, kR183_30, kR183_31, kR183_33, kR183_34, kR183_36, kR183_37, kR183_38, kR183_39, kR183_40, kR183_41, kR183_42, kR183_43, kR183_44, kL184, kA184, kS184, kL185, kA185, kS185, kL186, kA186, kS186, kL187, kA187, kS187, kL188, kA188, kS188, kL189, kL190, kL191, kA191, kS191, kL192, kA192, kS192, kL193, kA193, kS193, kL194, kA194, kS194, kL195, kA195, kS195, kL196, kA196, kS196, kL197, kA197, kS197, kL198, kA198, kS198, kL199, kA199, kS199, kL200, kA200, kS200, kL201, kL202, kA202, kS202, kL203, kA203, kS203, kL204, kA204, kS204, kL205, kL206, kA206, kS206, h0, nn_le, h33, hv]
        have : fb_ct (fun s => lW g F s && decide (bk g F s = m)) (gSt g) = fb_ct (fun s => lW g F s && decide (nI (bk g F s) = nI m)) (gSt g) := fb_ct_cong (fun s _ => by
          have hb := bk_b g F s
          have q : (nI (bk g F s) = nI m) = (bk g F s = m) := nn_eq (by omega) (by omega)
          simp only [q])
        rw [this]
        rfl
  · unfold f_X12_broken
    rw [xck_ok (sT183 hS), Option.bind_some, e2, Option.bind_some]
    refine xforE (fun s : Nat => (nI (fb_ct (fun s => lW g F s && decide (nI (bk g F s) = x)) s), nI s)) (gSt g) rfl (fun s hs => ?_) ?_
    · simp only [f_X12_broken_b8]
      have hv := K2.1 s hs
      have hF2 := knF hg ho s
      simp (disch := first | assumption | omega) only [Option.bind_some, Option.map_some, xw_gR, xw_gN, xw_al, xw_ck, xw_uI, xw_ur, xup_at, xur_at, if_true, if_false, reduceIte, and_true, true_and, and_false, false_and, not_true_eq_false, not_false_eq_true, Nat.reduceEqDiff, eq_self, Nat.reduceAdd, Nat.reduceMul, kC1, kG1, kP1, kR1_0, kR1_1, kR1_2, kR1_3, kR1_4, kR1_5, kR1_6, kR1_7, kR1_8, kR1_9, kR1_10, kR1_11, kR1_12, kR1_13, kC2, kG2, kP2, kR2_0, kR2_1, kC3, kG3, kP3, kR3_0, kR3_1, kR3_2, kR3_3, kL4, kA4, kS4, kL5, kA5, kS5, kL6, kA6, kS6, kL7, kA7, kS7, kC8, kG8, kP8, kR8_0, kR8_1, kL9, kA9, kS9, kL10, kA10, kS10, kC11, kG11, kP11, kR11_0, kR11_1, kR11_2, kR11_3, kL12, kA12, kS12, kL13, kA13, kS13, kL14, kA14, kS14, kL15, kA15, kS15, kC16, kG16, kP16, kR16_0, kR16_1, kL17, kA17, kS17, kL18, kA18, kS18, kC19, kG19, kP19, kR19_0, kL20, kL141, kL146, kA146, kS146, kL151, kA151, kS151, kL156, kA156, kS156, kC157, kG157, kP157, kR157_0, kR157_1, kL158, kA158, kS158, kL159, kA159, kS159, kC161, kG161, kP161, kR161_0, kR161_1, kL162, kA162, kS162, kL163, kA163, kS163, kC165, kG165, kP165, kR165_0, kR165_1, kR165_2, kR165_3, kL166, kA166, kS166, kL167, kA167, kS167, kL168, kA168, kS168, kL169, kA169, kS169, kC170, kG170, kP170, kR170_0, kR170_1, kR170_2, kL171, kA171, kS171, kL172, kA172, kS172, kL173, kA173, kS173, kC174, kG174, kP174, kR174_0, kR174_1, kR174_2, kR174_3, kR174_4, kL175, kA175, kS175, kL176, kA176, kS176, kL177, kA177, kS177, kL178, kA178, kS178, kL179, kC180, kG180, kP180, kL181, kL182, kA182, kS182, kC183, kG183, kP183, kR183_1, kR183_3, kR183_5, kR183_6, kR183_7, kR183_8, kR183_9, kR183_21, kR183_26, kR183_27, kR183_30, kR183_31, kR183_33, kR183_34, kR183_36, kR183_37, kR183_38, kR183_39, kR183_40, kR183_41, kR183_42, kR183_43, kR183_44, kL184, kA184, kS184, kL185, kA185, kS185, kL186, kA186, kS186, kL187, kA187, kS187, kL188, kA188, kS188, kL189, kL190, kL191, kA191, kS191, kL192, kA192, kS192, kL193, kA193, kS193, kL194, kA194, kS194, kL195, kA195, kS195, kL196, kA196, kS196, kL197, kA197, kS197, kL198, kA198, kS198, kL199, kA199, kS199, kL200, kA200, kS200, kL201, kL202, kA202, kS202, kL203, kA203, kS203, kL204, kA204, kS204, kL205, kL206, kA206, kS206, states12_ok hS hG2, nn_le, show ¬ (gSt g ≤ s) by omega, hv, hF2, broken12_ok hS hG2 rJ (show s < 2147483648 by omega)]
      rw [fb_ct_succ, ← nI_succ, ← nI_succ]
      cases lW g F s with
      | false => simp
      | true =>
        rw [if_neg (by decide)]
        by_cases hc : nI (bk g F s) = x
        · rw [if_pos hc]; simp [hc]
        · rw [if_neg hc]; simp [hc]
    · simp only [f_X12_broken_b8]
      simp (disch := first | assumption | omega) only [Option.bind_some, Option.map_some, xw_gR, xw_gN, xw_al, xw_ck, xw_uI, xw_ur, xup_at, xur_at, if_true, if_false, reduceIte, and_true, true_and, and_false, false_and, not_true_eq_false, not_false_eq_true, Nat.reduceEqDiff, eq_self, Nat.reduceAdd, Nat.reduceMul, kC1, kG1, kP1, kR1_0, kR1_1, kR1_2, kR1_3, kR1_4, kR1_5, kR1_6, kR1_7, kR1_8, kR1_9, kR1_10, kR1_11, kR1_12, kR1_13, kC2, kG2, kP2, kR2_0, kR2_1, kC3, kG3, kP3, kR3_0, kR3_1, kR3_2, kR3_3, kL4, kA4, kS4, kL5, kA5, kS5, kL6, kA6, kS6, kL7, kA7, kS7, kC8, kG8, kP8, kR8_0, kR8_1, kL9, kA9, kS9, kL10, kA10, kS10, kC11, kG11, kP11, kR11_0, kR11_1, kR11_2, kR11_3, kL12, kA12, kS12, kL13, kA13, kS13, kL14, kA14, kS14, kL15, kA15, kS15, kC16, kG16, kP16, kR16_0, kR16_1, kL17, kA17, kS17, kL18, kA18, kS18, kC19, kG19, kP19, kR19_0, kL20, kL141, kL146, kA146, kS146, kL151, kA151, kS151, kL156, kA156, kS156, kC157, kG157, kP157, kR157_0, kR157_1, kL158, kA158, kS158, kL159, kA159, kS159, kC161, kG161, kP161, kR161_0, kR161_1, kL162, kA162, kS162, kL163, kA163, kS163, kC165, kG165, kP165, kR165_0, kR165_1, kR165_2, kR165_3, kL166, kA166, kS166, kL167, kA167, kS167, kL168, kA168, kS168, kL169, kA169, kS169, kC170, kG170, kP170, kR170_0, kR170_1, kR170_2, kL171, kA171, kS171, kL172, kA172, kS172, kL173, kA173, kS173, kC174, kG174, kP174, kR174_0, kR174_1, kR174_2, kR174_3, kR174_4, kL175, kA175, kS175, kL176, kA176, kS176, kL177, kA177, kS177, kL178, kA178, kS178, kL179, kC180, kG180, kP180, kL181, kL182, kA182, kS182, kC183, kG183, kP183, kR183_1, kR183_3, kR183_5, kR183_6, kR183_7, kR183_8, kR183_9, kR183_21, kR183_26, kR183_27, kR183_30, kR183_31, kR183_33, kR183_34, kR183_36, kR183_37, kR183_38, kR183_39, kR183_40, kR183_41, kR183_42, kR183_43, kR183_44, kL184, kA184, kS184, kL185, kA185, kS185, kL186, kA186, kS186, kL187, kA187, kS187, kL188, kA188, kS188, kL189, kL190, kL191, kA191, kS191, kL192, kA192, kS192, kL193, kA193, kS193, kL194, kA194, kS194, kL195, kA195, kS195, kL196, kA196, kS196, kL197, kA197, kS197, kL198, kA198, kS198, kL199, kA199, kS199, kL200, kA200, kS200, kL201, kL202, kA202, kS202, kL203, kA203, kS203, kL204, kA204, kS204, kL205, kL206, kA206, kS206, states12_ok hS hG2, nn_le, Nat.le_refl]
end
section
/-! rows -/
def inN (N : Nat) (x : Int32) : Bool := decide (0 ≤ x.toInt) && decide (x.toInt < (N : Int))
theorem inN_t {N : Nat} {x : Int32} (h : inN N x = true) : ∃ i, i < N ∧ x = nI i := by
  unfold inN at h
  simp only [Bool.and_eq_true, decide_eq_true_eq] at h
  refine ⟨x.toInt.toNat, by omega, ?_⟩
  rw [iI_n, Int.toNat_of_nonneg h.1]
  exact iI_of x
theorem inN_n {N i : Nat} (h : i < N) (hN : N ≤ 1073741824) : inN N (nI i) = true := by
  unfold inN
  rw [nI_toInt (by omega), Bool.and_eq_true, decide_eq_true_eq, decide_eq_true_eq]
  omega
theorem inN_in {N : Nat} (hN : N ≤ 1073741824) (x : Int32) : f_X12_in x 0 (nI N - 1) = some (if inN N x then 1 else 0) := by
  unfold f_X12_in
  have e : nI N - 1 = iI ((N : Int) - 1) := by rw [iI_n, show (1 : Int32) = iI 1 from rfl, iI_sub]
  have hr := x.toInt_lt
  have hl := x.le_toInt
  have c1 : (x < 0) = (x.toInt < 0) := propext (fa_lt _ _)
  have c2 : (iI ((N : Int) - 1) < x) = ((N : Int) - 1 < x.toInt) := by rw [fa_lt, iI_ti (by omega) (by omega)]
  unfold inN
  simp only [e, c1, c2]
  by_cases h1 : x.toInt < 0
  · have : ¬ (0 ≤ x.toInt) := by omega
    simp [h1, this]
  · by_cases h2 : (N : Int) - 1 < x.toInt
    · have a : ¬ (x.toInt < (N : Int)) := by omega
      simp [h1, h2, a]
    · have a : (x.toInt < (N : Int)) := by omega
      have b : 0 ≤ x.toInt := by omega
      simp [h1, h2, a, b]
theorem inN_f {N : Nat} (hN : N ≤ 1073741824) {x : Int32} (h : inN N x = false) : x < 0 ∨ ∃ i, i < 2147483648 ∧ x = nI i ∧ N ≤ i := by
  by_cases h0 : x < 0
  · exact .inl h0
  · obtain ⟨i, hi, rfl⟩ := nn_of h0
    refine .inr ⟨i, hi, rfl, ?_⟩
    rcases Nat.lt_or_ge i N with z | z
    · rw [inN_n z hN] at h; cases h
    · exact z
theorem energiesOfRows_ok {n : Nat} {σ : XS} {g : GD} {gT gP : GH} {st : Nat} (hn : n ≤ 512) (H : IV n σ g gT gP st) {r : Nat} (hr : r < g.2.1) : ∃ τ E c m, f_X11_energiesOfRows σ 1 (nI r) = some (E, τ) ∧ IV n τ g gT gP st ∧ EnO τ E c m ∧ 2 ^ (g.1 * (r + 1)) ≤ m ∧ (∀ s, s < 2 ^ (g.1 * (r + 1)) → xI τ c s = iI (eP g (zR (xI σ 191)) (g.1 * (r + 1)) s)) ∧ ∀ a k, (a < 157 ∨ (183 ≤ a ∧ a ≤ 206)) → xI τ a k = xI σ a k := by
  have hS := H.shp
  have hG := H.grd
  have hg := hG.1
  have hb := gAll_b g hg
  have hk := gRow3 g hg (r + 1) (by omega) (by omega)
  have e1l : nI g.2.1 - (1 : Int32) = nI (g.2.1 - 1) := by rw [show (1 : Int32) = nI 1 from rfl, nn_sub (by omega)]
  have hcmp : (nI r = nI (g.2.1 - 1)) = (r = g.2.1 - 1) := nn_eq (by omega) (by omega)
  by_cases hlast : r = g.2.1 - 1
  · obtain ⟨τ, e1, H1, K1, u1, -⟩ := energiesNow_ok hn H
    obtain ⟨c, a, hE, ha, hcn⟩ := H1.en157
    have rτ : xI τ 191 = xI σ 191 := by funext k; exact u1 191 k (by omega)
    rw [rτ] at K1
    have hkn : g.1 * (r + 1) = gSz g := by unfold gSz; rw [show r + 1 = g.2.1 by omega]
    have hm := K1.1
    rw [hE.2.1] at hm
    unfold xlen at hm
    rw [hE.2.2.1] at hm
    refine ⟨τ, 157, c, 2 ^ a, ?_, H1, hE, by rw [hkn]; exact hm, fun s hs => ?_, fun a k h => u1 a k (by omega)⟩
    · show f_X11_energiesOfRows (xw σ (xI σ)) 1 (nI r) = _
      unfold f_X11_energiesOfRows f_X11_energiesOfRows_j17
      have e1' : f_X11_energiesNow (xw σ (xI σ)) 1 = some (157, τ) := e1
      simp (disch := first | assumption | omega) only [Option.bind_some, Option.map_some, xw_gR, xw_gN, xw_al, xw_ck, xw_uI, xw_ur, xup_at, xur_at, if_true, if_false, reduceIte, and_true, true_and, and_false, false_and, not_true_eq_false, not_false_eq_true, Nat.reduceEqDiff, eq_self, Nat.reduceAdd, Nat.reduceMul, kC1, kG1, kP1, kR1_0, kR1_1, kR1_2, kR1_3, kR1_4, kR1_5, kR1_6, kR1_7, kR1_8, kR1_9, kR1_10, kR1_11, kR1_12, kR1_13, kC2, kG2, kP2, kR2_0, kR2_1, kC3, kG3, kP3, kR3_0, kR3_1, kR3_2, kR3_3, kL4, kA4, kS4, kL5, kA5, kS5, kL6, kA6, kS6, kL7, kA7, kS7, kC8, kG8, kP8, kR8_0, kR8_1, kL9, kA9, kS9, kL10, kA10, kS10, kC11, kG11, kP11, kR11_0, kR11_1, kR11_2, kR11_3, kL12, kA12, kS12, kL13, kA13, kS13, kL14, kA14, kS14, kL15, kA15, kS15, kC16, kG16, kP16, kR16_0, kR16_1, kL17, kA17, kS17, kL18, kA18, kS18, kC19, kG19, kP19, kR19_0, kL20, kL141, kL146, kA146, kS146, kL151, kA151, kS151, kL156, kA156, kS156, kC157, kG157, kP157, kR157_0, kR157_1, kL158, kA158, kS158, kL159, kA159, kS159, kC161, kG161, kP161, kR161_0, kR161_1, kL162, kA162, kS162, kL163, kA163, kS163, kC165, kG165, kP165, kR165_0, kR165_1, kR165_2, kR165_3, kL166, kA166, kS166, kL167, kA167, kS167, kL168, kA168, kS168, kL169, kA169, kS169, kC170, kG170, kP170, kR170_0, kR170_1, kR170_2, kL171, kA171, kS171, kL172, kA172, kS172, kL173, kA173, kS173, kC174, kG174, kP174, kR174_0, kR174_1, kR174_2, kR174_3, kR174_4, kL175, kA175, kS175, kL176, kA176, kS176, kL177, kA177, kS177, kL178, kA178, kS178, kL179, kC180, kG180, kP180, kL181, kL182, kA182, kS182, kC183, kG183, kP183, kR183_1, kR183_3, kR183_5, kR183_6, kR183_7, kR183_8, kR183_9, kR183_21, kR183_26, kR183_27, kR183_30, kR183_31, kR183_33, kR183_34, kR183_36, kR183_37, kR183_38, kR183_39, kR183_40, kR183_41, kR183_42, kR183_43, kR183_44, kL184, kA184, kS184, kL185, kA185, kS185, kL186, kA186, kS186, kL187, kA187, kS187, kL188, kA188, kS188, kL189, kL190, kL191, kA191, kS191, kL192, kA192, kS192, kL193, kA193, kS193, kL194, kA194, kS194, kL195, kA195, kS195, kL196, kA196, kS196, kL197, kA197, kS197, kL198, kA198, kS198, kL199, kA199, kS199, kL200, kA200, kS200, kL201, kL202, kA202, kS202, kL203, kA203, kS203, kL204, kA204, kS204, kL205, kL206, kA206, kS206, hG.2.2.1, e1l, hcmp, hlast, e1', xnz_ok]
    · rw [hkn] at hs ⊢
      have := K1.2 s hs
      rw [hE.2.1] at this
      rw [this, eP_all hg]
  · obtain ⟨c, b, hE, hbb, hcn⟩ := H.en161
    have hEb := hE.b
    have K17 : σ.1 17 = (20, 32) := xw_K hS (by decide) (by decide) (by decide)
    have K18 : σ.1 18 = (20, 16) := xw_K hS (by decide) (by decide) (by decide)
    have hf := SR_fill hg H.now.1 H.now.2.1
    obtain ⟨τ, e1, hτ⟩ := fill11_ok (I := xI σ) (k := g.1 * (r + 1)) hS hG hE hbb hcn K17 K18 (by omega) (by omega) (by omega) (by omega) (by omega) (by omega) hk hf.1 hf.2
    have HA := H.aside hE (fun a k h => rfl) hτ
    obtain ⟨hτS, ⟨c', b', hE', f1, f2, f3, f4, f5, f6, f7, f8, f9⟩, f10, f11, f12, f13⟩ := hτ
    have hEb' := hE'.b
    have h206 := hS.1
    refine ⟨τ, 161, c', 2 ^ b', ?_, HA, hE', Nat.pow_le_pow_right (by decide) f3, f8, fun a k h => f9 a k (by omega) (by omega) (by omega)⟩
    show f_X11_energiesOfRows (xw σ (xI σ)) 1 (nI r) = _
    unfold f_X11_energiesOfRows f_X11_energiesOfRows_j54
    have hmul : (nI r + (1 : Int32)) * nI g.1 = nI (g.1 * (r + 1)) := by rw [show (1 : Int32) = nI 1 from rfl, nn_add, nn_mul, Nat.mul_comm]
    simp (disch := first | assumption | omega) only [Option.bind_some, Option.map_some, xw_gR, xw_gN, xw_al, xw_ck, xw_uI, xw_ur, xup_at, xur_at, if_true, if_false, reduceIte, and_true, true_and, and_false, false_and, not_true_eq_false, not_false_eq_true, Nat.reduceEqDiff, eq_self, Nat.reduceAdd, Nat.reduceMul, kC1, kG1, kP1, kR1_0, kR1_1, kR1_2, kR1_3, kR1_4, kR1_5, kR1_6, kR1_7, kR1_8, kR1_9, kR1_10, kR1_11, kR1_12, kR1_13, kC2, kG2, kP2, kR2_0, kR2_1, kC3, kG3, kP3, kR3_0, kR3_1, kR3_2, kR3_3, kL4, kA4, kS4, kL5, kA5, kS5, kL6, kA6, kS6, kL7, kA7, kS7, kC8, kG8, kP8, kR8_0, kR8_1, kL9, kA9, kS9, kL10, kA10, kS10, kC11, kG11, kP11, kR11_0, kR11_1, kR11_2, kR11_3, kL12, kA12, kS12, kL13, kA13, kS13, kL14, kA14, kS14, kL15, kA15, kS15, kC16, kG16, kP16, kR16_0, kR16_1, kL17, kA17, kS17, kL18, kA18, kS18, kC19, kG19, kP19, kR19_0, kL20, kL141, kL146, kA146, kS146, kL151, kA151, kS151, kL156, kA156, kS156, kC157, kG157, kP157, kR157_0, kR157_1, kL158, kA158, kS158, kL159, kA159, kS159, kC161, kG161, kP161, kR161_0, kR161_1, kL162, kA162, kS162, kL163, kA163, kS163, kC165, kG165, kP165, kR165_0, kR165_1, kR165_2, kR165_3, kL166, kA166, kS166, kL167, kA167, kS167, kL168, kA168, kS168, kL169, kA169, kS169, kC170, kG170, kP170, kR170_0, kR170_1, kR170_2, kL171, kA171, kS171, kL172, kA172, kS172, kL173, kA173, kS173, kC174, kG174, kP174, kR174_0, kR174_1, kR174_2, kR174_3, kR174_4, kL175, kA175, kS175, kL176, kA176, kS176, kL177, kA177, kS177, kL178, kA178, kS178, kL179, kC180, kG180, kP180, kL181, kL182, kA182, kS182, kC183, kG183, kP183, kR183_1, kR183_3, kR183_5, kR183_6, kR183_7, kR183_8, kR183_9, kR183_21, kR183_26, kR183_27, kR183_30, kR183_31, kR183_33, kR183_34, kR183_36, kR183_37, kR183_38, kR183_39, kR183_40, kR183_41, kR183_42, kR183_43, kR183_44, kL184, kA184, kS184, kL185, kA185, kS185, kL186, kA186, kS186, kL187, kA187, kS187, kL188, kA188, kS188, kL189, kL190, kL191, kA191, kS191, kL192, kA192, kS192, kL193, kA193, kS193, kL194, kA194, kS194, kL195, kA195, kS195, kL196, kA196, kS196, kL197, kA197, kS197, kL198, kA198, kS198, kL199, kA199, kS199, kL200, kA200, kS200, kL201, kL202, kA202, kS202, kL203, kA203, kS203, kL204, kA204, kS204, kL205, kL206, kA206, kS206, hG.2.2.1, hG.2.1, e1l, hcmp, hlast, hmul, e1]
    rw [xnz_ok (by decide)]
    rfl
/-- the lawful states of the first k sites -/
def lwk (F : Nat → Int32) (k s : Nat) : Bool := (List.range k).all (fun i => decide (F (48 + i) = 0) || (s.testBit i == decide (F (48 + i) = 1)))
theorem lwk_iff {F : Nat → Int32} {k s : Nat} : lwk F k s = true ↔ ∀ i, i < k → F (48 + i) ≠ 0 → s.testBit i = decide (F (48 + i) = 1) := by
  unfold lwk
  rw [List.all_eq_true]
  constructor
  · intro h i hi hne
    have := h i (List.mem_range.mpr hi)
    simp only [hne, decide_false, Bool.false_or, beq_iff_eq] at this
    exact this
  · intro h i hi
    by_cases hne : F (48 + i) = 0
    · simp [hne]
    · have := h i (List.mem_range.mp hi) hne
      simp [hne, this]
theorem op_rows : Op_rows INV := by
  intro n σ hn ⟨g, gT, gP, st, H⟩ x y z
  have hS := H.shp
  have hG := H.grd
  have hg := hG.1
  have hb := gAll_b g hg
  have hpw : 2 ^ g.1 ≤ 2 ^ 4 := Nat.pow_le_pow_right (by decide) hb.1
  have h24 : (2 : Nat) ^ 4 = 16 := by decide
  by_cases hx1 : inN g.2.1 x = true
  · obtain ⟨r, hr, rfl⟩ := inN_t hx1
    have x0 : ¬ nI r < 0 := nI_pos (by omega)
    have x1 : ¬ g.2.1 ≤ r := by omega
    by_cases hy1 : inN (2 ^ g.1) y = true
    · obtain ⟨w, hw, rfl⟩ := inN_t hy1
      obtain ⟨τ, E, c, m, e1, H1, hE, hm, hv, fr⟩ := energiesOfRows_ok (by omega) H hr
      have hSτ := H1.shp
      have hGτ := H1.grd
      obtain ⟨F, hF⟩ : ∃ F, F = xI σ 191 := ⟨_, rfl⟩
      have rτ : xI τ 191 = F := by rw [hF]; funext k; exact fr 191 k (by omega)
      have hSR := H1.now.1
      have ho := H1.now.2.1
      rw [rτ] at hSR ho
      rw [← hF] at hv
      obtain ⟨-, -, ⟨p, u, e3, e4, e5, e6⟩, -, -⟩ := id hSR
      have hk := gRow3 g hg (r + 1) (by omega) (by omega)
      obtain ⟨k, hkd⟩ : ∃ k, k = g.1 * (r + 1) := ⟨_, rfl⟩
      obtain ⟨at0, had⟩ : ∃ a, a = g.1 * r := ⟨_, rfl⟩
      have hka : k = at0 + g.1 := by rw [hkd, had, Nat.mul_succ]
      rw [← hkd] at hm hv hk
      have hpk : 2 ^ k ≤ 2 ^ 16 := Nat.pow_le_pow_right (by decide) (by omega)
      have h65 : (2 : Nat) ^ 16 = 65536 := by decide
      have hpk2 : 2 ^ k = 2 ^ at0 * 2 ^ g.1 := by rw [hka, Nat.pow_add]
      have hpa : 0 < 2 ^ at0 := Nat.two_pow_pos _
      have hbase : w * 2 ^ at0 + 2 ^ at0 ≤ 2 ^ k := by
        rw [hpk2, Nat.mul_comm (2 ^ at0), ← Nat.succ_mul]
        exact Nat.mul_le_mul_right _ hw
      obtain ⟨q, hq⟩ : ∃ q : Nat → Bool, q = fun low => lwk F k (w * 2 ^ at0 + low) && decide (iI (eP g (zR F) k (w * 2 ^ at0 + low)) = z) := ⟨_, rfl⟩
      have hp : p < 65536 := Nat.lt_pow_two_of_testBit (n := 16) p (fun j hj => by rw [e5]; simp; omega)
      have hu : u < 65536 := Nat.lt_pow_two_of_testBit (n := 16) u (fun j hj => by rw [e6]; simp; omega)
      refine ⟨nI (fb_ct q (2 ^ at0)), τ, ?_, ?_, INV_i H1.nop⟩
      · show f_X11_rows (xw σ (xI σ)) 1 (nI r) (nI w) z = _
        unfold f_X11_rows
        have e1' : f_X11_energiesOfRows (xw σ (xI σ)) 1 (nI r) = some (E, τ) := e1
        have y0 : ¬ nI w < 0 := nI_pos (by omega)
        have hE0 : E ≠ 0 := by rcases hE.1 with z | z <;> omega
        have hwl : (nI w < nI (2 ^ g.1)) = True := by rw [nn_lt (by omega) (by omega)]; exact eq_true hw
        simp (disch := first | assumption | omega) only [Option.bind_some, Option.map_some, xw_gR, xw_gN, xw_al, xw_ck, xw_uI, xw_ur, xup_at, xur_at, if_true, if_false, reduceIte, and_true, true_and, and_false, false_and, not_true_eq_false, not_false_eq_true, Nat.reduceEqDiff, eq_self, Nat.reduceAdd, Nat.reduceMul, kC1, kG1, kP1, kR1_0, kR1_1, kR1_2, kR1_3, kR1_4, kR1_5, kR1_6, kR1_7, kR1_8, kR1_9, kR1_10, kR1_11, kR1_12, kR1_13, kC2, kG2, kP2, kR2_0, kR2_1, kC3, kG3, kP3, kR3_0, kR3_1, kR3_2, kR3_3, kL4, kA4, kS4, kL5, kA5, kS5, kL6, kA6, kS6, kL7, kA7, kS7, kC8, kG8, kP8, kR8_0, kR8_1, kL9, kA9, kS9, kL10, kA10, kS10, kC11, kG11, kP11, kR11_0, kR11_1, kR11_2, kR11_3, kL12, kA12, kS12, kL13, kA13, kS13, kL14, kA14, kS14, kL15, kA15, kS15, kC16, kG16, kP16, kR16_0, kR16_1, kL17, kA17, kS17, kL18, kA18, kS18, kC19, kG19, kP19, kR19_0, kL20, kL141, kL146, kA146, kS146, kL151, kA151, kS151, kL156, kA156, kS156, kC157, kG157, kP157, kR157_0, kR157_1, kL158, kA158, kS158, kL159, kA159, kS159, kC161, kG161, kP161, kR161_0, kR161_1, kL162, kA162, kS162, kL163, kA163, kS163, kC165, kG165, kP165, kR165_0, kR165_1, kR165_2, kR165_3, kL166, kA166, kS166, kL167, kA167, kS167, kL168, kA168, kS168, kL169, kA169, kS169, kC170, kG170, kP170, kR170_0, kR170_1, kR170_2, kL171, kA171, kS171, kL172, kA172, kS172, kL173, kA173, kS173, kC174, kG174, kP174, kR174_0, kR174_1, kR174_2, kR174_3, kR174_4, kL175, kA175, kS175, kL176, kA176, kS176, kL177, kA177, kS177, kL178, kA178, kS178, kL179, kC180, kG180, kP180, kL181, kL182, kA182, kS182, kC183, kG183, kP183, kR183_1, kR183_3, kR183_5, kR183_6, kR183_7, kR183_8, kR183_9, kR183_21, kR183_26, kR183_27, kR183_30, kR183_31, kR183_33, kR183_34, kR183_36, kR183_37, kR183_38, kR183_39, kR183_40, kR183_41, kR183_42, kR183_43, kR183_44, kL184, kA184, kS184, kL185, kA185, kS185, kL186, kA186, kS186, kL187, kA187, kS187, kL188, kA188, kS188, kL189, kL190, kL191, kA191, kS191, kL192, kA192, kS192, kL193, kA193, kS193, kL194, kA194, kS194, kL195, kA195, kS195, kL196, kA196, kS196, kL197, kA197, kS197, kL198, kA198, kS198, kL199, kA199, kS199, kL200, kA200, kS200, kL201, kL202, kA202, kS202, kL203, kA203, kS203, kL204, kA204, kS204, kL205, kL206, kA206, kS206, x0, hG.2.2.1, nn_le, x1, y0, hG.2.1, nn_one, hwl, e1', xnz_ok hE0]
        show f_X11_rows_j39 (xw τ (xI τ)) 1 (nI r) (nI w) z E = _
        unfold f_X11_rows_j39
        have m1 : nI r * nI g.1 = nI at0 := by rw [nn_mul, had, Nat.mul_comm]
        have m2 : nI at0 + nI g.1 = nI k := by rw [nn_add, hka]
        simp (disch := first | assumption | omega) only [Option.bind_some, Option.map_some, xw_gR, xw_gN, xw_al, xw_ck, xw_uI, xw_ur, xup_at, xur_at, if_true, if_false, reduceIte, and_true, true_and, and_false, false_and, not_true_eq_false, not_false_eq_true, Nat.reduceEqDiff, eq_self, Nat.reduceAdd, Nat.reduceMul, kC1, kG1, kP1, kR1_0, kR1_1, kR1_2, kR1_3, kR1_4, kR1_5, kR1_6, kR1_7, kR1_8, kR1_9, kR1_10, kR1_11, kR1_12, kR1_13, kC2, kG2, kP2, kR2_0, kR2_1, kC3, kG3, kP3, kR3_0, kR3_1, kR3_2, kR3_3, kL4, kA4, kS4, kL5, kA5, kS5, kL6, kA6, kS6, kL7, kA7, kS7, kC8, kG8, kP8, kR8_0, kR8_1, kL9, kA9, kS9, kL10, kA10, kS10, kC11, kG11, kP11, kR11_0, kR11_1, kR11_2, kR11_3, kL12, kA12, kS12, kL13, kA13, kS13, kL14, kA14, kS14, kL15, kA15, kS15, kC16, kG16, kP16, kR16_0, kR16_1, kL17, kA17, kS17, kL18, kA18, kS18, kC19, kG19, kP19, kR19_0, kL20, kL141, kL146, kA146, kS146, kL151, kA151, kS151, kL156, kA156, kS156, kC157, kG157, kP157, kR157_0, kR157_1, kL158, kA158, kS158, kL159, kA159, kS159, kC161, kG161, kP161, kR161_0, kR161_1, kL162, kA162, kS162, kL163, kA163, kS163, kC165, kG165, kP165, kR165_0, kR165_1, kR165_2, kR165_3, kL166, kA166, kS166, kL167, kA167, kS167, kL168, kA168, kS168, kL169, kA169, kS169, kC170, kG170, kP170, kR170_0, kR170_1, kR170_2, kL171, kA171, kS171, kL172, kA172, kS172, kL173, kA173, kS173, kC174, kG174, kP174, kR174_0, kR174_1, kR174_2, kR174_3, kR174_4, kL175, kA175, kS175, kL176, kA176, kS176, kL177, kA177, kS177, kL178, kA178, kS178, kL179, kC180, kG180, kP180, kL181, kL182, kA182, kS182, kC183, kG183, kP183, kR183_1, kR183_3, kR183_5, kR183_6, kR183_7, kR183_8, kR183_9, kR183_21, kR183_26, kR183_27, kR183_30, kR183_31, kR183_33, kR183_34, kR183_36, kR183_37, kR183_38, kR183_39, kR183_40, kR183_41, kR183_42, kR183_43, kR183_44, kL184, kA184, kS184, kL185, kA185, kS185, kL186, kA186, kS186, kL187, kA187, kS187, kL188, kA188, kS188, kL189, kL190, kL191, kA191, kS191, kL192, kA192, kS192, kL193, kA193, kS193, kL194, kA194, kS194, kL195, kA195, kS195, kL196, kA196, kS196, kL197, kA197, kS197, kL198, kA198, kS198, kL199, kA199, kS199, kL200, kA200, kS200, kL201, kL202, kA202, kS202, kL203, kA203, kS203, kL204, kA204, kS204, kL205, kL206, kA206, kS206, hGτ.2.1, m1, m2, nn_one, nn_shl]
        have kn1 : nI (2 ^ k) - (1 : Int32) = nI (2 ^ k - 1) := by rw [show (1 : Int32) = nI 1 from rfl, nn_sub (Nat.two_pow_pos k)]
        rw [kn1, nn_add]
        refine xforE (fun low : Nat => (nI (fb_ct q low), nI (w * 2 ^ at0 + low))) (2 ^ at0) rfl (fun low hlow => ?_) ?_
        · simp only [f_X11_rows_b90]
          have hlt : w * 2 ^ at0 + low < 2 ^ k := by omega
          rw [if_neg (by rw [nn_le (by omega) (by omega)]; omega)]
          have hof : f_X2_of (xw τ (xI τ)) E (nI (w * 2 ^ at0 + low)) = some (iI (eP g (zR F) k (w * 2 ^ at0 + low))) := by
            rw [of_at hSτ hE (by omega), hv _ hlt]
          have hlw : (nI ((w * 2 ^ at0 + low) &&& p) = nI (u &&& (2 ^ k - 1))) = (lwk F k (w * 2 ^ at0 + low) = true) := by
            have b1 : (w * 2 ^ at0 + low) &&& p < 65536 := Nat.lt_of_le_of_lt Nat.and_le_right hp
            have b2 : u &&& (2 ^ k - 1) < 65536 := Nat.lt_of_le_of_lt Nat.and_le_left hu
            rw [nn_eq (by omega) (by omega), lwk_iff]
            apply propext
            constructor
            · intro h i hi hne
              have := congrArg (fun x => Nat.testBit x i) h
              have hi2 : i < gSz g := by omega
              simp [Nat.testBit_and, Nat.testBit_two_pow_sub_one, e5, e6, hi, hi2, hne] at this
              exact this
            · intro h
              apply Nat.eq_of_testBit_eq
              intro i
              rw [Nat.testBit_and, Nat.testBit_and, Nat.testBit_two_pow_sub_one, e5, e6]
              by_cases hi : i < k
              · have hi2 : i < gSz g := by omega
                by_cases hne : F (48 + i) = 0
                · simp [hi, hi2, hne]
                · rw [h i hi hne]; simp [hi, hi2, hne]
              · have : (w * 2 ^ at0 + low).testBit i = false := Nat.testBit_lt_two_pow (Nat.lt_of_lt_of_le hlt (Nat.pow_le_pow_right (by decide) (by omega)))
                simp [hi, this]
          simp (disch := first | assumption | omega) only [Option.bind_some, Option.map_some, xw_gR, xw_gN, xw_al, xw_ck, xw_uI, xw_ur, xup_at, xur_at, if_true, if_false, reduceIte, and_true, true_and, and_false, false_and, not_true_eq_false, not_false_eq_true, Nat.reduceEqDiff, eq_self, Nat.reduceAdd, Nat.reduceMul, kC1, kG1, kP1, kR1_0, kR1_1, kR1_2, kR1_3, kR1_4, kR1_5, kR1_6, kR1_7, kR1_8, kR1_9, kR1_10, kR1_11, kR1_12, kR1_13, kC2, kG2, kP2, kR2_0, kR2_1, kC3, kG3, kP3, kR3_0, kR3_1, kR3_2, kR3_3, kL4, kA4, kS4, kL5, kA5, kS5, kL6, kA6, kS6, kL7, kA7, kS7, kC8, kG8, kP8, kR8_0, kR8_1, kL9, kA9, kS9, kL10, kA10, kS10, kC11, kG11, kP11, kR11_0, kR11_1, kR11_2, kR11_3, kL12, kA12, kS12, kL13, kA13, kS13, kL14, kA14, kS14, kL15, kA15, kS15, kC16, kG16, kP16, kR16_0, kR16_1, kL17, kA17, kS17, kL18, kA18, kS18, kC19, kG19, kP19, kR19_0, kL20, kL141, kL146, kA146, kS146, kL151, kA151, kS151, kL156, kA156, kS156, kC157, kG157, kP157, kR157_0, kR157_1, kL158, kA158, kS158, kL159, kA159, kS159, kC161, kG161, kP161, kR161_0, kR161_1, kL162, kA162, kS162, kL163, kA163, kS163, kC165, kG165, kP165, kR165_0, kR165_1, kR165_2, kR165_3, kL166, kA166, kS166, kL167, kA167, kS167, kL168, kA168, kS168, kL169, kA169, kS169, kC170, kG170, kP170, kR170_0, kR170_1, kR170_2, kL171, kA171, kS171, kL172, kA172, kS172, kL173, kA173, kS173, kC174, kG174, kP174, kR174_0, kR174_1, kR174_2, kR174_3, kR174_4, kL175, kA175, kS175, kL176, kA176, kS176, kL177, kA177, kS177, kL178, kA178, kS178, kL179, kC180, kG180, kP180, kL181, kL182, kA182, kS182, kC183, kG183, kP183, kR183_1, kR183_3, kR183_5, kR183_6, kR183_7, kR183_8, kR183_9, kR183_21, kR183_26, kR183_27, kR183_30, kR183_31, kR183_33, kR183_34, kR183_36, kR183_37, kR183_38, kR183_39, kR183_40, kR183_41, kR183_42, kR183_43, kR183_44, kL184, kA184, kS184, kL185, kA185, kS185, kL186, kA186, kS186, kL187, kA187, kS187, kL188, kA188, kS188, kL189, kL190, kL191, kA191, kS191, kL192, kA192, kS192, kL193, kA193, kS193, kL194, kA194, kS194, kL195, kA195, kS195, kL196, kA196, kS196, kL197, kA197, kS197, kL198, kA198, kS198, kL199, kA199, kS199, kL200, kA200, kS200, kL201, kL202, kA202, kS202, kL203, kA203, kS203, kL204, kA204, kS204, kL205, kL206, kA206, kS206, e3, e4, fa_and, hlw]
          rw [xck_ok (hE.T hSτ), Option.bind_some, hof, Option.bind_some, fb_ct_succ, ← nI_succ, ← nI_succ]
          have vq : q low = (lwk F k (w * 2 ^ at0 + low) && decide (iI (eP g (zR F) k (w * 2 ^ at0 + low)) = z)) := by rw [hq]
          rw [vq]
          by_cases h1 : lwk F k (w * 2 ^ at0 + low) = true
          · rw [if_pos h1]
            by_cases h2 : iI (eP g (zR F) k (w * 2 ^ at0 + low)) = z
            · rw [if_pos h2]; simp [h1, h2]; rfl
            · rw [if_neg h2]; simp [h2]; rfl
          · rw [if_neg h1]; simp [h1]; rfl
        · simp only [f_X11_rows_b90]
          rw [if_pos (by rw [nn_le (by omega) (by omega)]; exact Nat.le_refl _)]
          rfl
      · show f_X12_rows (xw τ (xI τ)) 183 (nI r) (nI w) z = _
        unfold f_X12_rows
        have hKK : τ.1 191 = (20, 66) := xw_K hSτ (by decide) (by decide) (by decide)
        have m1 : nI g.1 * nI r = nI at0 := by rw [nn_mul, had]
        have in1 := inN_in (N := g.2.1) (by omega) (nI r)
        have in2 := inN_in (N := 2 ^ g.1) (by omega) (nI w)
        rw [hx1, if_pos rfl] at in1
        rw [hy1, if_pos rfl] at in2
        simp (disch := first | assumption | omega) only [Option.bind_some, Option.map_some, xw_gR, xw_gN, xw_al, xw_ck, xw_uI, xw_ur, xup_at, xur_at, if_true, if_false, reduceIte, and_true, true_and, and_false, false_and, not_true_eq_false, not_false_eq_true, Nat.reduceEqDiff, eq_self, Nat.reduceAdd, Nat.reduceMul, kC1, kG1, kP1, kR1_0, kR1_1, kR1_2, kR1_3, kR1_4, kR1_5, kR1_6, kR1_7, kR1_8, kR1_9, kR1_10, kR1_11, kR1_12, kR1_13, kC2, kG2, kP2, kR2_0, kR2_1, kC3, kG3, kP3, kR3_0, kR3_1, kR3_2, kR3_3, kL4, kA4, kS4, kL5, kA5, kS5, kL6, kA6, kS6, kL7, kA7, kS7, kC8, kG8, kP8, kR8_0, kR8_1, kL9, kA9, kS9, kL10, kA10, kS10, kC11, kG11, kP11, kR11_0, kR11_1, kR11_2, kR11_3, kL12, kA12, kS12, kL13, kA13, kS13, kL14, kA14, kS14, kL15, kA15, kS15, kC16, kG16, kP16, kR16_0, kR16_1, kL17, kA17, kS17, kL18, kA18, kS18, kC19, kG19, kP19, kR19_0, kL20, kL141, kL146, kA146, kS146, kL151, kA151, kS151, kL156, kA156, kS156, kC157, kG157, kP157, kR157_0, kR157_1, kL158, kA158, kS158, kL159, kA159, kS159, kC161, kG161, kP161, kR161_0, kR161_1, kL162, kA162, kS162, kL163, kA163, kS163, kC165, kG165, kP165, kR165_0, kR165_1, kR165_2, kR165_3, kL166, kA166, kS166, kL167, kA167, kS167, kL168, kA168, kS168, kL169, kA169, kS169, kC170, kG170, kP170, kR170_0, kR170_1, kR170_2, kL171, kA171, kS171, kL172, kA172, kS172, kL173, kA173, kS173, kC174, kG174, kP174, kR174_0, kR174_1, kR174_2, kR174_3, kR174_4, kL175, kA175, kS175, kL176, kA176, kS176, kL177, kA177, kS177, kL178, kA178, kS178, kL179, kC180, kG180, kP180, kL181, kL182, kA182, kS182, kC183, kG183, kP183, kR183_1, kR183_3, kR183_5, kR183_6, kR183_7, kR183_8, kR183_9, kR183_21, kR183_26, kR183_27, kR183_30, kR183_31, kR183_33, kR183_34, kR183_36, kR183_37, kR183_38, kR183_39, kR183_40, kR183_41, kR183_42, kR183_43, kR183_44, kL184, kA184, kS184, kL185, kA185, kS185, kL186, kA186, kS186, kL187, kA187, kS187, kL188, kA188, kS188, kL189, kL190, kL191, kA191, kS191, kL192, kA192, kS192, kL193, kA193, kS193, kL194, kA194, kS194, kL195, kA195, kS195, kL196, kA196, kS196, kL197, kA197, kS197, kL198, kA198, kS198, kL199, kA199, kS199, kL200, kA200, kS200, kL201, kL202, kA202, kS202, kL203, kA203, kS203, kL204, kA204, kS204, kL205, kL206, kA206, kS206, hGτ.2.2.2.2.2.2.2.2.1, hGτ.2.2.2.2.2.2.2.2.2.1, in1, one0, nn_one, in2, m1]
        refine xforE (fun low : Nat => (nI (fb_ct q low), nI low)) (2 ^ at0) rfl (fun low hlow => ?_) ?_
        · simp only [f_X12_rows_b46]
          have hlt : w * 2 ^ at0 + low < 2 ^ k := by omega
          have hor : nI low ||| nI (w * 2 ^ at0) = nI (w * 2 ^ at0 + low) := by
            have := fa_or_sum (a := low) (k := at0) w hlow
            rw [fa_or, Nat.or_comm, ← fa_or, Nat.mul_comm w]
            exact this
          rw [nn_one (by omega), if_neg (by rw [nn_le (by omega) (by omega)]; omega), nn_shl (by omega), hor]
          have m2 : nI at0 + nI g.1 = nI k := by rw [nn_add, hka]
          have hlb := lawfulBy_ok (σ := τ) (I := xI τ) (a := 191) (s := w * 2 ^ at0 + low) (k := k) hSτ hKK (by omega) (by omega) (fun i hi => by rw [rτ]; exact (ho.2.1 i (by omega)).1)
          rw [rτ] at hlb
          have hen := energy12_ok (σ := τ) (I := xI τ) (a := 191) (s := w * 2 ^ at0 + low) (r := r + 1) hSτ hGτ hKK (by omega) (by omega)
          rw [rτ, ← hkd] at hen
          have r1 : nI r + (1 : Int32) = nI (r + 1) := (nI_succ r).symm
          simp (disch := first | assumption | omega) only [Option.bind_some, Option.map_some, xw_gR, xw_gN, xw_al, xw_ck, xw_uI, xw_ur, xup_at, xur_at, if_true, if_false, reduceIte, and_true, true_and, and_false, false_and, not_true_eq_false, not_false_eq_true, Nat.reduceEqDiff, eq_self, Nat.reduceAdd, Nat.reduceMul, kC1, kG1, kP1, kR1_0, kR1_1, kR1_2, kR1_3, kR1_4, kR1_5, kR1_6, kR1_7, kR1_8, kR1_9, kR1_10, kR1_11, kR1_12, kR1_13, kC2, kG2, kP2, kR2_0, kR2_1, kC3, kG3, kP3, kR3_0, kR3_1, kR3_2, kR3_3, kL4, kA4, kS4, kL5, kA5, kS5, kL6, kA6, kS6, kL7, kA7, kS7, kC8, kG8, kP8, kR8_0, kR8_1, kL9, kA9, kS9, kL10, kA10, kS10, kC11, kG11, kP11, kR11_0, kR11_1, kR11_2, kR11_3, kL12, kA12, kS12, kL13, kA13, kS13, kL14, kA14, kS14, kL15, kA15, kS15, kC16, kG16, kP16, kR16_0, kR16_1, kL17, kA17, kS17, kL18, kA18, kS18, kC19, kG19, kP19, kR19_0, kL20, kL141, kL146, kA146, kS146, kL151, kA151, kS151, kL156, kA156, kS156, kC157, kG157, kP157, kR157_0, kR157_1, kL158, kA158, kS158, kL159, kA159, kS159, kC161, kG161, kP161, kR161_0, kR161_1, kL162, kA162, kS162, kL163, kA163, kS163, kC165, kG165, kP165, kR165_0, kR165_1, kR165_2, kR165_3, kL166, kA166, kS166, kL167, kA167, kS167, kL168, kA168, kS168, kL169, kA169, kS169, kC170, kG170, kP170, kR170_0, kR170_1, kR170_2, kL171, kA171, kS171, kL172, kA172, kS172, kL173, kA173, kS173, kC174, kG174, kP174, kR174_0, kR174_1, kR174_2, kR174_3, kR174_4, kL175, kA175, kS175, kL176, kA176, kS176, kL177, kA177, kS177, kL178, kA178, kS178, kL179, kC180, kG180, kP180, kL181, kL182, kA182, kS182, kC183, kG183, kP183, kR183_1, kR183_3, kR183_5, kR183_6, kR183_7, kR183_8, kR183_9, kR183_21, kR183_26, kR183_27, kR183_30, kR183_31, kR183_33, kR183_34, kR183_36, kR183_37, kR183_38, kR183_39, kR183_40, kR183_41, kR183_42, kR183_43, kR183_44, kL184, kA184, kS184, kL185, kA185, kS185, kL186, kA186, kS186, kL187, kA187, kS187, kL188, kA188, kS188, kL189, kL190, kL191, kA191, kS191, kL192, kA192, kS192, kL193, kA193, kS193, kL194, kA194, kS194, kL195, kA195, kS195, kL196, kA196, kS196, kL197, kA197, kS197, kL198, kA198, kS198, kL199, kA199, kS199, kL200, kA200, kS200, kL201, kL202, kA202, kS202, kL203, kA203, kS203, kL204, kA204, kS204, kL205, kL206, kA206, kS206, hGτ.2.2.2.2.2.2.2.2.1, m2, hlb, r1, hen]
          rw [fb_ct_succ, ← nI_succ, ← nI_succ]
          have vq : q low = (lwk F k (w * 2 ^ at0 + low) && decide (iI (eP g (zR F) k (w * 2 ^ at0 + low)) = z)) := by rw [hq]
          rw [vq]
          show (if (if lwk F k (w * 2 ^ at0 + low) = true then (1 : Int32) else 0) = 0 then _ else _) = _
          by_cases h1 : lwk F k (w * 2 ^ at0 + low) = true
          · rw [if_pos h1, if_neg (by decide)]
            by_cases h2 : iI (eP g (zR F) k (w * 2 ^ at0 + low)) = z
            · rw [if_pos h2]; simp [h1, h2]
            · rw [if_neg h2]; simp [h2]
          · rw [if_neg h1, if_pos rfl]; simp [h1]
        · simp only [f_X12_rows_b46]
          rw [nn_one (by omega), if_pos (by rw [nn_le (by omega) (by omega)]; exact Nat.le_refl _)]
          rfl
    · refine ⟨-1, σ, ?_, ?_, INV_i H.nop⟩
      · show f_X11_rows (xw σ (xI σ)) 1 (nI r) y z = _
        unfold f_X11_rows
        simp (disch := first | assumption | omega) only [Option.bind_some, Option.map_some, xw_gR, xw_gN, xw_al, xw_ck, xw_uI, xw_ur, xup_at, xur_at, if_true, if_false, reduceIte, and_true, true_and, and_false, false_and, not_true_eq_false, not_false_eq_true, Nat.reduceEqDiff, eq_self, Nat.reduceAdd, Nat.reduceMul, kC1, kG1, kP1, kR1_0, kR1_1, kR1_2, kR1_3, kR1_4, kR1_5, kR1_6, kR1_7, kR1_8, kR1_9, kR1_10, kR1_11, kR1_12, kR1_13, kC2, kG2, kP2, kR2_0, kR2_1, kC3, kG3, kP3, kR3_0, kR3_1, kR3_2, kR3_3, kL4, kA4, kS4, kL5, kA5, kS5, kL6, kA6, kS6, kL7, kA7, kS7, kC8, kG8, kP8, kR8_0, kR8_1, kL9, kA9, kS9, kL10, kA10, kS10, kC11, kG11, kP11, kR11_0, kR11_1, kR11_2, kR11_3, kL12, kA12, kS12, kL13, kA13, kS13, kL14, kA14, kS14, kL15, kA15, kS15, kC16, kG16, kP16, kR16_0, kR16_1, kL17, kA17, kS17, kL18, kA18, kS18, kC19, kG19, kP19, kR19_0, kL20, kL141, kL146, kA146, kS146, kL151, kA151, kS151, kL156, kA156, kS156, kC157, kG157, kP157, kR157_0, kR157_1, kL158, kA158, kS158, kL159, kA159, kS159, kC161, kG161, kP161, kR161_0, kR161_1, kL162, kA162, kS162, kL163, kA163, kS163, kC165, kG165, kP165, kR165_0, kR165_1, kR165_2, kR165_3, kL166, kA166, kS166, kL167, kA167, kS167, kL168, kA168, kS168, kL169, kA169, kS169, kC170, kG170, kP170, kR170_0, kR170_1, kR170_2, kL171, kA171, kS171, kL172, kA172, kS172, kL173, kA173, kS173, kC174, kG174, kP174, kR174_0, kR174_1, kR174_2, kR174_3, kR174_4, kL175, kA175, kS175, kL176, kA176, kS176, kL177, kA177, kS177, kL178, kA178, kS178, kL179, kC180, kG180, kP180, kL181, kL182, kA182, kS182, kC183, kG183, kP183, kR183_1, kR183_3, kR183_5, kR183_6, kR183_7, kR183_8, kR183_9, kR183_21, kR183_26, kR183_27, kR183_30, kR183_31, kR183_33, kR183_34, kR183_36, kR183_37, kR183_38, kR183_39, kR183_40, kR183_41, kR183_42, kR183_43, kR183_44, kL184, kA184, kS184, kL185, kA185, kS185, kL186, kA186, kS186, kL187, kA187, kS187, kL188, kA188, kS188, kL189, kL190, kL191, kA191, kS191, kL192, kA192, kS192, kL193, kA193, kS193, kL194, kA194, kS194, kL195, kA195, kS195, kL196, kA196, kS196, kL197, kA197, kS197, kL198, kA198, kS198, kL199, kA199, kS199, kL200, kA200, kS200, kL201, kL202, kA202, kS202, kL203, kA203, kS203, kL204, kA204, kS204, kL205, kL206, kA206, kS206, x0, hG.2.2.1, nn_le, x1, hG.2.1, nn_one]
        rcases inN_f (by omega) (Bool.not_eq_true _ ▸ hy1) with q | ⟨i, hi, rfl, hge⟩
        · rw [if_pos q]; rfl
        · rw [if_neg (nI_pos (by omega)), if_neg (by rw [nn_lt (by omega) (by omega)]; omega)]; rfl
      · show f_X12_rows (xw σ (xI σ)) 183 (nI r) y z = _
        unfold f_X12_rows
        have in1 := inN_in (N := g.2.1) (by omega) (nI r)
        have in2 := inN_in (N := 2 ^ g.1) (by omega) y
        rw [hx1, if_pos rfl] at in1
        have hy2 : inN (2 ^ g.1) y = false := Bool.not_eq_true _ ▸ hy1
        rw [hy2, if_neg (by decide)] at in2
        simp (disch := first | assumption | omega) only [Option.bind_some, Option.map_some, xw_gR, xw_gN, xw_al, xw_ck, xw_uI, xw_ur, xup_at, xur_at, if_true, if_false, reduceIte, and_true, true_and, and_false, false_and, not_true_eq_false, not_false_eq_true, Nat.reduceEqDiff, eq_self, Nat.reduceAdd, Nat.reduceMul, kC1, kG1, kP1, kR1_0, kR1_1, kR1_2, kR1_3, kR1_4, kR1_5, kR1_6, kR1_7, kR1_8, kR1_9, kR1_10, kR1_11, kR1_12, kR1_13, kC2, kG2, kP2, kR2_0, kR2_1, kC3, kG3, kP3, kR3_0, kR3_1, kR3_2, kR3_3, kL4, kA4, kS4, kL5, kA5, kS5, kL6, kA6, kS6, kL7, kA7, kS7, kC8, kG8, kP8, kR8_0, kR8_1, kL9, kA9, kS9, kL10, kA10, kS10, kC11, kG11, kP11, kR11_0, kR11_1, kR11_2, kR11_3, kL12, kA12, kS12, kL13, kA13, kS13, kL14, kA14, kS14, kL15, kA15, kS15, kC16, kG16, kP16, kR16_0, kR16_1, kL17, kA17, kS17, kL18, kA18, kS18, kC19, kG19, kP19, kR19_0, kL20, kL141, kL146, kA146, kS146, kL151, kA151, kS151, kL156, kA156, kS156, kC157, kG157, kP157, kR157_0, kR157_1, kL158, kA158, kS158, kL159, kA159, kS159, kC161, kG161, kP161, kR161_0, kR161_1, kL162, kA162, kS162, kL163, kA163, kS163, kC165, kG165, kP165, kR165_0, kR165_1, kR165_2, kR165_3, kL166, kA166, kS166, kL167, kA167, kS167, kL168, kA168, kS168, kL169, kA169, kS169, kC170, kG170, kP170, kR170_0, kR170_1, kR170_2, kL171, kA171, kS171, kL172, kA172, kS172, kL173, kA173, kS173, kC174, kG174, kP174, kR174_0, kR174_1, kR174_2, kR174_3, kR174_4, kL175, kA175, kS175, kL176, kA176, kS176, kL177, kA177, kS177, kL178, kA178, kS178, kL179, kC180, kG180, kP180, kL181, kL182, kA182, kS182, kC183, kG183, kP183, kR183_1, kR183_3, kR183_5, kR183_6, kR183_7, kR183_8, kR183_9, kR183_21, kR183_26, kR183_27, kR183_30, kR183_31, kR183_33, kR183_34, kR183_36, kR183_37, kR183_38, kR183_39, kR183_40, kR183_41, kR183_42, kR183_43, kR183_44, kL184, kA184, kS184, kL185, kA185, kS185, kL186, kA186, kS186, kL187, kA187, kS187, kL188, kA188, kS188, kL189, kL190, kL191, kA191, kS191, kL192, kA192, kS192, kL193, kA193, kS193, kL194, kA194, kS194, kL195, kA195, kS195, kL196, kA196, kS196, kL197, kA197, kS197, kL198, kA198, kS198, kL199, kA199, kS199, kL200, kA200, kS200, kL201, kL202, kA202, kS202, kL203, kA203, kS203, kL204, kA204, kS204, kL205, kL206, kA206, kS206, hG.2.2.2.2.2.2.2.2.1, hG.2.2.2.2.2.2.2.2.2.1, in1, one0, nn_one, in2]
  · refine ⟨-1, σ, ?_, ?_, INV_i H.nop⟩
    · show f_X11_rows (xw σ (xI σ)) 1 x y z = _
      unfold f_X11_rows
      simp (disch := first | assumption | omega) only [Option.bind_some, Option.map_some, xw_gR, xw_gN, xw_al, xw_ck, xw_uI, xw_ur, xup_at, xur_at, if_true, if_false, reduceIte, and_true, true_and, and_false, false_and, not_true_eq_false, not_false_eq_true, Nat.reduceEqDiff, eq_self, Nat.reduceAdd, Nat.reduceMul, kC1, kG1, kP1, kR1_0, kR1_1, kR1_2, kR1_3, kR1_4, kR1_5, kR1_6, kR1_7, kR1_8, kR1_9, kR1_10, kR1_11, kR1_12, kR1_13, kC2, kG2, kP2, kR2_0, kR2_1, kC3, kG3, kP3, kR3_0, kR3_1, kR3_2, kR3_3, kL4, kA4, kS4, kL5, kA5, kS5, kL6, kA6, kS6, kL7, kA7, kS7, kC8, kG8, kP8, kR8_0, kR8_1, kL9, kA9, kS9, kL10, kA10, kS10, kC11, kG11, kP11, kR11_0, kR11_1, kR11_2, kR11_3, kL12, kA12, kS12, kL13, kA13, kS13, kL14, kA14, kS14, kL15, kA15, kS15, kC16, kG16, kP16, kR16_0, kR16_1, kL17, kA17, kS17, kL18, kA18, kS18, kC19, kG19, kP19, kR19_0, kL20, kL141, kL146, kA146, kS146, kL151, kA151, kS151, kL156, kA156, kS156, kC157, kG157, kP157, kR157_0, kR157_1, kL158, kA158, kS158, kL159, kA159, kS159, kC161, kG161, kP161, kR161_0, kR161_1, kL162, kA162, kS162, kL163, kA163, kS163, kC165, kG165, kP165, kR165_0, kR165_1, kR165_2, kR165_3, kL166, kA166, kS166, kL167, kA167, kS167, kL168, kA168, kS168, kL169, kA169, kS169, kC170, kG170, kP170, kR170_0, kR170_1, kR170_2, kL171, kA171, kS171, kL172, kA172, kS172, kL173, kA173, kS173, kC174, kG174, kP174, kR174_0, kR174_1, kR174_2, kR174_3, kR174_4, kL175, kA175, kS175, kL176, kA176, kS176, kL177, kA177, kS177, kL178, kA178, kS178, kL179, kC180, kG180, kP180, kL181, kL182, kA182, kS182, kC183, kG183, kP183, kR183_1, kR183_3, kR183_5, kR183_6, kR183_7, kR183_8, kR183_9, kR183_21, kR183_26, kR183_27, kR183_30, kR183_31, kR183_33, kR183_34, kR183_36, kR183_37, kR183_38, kR183_39, kR183_40, kR183_41, kR183_42, kR183_43, kR183_44, kL184, kA184, kS184, kL185, kA185, kS185, kL186, kA186, kS186, kL187, kA187, kS187, kL188, kA188, kS188, kL189, kL190, kL191, kA191, kS191, kL192, kA192, kS192, kL193, kA193, kS193, kL194, kA194, kS194, kL195, kA195, kS195, kL196, kA196, kS196, kL197, kA197, kS197, kL198, kA198, kS198, kL199, kA199, kS199, kL200, kA200, kS200, kL201, kL202, kA202, kS202, kL203, kA203, kS203, kL204, kA204, kS204, kL205, kL206, kA206, kS206, hG.2.2.1]
      rcases inN_f (by omega) (Bool.not_eq_true _ ▸ hx1) with q | ⟨i, hi, rfl, hge⟩
      · rw [if_pos q]; rfl
      · rw [if_neg (nI_pos (by omega)), if_pos (by rw [nn_le (by omega) (by omega)]; omega)]; rfl
    · show f_X12_rows (xw σ (xI σ)) 183 x y z = _
      unfold f_X12_rows
      have in1 := inN_in (N := g.2.1) (by omega) x
      have hx2 : inN g.2.1 x = false := Bool.not_eq_true _ ▸ hx1
      rw [hx2, if_neg (by decide)] at in1
      simp (disch := first | assumption | omega) only [Option.bind_some, Option.map_some, xw_gR, xw_gN, xw_al, xw_ck, xw_uI, xw_ur, xup_at, xur_at, if_true, if_false, reduceIte, and_true, true_and, and_false, false_and, not_true_eq_false, not_false_eq_true, Nat.reduceEqDiff, eq_self, Nat.reduceAdd, Nat.reduceMul, kC1, kG1, kP1, kR1_0, kR1_1, kR1_2, kR1_3, kR1_4, kR1_5, kR1_6, kR1_7, kR1_8, kR1_9, kR1_10, kR1_11, kR1_12, kR1_13, kC2, kG2, kP2, kR2_0, kR2_1, kC3, kG3, kP3, kR3_0, kR3_1, kR3_2, kR3_3, kL4, kA4, kS4, kL5, kA5, kS5, kL6, kA6, kS6, kL7, kA7, kS7, kC8, kG8, kP8, kR8_0, kR8_1, kL9, kA9, kS9, kL10, kA10, kS10, kC11, kG11, kP11, kR11_0, kR11_1, kR11_2, kR11_3, kL12, kA12, kS12, kL13, kA13, kS13, kL14, kA14, kS14, kL15, kA15, kS15, kC16, kG16, kP16, kR16_0, kR16_1, kL17, kA17, kS17, kL18, kA18, kS18, kC19, kG19, kP19, kR19_0, kL20, kL141, kL146, kA146, kS146, kL151, kA151, kS151, kL156, kA156, kS156, kC157, kG157, kP157, kR157_0, kR157_1, kL158, kA158, kS158, kL159, kA159, kS159, kC161, kG161, kP161, kR161_0, kR161_1, kL162, kA162, kS162, kL163, kA163, kS163, kC165, kG165, kP165, kR165_0, kR165_1, kR165_2, kR165_3, kL166, kA166, kS166, kL167, kA167, kS167, kL168, kA168, kS168, kL169, kA169, kS169, kC170, kG170, kP170, kR170_0, kR170_1, kR170_2, kL171, kA171, kS171, kL172, kA172, kS172, kL173, kA173, kS173, kC174, kG174, kP174, kR174_0, kR174_1, kR174_2, kR174_3, kR174_4, kL175, kA175, kS175, kL176, kA176, kS176, kL177, kA177, kS177, kL178, kA178, kS178, kL179, kC180, kG180, kP180, kL181, kL182, kA182, kS182, kC183, kG183, kP183, kR183_1, kR183_3, kR183_5, kR183_6, kR183_7, kR183_8, kR183_9, kR183_21, kR183_26, kR183_27, kR183_30, kR183_31, kR183_33, kR183_34, kR183_36, kR183_37, kR183_38, kR183_39, kR183_40, kR183_41, kR183_42, kR183_43, kR183_44, kL184, kA184, kS184, kL185, kA185, kS185, kL186, kA186, kS186, kL187, kA187, kS187, kL188, kA188, kS188, kL189, kL190, kL191, kA191, kS191, kL192, kA192, kS192, kL193, kA193, kS193, kL194, kA194, kS194, kL195, kA195, kS195, kL196, kA196, kS196, kL197, kA197, kS197, kL198, kA198, kS198, kL199, kA199, kS199, kL200, kA200, kS200, kL201, kL202, kA202, kS202, kL203, kA203, kS203, kL204, kA204, kS204, kL205, kL206, kA206, kS206, hG.2.2.2.2.2.2.2.2.2.1, in1]
end
section
/-! clusters -/
def sub (S T : Nat) : Prop := ∀ i, S.testBit i = true → T.testBit i = true
/-- one tie's step of growing -/
def clS (g : GD) (b t S : Nat) : Nat := match gTo g t with
  | none => S
  | some e => if b.testBit (gFr t) = b.testBit e ∧ (S.testBit (gFr t) = true ∨ S.testBit e = true) then S ||| (2 ^ gFr t ||| 2 ^ e) else S
theorem clS_up (g : GD) (b t S : Nat) : sub S (clS g b t S) := by
  intro i h
  unfold clS
  split
  · exact h
  · split
    · rw [Nat.testBit_or, h]; rfl
    · exact h
theorem clS_in {g : GD} {b t S T : Nat} (h : sub S T) (hT : clS g b t T = T) : sub (clS g b t S) T := by
  intro i hi
  unfold clS at hi hT
  cases he : gTo g t with
  | none => rw [he] at hi; exact h i hi
  | some e =>
    rw [he] at hi hT
    dsimp only at hi hT
    split at hi
    · next hc =>
      rw [if_pos ⟨hc.1, by rcases hc.2 with z | z; exact .inl (h _ z); exact .inr (h _ z)⟩] at hT
      rw [Nat.testBit_or, Bool.or_eq_true] at hi
      rcases hi with z | z
      · exact h i z
      · rw [← hT, Nat.testBit_or, z]; simp
    · exact h i hi
theorem clS_b {g : GD} (hg : g ∈ gAll) {b t S : Nat} (ht : t < 32) (h : S < 65536) : clS g b t S < 65536 := by
  have h16 := (gAll_b g hg).2.2.1
  unfold clS
  cases he : gTo g t with
  | none => exact h
  | some e =>
    have heb := gTo_b g hg t ht e he
    dsimp only
    split
    · exact Nat.or_lt_two_pow (n := 16) h (Nat.or_lt_two_pow (Nat.pow_lt_pow_right (by decide) (by omega)) (Nat.pow_lt_pow_right (by decide) (by omega)))
    · exact h
/-- a pass over ties in some order -/
def clP (g : GD) (b : Nat) (f : Nat → Nat) (S : Nat) : Nat → Nat
  | 0 => S
  | k + 1 => clS g b (f k) (clP g b f S k)
theorem clP_up (g : GD) (b : Nat) (f : Nat → Nat) (S : Nat) : ∀ k, sub S (clP g b f S k)
  | 0 => fun _ h => h
  | k + 1 => fun i h => clS_up g b (f k) _ i (clP_up g b f S k i h)
theorem clP_in {g : GD} {b : Nat} {f : Nat → Nat} {S T : Nat} (h : sub S T) : ∀ k, (∀ j, j < k → clS g b (f j) T = T) → sub (clP g b f S k) T
  | 0, _ => h
  | k + 1, hT => clS_in (clP_in h k (fun j hj => hT j (by omega))) (hT k (by omega))
theorem clP_b {g : GD} (hg : g ∈ gAll) {b : Nat} {f : Nat → Nat} {S : Nat} (h : S < 65536) : ∀ k, (∀ j, j < k → f j < 32) → clP g b f S k < 65536
  | 0, _ => h
  | k + 1, hf => clS_b hg (hf k (by omega)) (clP_b hg h k (fun j hj => hf j (by omega)))
theorem sub_anti {S T : Nat} (h1 : sub S T) (h2 : sub T S) : S = T := by
  apply Nat.eq_of_testBit_eq
  intro i
  rw [Bool.eq_iff_iff]
  exact ⟨h1 i, h2 i⟩
theorem clP_fix {g : GD} {b : Nat} {f : Nat → Nat} {S : Nat} : ∀ k, clP g b f S k = S → ∀ j, j < k → clS g b (f j) S = S
  | 0, _ => fun j hj => by omega
  | k + 1, h => fun j hj => by
    have h1 : clP g b f S k = S := by
      apply sub_anti _ (clP_up g b f S k)
      intro i hi
      rw [← h]
      exact clS_up g b (f k) _ i hi
    have h2 : clS g b (f k) S = S := by
      have h' : clS g b (f k) (clP g b f S k) = S := h
      rw [h1] at h'; exact h'
    by_cases hjk : j = k
    · rw [hjk]; exact h2
    · exact clP_fix k h1 j (by omega)
theorem pC_sub {S T : Nat} (h : sub S T) (hT : T < 65536) (hne : S ≠ T) : pC S < pC T := by
  have key : ∀ n, fb_ct (fun i => S.testBit i) n ≤ fb_ct (fun i => T.testBit i) n ∧ (fb_ct (fun i => S.testBit i) n = fb_ct (fun i => T.testBit i) n → ∀ i, i < n → S.testBit i = T.testBit i) := by
    intro n
    induction n with
    | zero => exact ⟨Nat.le_refl _, fun _ i hi => by omega⟩
    | succ n ih =>
      rw [fb_ct_succ, fb_ct_succ]
      have hn := h n
      cases hS : S.testBit n with
      | false =>
        cases hTn : T.testBit n with
        | false =>
          simp only [Bool.false_eq_true, if_false]
          refine ⟨ih.1, fun e i hi => ?_⟩
          by_cases z : i = n
          · rw [z, hS, hTn]
          · exact ih.2 e i (by omega)
        | true =>
          simp only [Bool.false_eq_true, if_false, if_true]
          exact ⟨by omega, fun e => by omega⟩
      | true =>
        rw [hn hS]
        simp only [if_true]
        refine ⟨by omega, fun e i hi => ?_⟩
        by_cases z : i = n
        · rw [z, hS, hn hS]
        · exact ih.2 (by omega) i (by omega)
  have k := key 16
  unfold pC
  rcases Nat.lt_or_ge (fb_ct (fun i => S.testBit i) 16) (fb_ct (fun i => T.testBit i) 16) with z | z
  · exact z
  · exfalso
    apply hne
    have e := k.2 (by omega)
    apply Nat.eq_of_testBit_eq
    intro i
    by_cases hi : i < 16
    · exact e i hi
    · have h2 : T.testBit i = false := Nat.testBit_lt_two_pow (Nat.lt_of_lt_of_le hT (show 2 ^ 16 ≤ 2 ^ i from Nat.pow_le_pow_right (by decide) (by omega)))
      cases hS : S.testBit i with
      | false => rw [h2]
      | true => rw [h i hS] at h2; cases h2
/-- pass after pass -/
def clI (g : GD) (b : Nat) (f : Nat → Nat) (N S : Nat) : Nat → Nat
  | 0 => S
  | j + 1 => clP g b f (clI g b f N S j) N
theorem clI_b {g : GD} (hg : g ∈ gAll) {b : Nat} {f : Nat → Nat} {N S : Nat} (hf : ∀ j, j < N → f j < 32) (h : S < 65536) : ∀ j, clI g b f N S j < 65536
  | 0 => h
  | j + 1 => clP_b hg (clI_b hg hf h j) N hf
theorem clI_up {g : GD} {b : Nat} {f : Nat → Nat} {N S : Nat} : ∀ j, sub S (clI g b f N S j)
  | 0 => fun _ h => h
  | j + 1 => fun i h => clP_up g b f _ N i (clI_up j i h)
theorem clI_in {g : GD} {b : Nat} {f : Nat → Nat} {N S T : Nat} (h : sub S T) (hT : ∀ j, j < N → clS g b (f j) T = T) : ∀ j, sub (clI g b f N S j) T
  | 0 => h
  | j + 1 => clP_in (clI_in h hT j) N hT
theorem clI_end {g : GD} (hg : g ∈ gAll) {b : Nat} {f : Nat → Nat} {N S : Nat} (hf : ∀ j, j < N → f j < 32) (h : S < 65536) (h0 : S ≠ 0) : ∃ J, J ≤ 15 ∧ clI g b f N S (J + 1) = clI g b f N S J ∧ ∀ j, j < J → clI g b f N S (j + 1) ≠ clI g b f N S j := by
  have hp0 : 0 < pC S := by
    have := pC_sub (S := 0) (T := S) (fun i hi => by rw [Nat.zero_testBit] at hi; cases hi) h (fun z => h0 z.symm)
    omega
  have gr : ∀ m, (∀ j, j < m → clI g b f N S (j + 1) ≠ clI g b f N S j) → m + 1 ≤ pC (clI g b f N S m) := by
    intro m
    induction m with
    | zero => intro _; exact hp0
    | succ m ih =>
      intro hne
      have h1 := ih (fun j hj => hne j (by omega))
      have h2 := pC_sub (S := clI g b f N S m) (T := clI g b f N S (m + 1)) (clP_up g b f _ N) (clI_b hg hf h (m + 1)) (fun z => hne m (by omega) z.symm)
      omega
  have ex : ∃ j, j < 16 ∧ clI g b f N S (j + 1) = clI g b f N S j := by
    apply Classical.byContradiction
    intro hn
    have := gr 16 (fun j hj hz => hn ⟨j, hj, hz⟩)
    have := pC_16 (clI g b f N S 16)
    omega
  obtain ⟨J, h1, h2, h3⟩ := fb_first (p := fun j => clI g b f N S (j + 1) = clI g b f N S j) ex
  exact ⟨J, by omega, h2, h3⟩
def tk (k : Nat) : Nat := k / 2 + 16 * (k % 2)
/-- closed under both orders alike -/
theorem cl_both {g : GD} (hg : g ∈ gAll) {b S : Nat} : (∀ j, j < 32 → clS g b j S = S) ↔ (∀ j, j < 2 * gSz g → clS g b (tk j) S = S) := by
  have h16 := (gAll_b g hg).2.2.1
  constructor
  · intro h j hj
    exact h (tk j) (by unfold tk; omega)
  · intro h t ht
    by_cases hno : gTo g t = none
    · unfold clS; rw [hno]
    · have hlt : gFr t < gSz g := by
        rcases Nat.lt_or_ge (gFr t) (gSz g) with z | z
        · exact z
        · exact absurd (gap g hg t ht z) hno
      unfold gFr at hlt
      by_cases h1 : t < 16
      · rw [if_pos h1] at hlt
        have := h (2 * t) (by omega)
        unfold tk at this
        rw [show 2 * t / 2 + 16 * (2 * t % 2) = t by omega] at this
        exact this
      · rw [if_neg h1] at hlt
        have := h (2 * (t - 16) + 1) (by omega)
        unfold tk at this
        rw [show (2 * (t - 16) + 1) / 2 + 16 * ((2 * (t - 16) + 1) % 2) = t by omega] at this
        exact this
/-- both sides' clusters are one -/
theorem cl_same {g : GD} (hg : g ∈ gAll) {b S J K : Nat} (hJ : clI g b (fun j => j) 32 S (J + 1) = clI g b (fun j => j) 32 S J) (hK : clI g b tk (2 * gSz g) S (K + 1) = clI g b tk (2 * gSz g) S K) : clI g b (fun j => j) 32 S J = clI g b tk (2 * gSz g) S K := by
  have c1 : ∀ j, j < 32 → clS g b j (clI g b (fun j => j) 32 S J) = clI g b (fun j => j) 32 S J := clP_fix (f := fun j => j) 32 hJ
  have c2 : ∀ j, j < 2 * gSz g → clS g b (tk j) (clI g b tk (2 * gSz g) S K) = clI g b tk (2 * gSz g) S K := clP_fix _ hK
  apply sub_anti
  · exact clI_in (clI_up K) ((cl_both hg).mpr c2) J
  · exact clI_in (clI_up J) ((cl_both hg).mp c1) K
section CLUSTER
variable {σ : XS} {I : Nat → Nat → Int32} {g : GD}
theorem bits2 {S a e : Nat} (hS : S < 65536) (ha : a < 16) (he : e < 16) : (nI (S &&& (2 ^ a ||| 2 ^ e)) = 0) = ¬ (S.testBit a = true ∨ S.testBit e = true) := by
  have hb : S &&& (2 ^ a ||| 2 ^ e) < 65536 := Nat.lt_of_le_of_lt Nat.and_le_left hS
  have : (nI (S &&& (2 ^ a ||| 2 ^ e)) = 0) = (S &&& (2 ^ a ||| 2 ^ e) = 0) := nn_eq (b := 0) (by omega) (by decide)
  rw [this, Nat.and_or_distrib_left]
  apply propext
  have z1 := fb_bit_nat S a
  have z2 := fb_bit_nat S e
  constructor
  · intro h
    have h1 : S &&& 2 ^ a = 0 := by
      have := Nat.left_le_or (n := S &&& 2 ^ a) (m := S &&& 2 ^ e); omega
    have h2 : S &&& 2 ^ e = 0 := by
      have := Nat.right_le_or (n := S &&& 2 ^ a) (m := S &&& 2 ^ e); omega
    rw [z1.mp h1, z2.mp h2]; simp
  · intro h
    have h1 : S.testBit a = false := by
      cases q : S.testBit a with
      | false => rfl
      | true => exact absurd (.inl q) h
    have h2 : S.testBit e = false := by
      cases q : S.testBit e with
      | false => rfl
      | true => exact absurd (.inr q) h
    rw [z1.mpr h1, z2.mpr h2]; rfl
theorem grown_ok (hS : Shp σ) (hG : GRD I g) {b S : Nat} (hb : b < 65536) (hs : S < 65536) : f_X3_grownCluster (xw σ I) 11 (nI b) (nI S) = some (nI (clP g b (fun j => j) S 32)) := by
  have hg := hG.1
  have h16 := (gAll_b g hg).2.2.1
  unfold f_X3_grownCluster
  refine xforE (fun t : Nat => (nI (clP g b (fun j => j) S t), nI t)) 32 rfl (fun t ht => ?_) ?_
  · simp only [f_X3_grownCluster_b5]
    obtain ⟨T, hT⟩ : ∃ T, T = clP g b (fun j => j) S t := ⟨_, rfl⟩
    have hTb : T < 65536 := by rw [hT]; exact clP_b hg hs t (fun j hj => by omega)
    have e1 : clP g b (fun j => j) S (t + 1) = clS g b t T := by rw [clP, ← hT]
    rw [← hT, e1, if_neg (by rw [show (32 : Int32) = nI 32 from rfl, nn_le (by omega) (by omega)]; omega)]
    simp (disch := first | assumption | omega) only [Option.bind_some, Option.map_some, xw_gR, xw_gN, xw_al, xw_ck, xw_uI, xw_ur, xup_at, xur_at, if_true, if_false, reduceIte, and_true, true_and, and_false, false_and, not_true_eq_false, not_false_eq_true, Nat.reduceEqDiff, eq_self, Nat.reduceAdd, Nat.reduceMul, kC1, kG1, kP1, kR1_0, kR1_1, kR1_2, kR1_3, kR1_4, kR1_5, kR1_6, kR1_7, kR1_8, kR1_9, kR1_10, kR1_11, kR1_12, kR1_13, kC2, kG2, kP2, kR2_0, kR2_1, kC3, kG3, kP3, kR3_0, kR3_1, kR3_2, kR3_3, kL4, kA4, kS4, kL5, kA5, kS5, kL6, kA6, kS6, kL7, kA7, kS7, kC8, kG8, kP8, kR8_0, kR8_1, kL9, kA9, kS9, kL10, kA10, kS10, kC11, kG11, kP11, kR11_0, kR11_1, kR11_2, kR11_3, kL12, kA12, kS12, kL13, kA13, kS13, kL14, kA14, kS14, kL15, kA15, kS15, kC16, kG16, kP16, kR16_0, kR16_1, kL17, kA17, kS17, kL18, kA18, kS18, kC19, kG19, kP19, kR19_0, kL20, kL141, kL146, kA146, kS146, kL151, kA151, kS151, kL156, kA156, kS156, kC157, kG157, kP157, kR157_0, kR157_1, kL158, kA158, kS158, kL159, kA159, kS159, kC161, kG161, kP161, kR161_0, kR161_1, kL162, kA162, kS162, kL163, kA163, kS163, kC165, kG165, kP165, kR165_0, kR165_1, kR165_2, kR165_3, kL166, kA166, kS166, kL167, kA167, kS167, kL168, kA168, kS168, kL169, kA169, kS169, kC170, kG170, kP170, kR170_0, kR170_1, kR170_2, kL171, kA171, kS171, kL172, kA172, kS172, kL173, kA173, kS173, kC174, kG174, kP174, kR174_0, kR174_1, kR174_2, kR174_3, kR174_4, kL175, kA175, kS175, kL176, kA176, kS176, kL177, kA177, kS177, kL178, kA178, kS178, kL179, kC180, kG180, kP180, kL181, kL182, kA182, kS182, kC183, kG183, kP183, kR183_1, kR183_3, kR183_5, kR183_6, kR183_7, kR183_8, kR183_9, kR183_21, kR183_26, kR183_27, kR183_30, kR183_31, kR183_33, kR183_34, kR183_36, kR183_37, kR183_38, kR183_39, kR183_40, kR183_41, kR183_42, kR183_43, kR183_44, kL184, kA184, kS184, kL185, kA185, kS185, kL186, kA186, kS186, kL187, kA187, kS187, kL188, kA188, kS188, kL189, kL190, kL191, kA191, kS191, kL192, kA192, kS192, kL193, kA193, kS193, kL194, kA194, kS194, kL195, kA195, kS195, kL196, kA196, kS196, kL197, kA197, kS197, kL198, kA198, kS198, kL199, kA199, kS199, kL200, kA200, kS200, kL201, kL202, kA202, kS202, kL203, kA203, kS203, kL204, kA204, kS204, kL205, kL206, kA206, kS206, endAt_ok hS hG ht, oI_none (gTo_s hg ht)]
    rw [← nI_succ]
    unfold clS
    cases he : gTo g t with
    | none => simp
    | some e =>
      have heb := gTo_b g hg t ht e he
      rw [if_neg (by simp), isAlike_ok hS hG (show b < 2147483648 by omega) ht he, Option.bind_some, startOf_ok ht, Option.bind_some]
      simp only [oI, nn_one (show gFr t < 32 by omega), nn_one (show e < 32 by omega), fa_or, fa_and]
      by_cases h1 : b.testBit (gFr t) = b.testBit e
      · rw [if_pos h1, if_neg (by decide)]
        simp only [bits2 hTb (show gFr t < 16 by omega) (show e < 16 by omega)]
        by_cases h2 : T.testBit (gFr t) = true ∨ T.testBit e = true
        · rw [if_neg (fun z => z h2), if_pos ⟨h1, h2⟩]
        · rw [if_pos h2, if_neg (fun z => h2 z.2)]
      · rw [if_neg h1, if_pos (by decide), if_neg (fun z => h1 z.1)]
  · simp only [f_X3_grownCluster_b5]
    rw [if_pos (by decide)]
    rfl
theorem cluster11_ok (hS : Shp σ) (hG : GRD I g) {b i J : Nat} (hb : b < 65536) (hi : i < gSz g) (hJ : J ≤ 15) (h1 : clI g b (fun j => j) 32 (2 ^ i) (J + 1) = clI g b (fun j => j) 32 (2 ^ i) J) (h2 : ∀ j, j < J → clI g b (fun j => j) 32 (2 ^ i) (j + 1) ≠ clI g b (fun j => j) 32 (2 ^ i) j) : f_X3_clusterOf (xw σ I) 11 (nI b) (nI i) = some (nI (clI g b (fun j => j) 32 (2 ^ i) J)) := by
  have hg := hG.1
  have h16 := (gAll_b g hg).2.2.1
  have h2i : 2 ^ i < 65536 := Nat.pow_lt_pow_right (n := 16) (by decide) (by omega)
  have hIb := clI_b (b := b) (f := fun j => j) (N := 32) hg (fun j hj => hj) h2i
  unfold f_X3_clusterOf
  rw [nn_one (by omega)]
  refine xforE (fun j : Nat => (nI (clI g b (fun j => j) 32 (2 ^ i) j), (if j = 0 then (0 : Int32) else nI (clI g b (fun j => j) 32 (2 ^ i) (j - 1))), nI j)) (J + 1) rfl (fun j hj => ?_) ?_
  · simp only [f_X3_clusterOf_b10]
    have hne : ¬ nI (clI g b (fun j => j) 32 (2 ^ i) j) = (if j = 0 then (0 : Int32) else nI (clI g b (fun j => j) 32 (2 ^ i) (j - 1))) := by
      by_cases z : j = 0
      · subst z
        rw [if_pos rfl]
        exact nI_ne0 (Nat.two_pow_pos i) (by show 2 ^ i < 2 ^ 31; omega)
      · rw [if_neg z, nn_eq (by have := hIb j; omega) (by have := hIb (j - 1); omega)]
        have := h2 (j - 1) (by omega)
        rw [show j - 1 + 1 = j by omega] at this
        exact this
    rw [if_neg (by rw [show (16 : Int32) = nI 16 from rfl, nn_le (by omega) (by omega)]; omega), if_neg hne]
    simp (disch := first | assumption | omega) only [Option.bind_some, Option.map_some, xw_gR, xw_gN, xw_al, xw_ck, xw_uI, xw_ur, xup_at, xur_at, if_true, if_false, reduceIte, and_true, true_and, and_false, false_and, not_true_eq_false, not_false_eq_true, Nat.reduceEqDiff, eq_self, Nat.reduceAdd, Nat.reduceMul, kC1, kG1, kP1, kR1_0, kR1_1, kR1_2, kR1_3, kR1_4, kR1_5, kR1_6, kR1_7, kR1_8, kR1_9, kR1_10, kR1_11, kR1_12, kR1_13, kC2, kG2, kP2, kR2_0, kR2_1, kC3, kG3, kP3, kR3_0, kR3_1, kR3_2, kR3_3, kL4, kA4, kS4, kL5, kA5, kS5, kL6, kA6, kS6, kL7, kA7, kS7, kC8, kG8, kP8, kR8_0, kR8_1, kL9, kA9, kS9, kL10, kA10, kS10, kC11, kG11, kP11, kR11_0, kR11_1, kR11_2, kR11_3, kL12, kA12, kS12, kL13, kA13, kS13, kL14, kA14, kS14, kL15, kA15, kS15, kC16, kG16, kP16, kR16_0, kR16_1, kL17, kA17, kS17, kL18, kA18, kS18, kC19, kG19, kP19, kR19_0, kL20, kL141, kL146, kA146, kS146, kL151, kA151, kS151, kL156, kA156, kS156, kC157, kG157, kP157, kR157_0, kR157_1, kL158, kA158, kS158, kL159, kA159, kS159, kC161, kG161, kP161, kR161_0, kR161_1, kL162, kA162, kS162, kL163, kA163, kS163, kC165, kG165, kP165, kR165_0, kR165_1, kR165_2, kR165_3, kL166, kA166, kS166, kL167, kA167, kS167, kL168, kA168, kS168, kL169, kA169, kS169, kC170, kG170, kP170, kR170_0, kR170_1, kR170_2, kL171, kA171, kS171, kL172, kA172, kS172, kL173, kA173, kS173, kC174, kG174, kP174, kR174_0, kR174_1, kR174_2, kR174_3, kR174_4, kL175, kA175, kS175, kL176, kA176, kS176, kL177, kA177, kS177, kL178, kA178, kS178, kL179, kC180, kG180, kP180, kL181, kL182, kA182, kS182, kC183, kG183, kP183, kR183_1, kR183_3, kR183_5, kR183_6, kR183_7, kR183_8, kR183_9, kR183_21, kR183_26, kR183_27, kR183_30, kR183_31, kR183_33, kR183_34, kR183_36, kR183_37, kR183_38, kR183_39, kR183_40, kR183_41, kR183_42, kR183_43, kR183_44, kL184, kA184, kS184, kL185, kA185, kS185, kL186, kA186, kS186, kL187, kA187, kS187, kL188, kA188, kS188, kL189, kL190, kL191, kA191, kS191, kL192, kA192, kS192, kL193, kA193, kS193, kL194, kA194, kS194, kL195, kA195, kS195, kL196, kA196, kS196, kL197, kA197, kS197, kL198, kA198, kS198, kL199, kA199, kS199, kL200, kA200, kS200, kL201, kL202, kA202, kS202, kL203, kA203, kS203, kL204, kA204, kS204, kL205, kL206, kA206, kS206, grown_ok hS hG hb (hIb j)]
    rw [← nI_succ]
    rfl
  · simp only [f_X3_clusterOf_b10]
    by_cases h : (16 : Int32) ≤ nI (J + 1)
    · rw [if_pos h, h1]; rfl
    · rw [if_neg h, if_pos (by rw [if_neg (by omega), Nat.add_sub_cancel, h1]), h1]; rfl
end CLUSTER
end
section
section CLUSTER2
variable {σ : XS} {I : Nat → Nat → Int32} {g : GD}
theorem pass12 (hS : Shp σ) (hG : GRD I g) {b S : Nat} (x3 : Int32) (h64 : I 191 64 = nI b) (hb : b < 65536) (hs : S < 65536) : xloop (f_X12_clusterOf_b16 (xw σ I) 183 x3) (nI S, (0 : Int32)) = some (.inl (nI (clP g b tk S (2 * gSz g)), x3)) := by
  have hg := hG.1
  have h16 := (gAll_b g hg).2.2.1
  refine xforE (fun k : Nat => (nI (clP g b tk S k), nI k)) (2 * gSz g) rfl (fun k hk => ?_) ?_
  · simp only [f_X12_clusterOf_b16]
    obtain ⟨T, hT⟩ : ∃ T, T = clP g b tk S k := ⟨_, rfl⟩
    have hTb : T < 65536 := by rw [hT]; exact clP_b hg hs k (fun j hj => by unfold tk; omega)
    have e1 : clP g b tk S (k + 1) = clS g b (tk k) T := by rw [clP, ← hT]
    rw [← hT, e1]
    obtain ⟨i, hi⟩ : ∃ i, i = k / 2 := ⟨_, rfl⟩
    obtain ⟨d, hd⟩ : ∃ d, d = k % 2 := ⟨_, rfl⟩
    have hi2 : i < gSz g := by omega
    have hd2 : d < 2 := by omega
    have ht : i + 16 * d < 32 := by omega
    have htk : tk k = i + 16 * d := by unfold tk; rw [← hi, ← hd]
    have main : f_X12_clusterOf_j49 (xw σ I) 183 (nI T) x3 (nI k) (nI i) 183 (nI i) (nI d) = some (.inl (nI (clS g b (i + 16 * d) T), nI (k + 1))) := by
      unfold f_X12_clusterOf_j49 f_X12_clusterOf_j107
      have hf : gFr (i + 16 * d) = i := by
        unfold gFr
        rcases (show d = 0 ∨ d = 1 by omega) with z | z
        · rw [z, if_pos (by omega)]; omega
        · rw [z, if_neg (by omega)]; omega
      simp (disch := first | assumption | omega) only [Option.bind_some, Option.map_some, xw_gR, xw_gN, xw_al, xw_ck, xw_uI, xw_ur, xup_at, xur_at, if_true, if_false, reduceIte, and_true, true_and, and_false, false_and, not_true_eq_false, not_false_eq_true, Nat.reduceEqDiff, eq_self, Nat.reduceAdd, Nat.reduceMul, kC1, kG1, kP1, kR1_0, kR1_1, kR1_2, kR1_3, kR1_4, kR1_5, kR1_6, kR1_7, kR1_8, kR1_9, kR1_10, kR1_11, kR1_12, kR1_13, kC2, kG2, kP2, kR2_0, kR2_1, kC3, kG3, kP3, kR3_0, kR3_1, kR3_2, kR3_3, kL4, kA4, kS4, kL5, kA5, kS5, kL6, kA6, kS6, kL7, kA7, kS7, kC8, kG8, kP8, kR8_0, kR8_1, kL9, kA9, kS9, kL10, kA10, kS10, kC11, kG11, kP11, kR11_0, kR11_1, kR11_2, kR11_3, kL12, kA12, kS12, kL13, kA13, kS13, kL14, kA14, kS14, kL15, kA15, kS15, kC16, kG16, kP16, kR16_0, kR16_1, kL17, kA17, kS17, kL18, kA18, kS18, kC19, kG19, kP19, kR19_0, kL20, kL141, kL146, kA146, kS146, kL151, kA151, kS151, kL156, kA156, kS156, kC157, kG157, kP157, kR157_0, kR157_1, kL158, kA158, kS158, kL159, kA159, kS159, kC161, kG161, kP161, kR161_0, kR161_1, kL162, kA162, kS162, kL163, kA163, kS163, kC165, kG165, kP165, kR165_0, kR165_1, kR165_2, kR165_3, kL166, kA166, kS166, kL167, kA167, kS167, kL168, kA168, kS168, kL169, kA169, kS169, kC170, kG170, kP170, kR170_0, kR170_1, kR170_2, kL171, kA171, kS171, kL172, kA172, kS172, kL173, kA173, kS173, kC174, kG174, kP174, kR174_0, kR174_1, kR174_2, kR174_3, kR174_4, kL175, kA175, kS175, kL176, kA176, kS176, kL177, kA177, kS177, kL178, kA178, kS178, kL179, kC180, kG180, kP180, kL181, kL182, kA182, kS182, kC183, kG183, kP183, kR183_1, kR183_3, kR183_5, kR183_6, kR183_7, kR183_8, kR183_9, kR183_21, kR183_26, kR183_27, kR183_30, kR183_31, kR183_33, kR183_34, kR183_36, kR183_37, kR183_38, kR183_39, kR183_40, kR183_41, kR183_42, kR183_43, kR183_44, kL184, kA184, kS184, kL185, kA185, kS185, kL186, kA186, kS186, kL187, kA187, kS187, kL188, kA188, kS188, kL189, kL190, kL191, kA191, kS191, kL192, kA192, kS192, kL193, kA193, kS193, kL194, kA194, kS194, kL195, kA195, kS195, kL196, kA196, kS196, kL197, kA197, kS197, kL198, kA198, kS198, kL199, kA199, kS199, kL200, kA200, kS200, kL201, kL202, kA202, kS202, kL203, kA203, kS203, kL204, kA204, kS204, kL205, kL206, kA206, kS206, tieTo_ok hS hG hd2 hi2, oI_neg (gTo_s hg ht), show (64 : Int32) = nI 64 from rfl, h64]
      rw [← nI_succ]
      unfold clS
      rw [hf]
      cases he : gTo g (i + 16 * d) with
      | none => simp
      | some e =>
        have heb := gTo_b g hg _ ht e he
        rw [if_neg (by simp)]
        simp only [oI, has_ok (show b < 2147483648 by omega) (show i < 32 by omega), has_ok (show b < 2147483648 by omega) (show e < 32 by omega), has_ok (show T < 2147483648 by omega) (show i < 32 by omega), has_ok (show T < 2147483648 by omega) (show e < 32 by omega), Option.bind_some, bI_eq, bI_0, nn_one (show i < 32 by omega), nn_one (show e < 32 by omega), fa_or]
        by_cases h1 : b.testBit i = b.testBit e
        · rw [if_pos h1]
          cases q1 : T.testBit i with
          | true => simp [h1]
          | false =>
            cases q2 : T.testBit e with
            | true => simp [h1]
            | false => simp
        · rw [if_neg h1, if_neg (fun z => h1 z.1)]
    simp (disch := first | assumption | omega) only [Option.bind_some, Option.map_some, xw_gR, xw_gN, xw_al, xw_ck, xw_uI, xw_ur, xup_at, xur_at, if_true, if_false, reduceIte, and_true, true_and, and_false, false_and, not_true_eq_false, not_false_eq_true, Nat.reduceEqDiff, eq_self, Nat.reduceAdd, Nat.reduceMul, kC1, kG1, kP1, kR1_0, kR1_1, kR1_2, kR1_3, kR1_4, kR1_5, kR1_6, kR1_7, kR1_8, kR1_9, kR1_10, kR1_11, kR1_12, kR1_13, kC2, kG2, kP2, kR2_0, kR2_1, kC3, kG3, kP3, kR3_0, kR3_1, kR3_2, kR3_3, kL4, kA4, kS4, kL5, kA5, kS5, kL6, kA6, kS6, kL7, kA7, kS7, kC8, kG8, kP8, kR8_0, kR8_1, kL9, kA9, kS9, kL10, kA10, kS10, kC11, kG11, kP11, kR11_0, kR11_1, kR11_2, kR11_3, kL12, kA12, kS12, kL13, kA13, kS13, kL14, kA14, kS14, kL15, kA15, kS15, kC16, kG16, kP16, kR16_0, kR16_1, kL17, kA17, kS17, kL18, kA18, kS18, kC19, kG19, kP19, kR19_0, kL20, kL141, kL146, kA146, kS146, kL151, kA151, kS151, kL156, kA156, kS156, kC157, kG157, kP157, kR157_0, kR157_1, kL158, kA158, kS158, kL159, kA159, kS159, kC161, kG161, kP161, kR161_0, kR161_1, kL162, kA162, kS162, kL163, kA163, kS163, kC165, kG165, kP165, kR165_0, kR165_1, kR165_2, kR165_3, kL166, kA166, kS166, kL167, kA167, kS167, kL168, kA168, kS168, kL169, kA169, kS169, kC170, kG170, kP170, kR170_0, kR170_1, kR170_2, kL171, kA171, kS171, kL172, kA172, kS172, kL173, kA173, kS173, kC174, kG174, kP174, kR174_0, kR174_1, kR174_2, kR174_3, kR174_4, kL175, kA175, kS175, kL176, kA176, kS176, kL177, kA177, kS177, kL178, kA178, kS178, kL179, kC180, kG180, kP180, kL181, kL182, kA182, kS182, kC183, kG183, kP183, kR183_1, kR183_3, kR183_5, kR183_6, kR183_7, kR183_8, kR183_9, kR183_21, kR183_26, kR183_27, kR183_30, kR183_31, kR183_33, kR183_34, kR183_36, kR183_37, kR183_38, kR183_39, kR183_40, kR183_41, kR183_42, kR183_43, kR183_44, kL184, kA184, kS184, kL185, kA185, kS185, kL186, kA186, kS186, kL187, kA187, kS187, kL188, kA188, kS188, kL189, kL190, kL191, kA191, kS191, kL192, kA192, kS192, kL193, kA193, kS193, kL194, kA194, kS194, kL195, kA195, kS195, kL196, kA196, kS196, kL197, kA197, kS197, kL198, kA198, kS198, kL199, kA199, kS199, kL200, kA200, kS200, kL201, kL202, kA202, kS202, kL203, kA203, kS203, kL204, kA204, kS204, kL205, kL206, kA206, kS206, sites_ok hS hG, show (2 : Int32) = nI 2 from rfl, nn_mul, nn_le, show ¬ (2 * gSz g ≤ k) by omega, nn_rem]
    have e2 : nI k / nI 2 = nI i := by rw [nn_div (by omega) (by omega), hi]
    have er : (nI (k % 2) = 1) = (k % 2 = 1) := nn_eq (b := 1) (by omega) (by decide)
    have er' : nI k - nI k / nI 2 * nI 2 = nI (k % 2) := nn_rem (by omega) (by omega)
    first
      | rw [er']
      | skip
    simp only [e2, er, htk]
    rcases (show d = 0 ∨ d = 1 by omega) with z | z
    · rw [if_neg (by omega)]
      rw [z] at main ⊢
      exact main
    · rw [if_pos (by omega)]
      rw [z] at main ⊢
      exact main
  · simp only [f_X12_clusterOf_b16]
    simp (disch := first | assumption | omega) only [Option.bind_some, Option.map_some, xw_gR, xw_gN, xw_al, xw_ck, xw_uI, xw_ur, xup_at, xur_at, if_true, if_false, reduceIte, and_true, true_and, and_false, false_and, not_true_eq_false, not_false_eq_true, Nat.reduceEqDiff, eq_self, Nat.reduceAdd, Nat.reduceMul, kC1, kG1, kP1, kR1_0, kR1_1, kR1_2, kR1_3, kR1_4, kR1_5, kR1_6, kR1_7, kR1_8, kR1_9, kR1_10, kR1_11, kR1_12, kR1_13, kC2, kG2, kP2, kR2_0, kR2_1, kC3, kG3, kP3, kR3_0, kR3_1, kR3_2, kR3_3, kL4, kA4, kS4, kL5, kA5, kS5, kL6, kA6, kS6, kL7, kA7, kS7, kC8, kG8, kP8, kR8_0, kR8_1, kL9, kA9, kS9, kL10, kA10, kS10, kC11, kG11, kP11, kR11_0, kR11_1, kR11_2, kR11_3, kL12, kA12, kS12, kL13, kA13, kS13, kL14, kA14, kS14, kL15, kA15, kS15, kC16, kG16, kP16, kR16_0, kR16_1, kL17, kA17, kS17, kL18, kA18, kS18, kC19, kG19, kP19, kR19_0, kL20, kL141, kL146, kA146, kS146, kL151, kA151, kS151, kL156, kA156, kS156, kC157, kG157, kP157, kR157_0, kR157_1, kL158, kA158, kS158, kL159, kA159, kS159, kC161, kG161, kP161, kR161_0, kR161_1, kL162, kA162, kS162, kL163, kA163, kS163, kC165, kG165, kP165, kR165_0, kR165_1, kR165_2, kR165_3, kL166, kA166, kS166, kL167, kA167, kS167, kL168, kA168, kS168, kL169, kA169, kS169, kC170, kG170, kP170, kR170_0, kR170_1, kR170_2, kL171, kA171, kS171, kL172, kA172, kS172, kL173, kA173, kS173, kC174, kG174, kP174, kR174_0, kR174_1, kR174_2, kR174_3, kR174_4, kL175, kA175, kS175, kL176, kA176, kS176, kL177, kA177, kS177, kL178, kA178, kS178, kL179, kC180, kG180, kP180, kL181, kL182, kA182, kS182, kC183, kG183, kP183, kR183_1, kR183_3, kR183_5, kR183_6, kR183_7, kR183_8, kR183_9, kR183_21, kR183_26, kR183_27, kR183_30, kR183_31, kR183_33, kR183_34, kR183_36, kR183_37, kR183_38, kR183_39, kR183_40, kR183_41, kR183_42, kR183_43, kR183_44, kL184, kA184, kS184, kL185, kA185, kS185, kL186, kA186, kS186, kL187, kA187, kS187, kL188, kA188, kS188, kL189, kL190, kL191, kA191, kS191, kL192, kA192, kS192, kL193, kA193, kS193, kL194, kA194, kS194, kL195, kA195, kS195, kL196, kA196, kS196, kL197, kA197, kS197, kL198, kA198, kS198, kL199, kA199, kS199, kL200, kA200, kS200, kL201, kL202, kA202, kS202, kL203, kA203, kS203, kL204, kA204, kS204, kL205, kL206, kA206, kS206, sites_ok hS hG, show (2 : Int32) = nI 2 from rfl, nn_mul, nn_le, Nat.le_refl]
theorem cluster12_ok (hS : Shp σ) (hG : GRD I g) {b i K : Nat} (h64 : I 191 64 = nI b) (hb : b < 65536) (hi : i < gSz g) (h1 : clI g b tk (2 * gSz g) (2 ^ i) (K + 1) = clI g b tk (2 * gSz g) (2 ^ i) K) (h2 : ∀ j, j < K → clI g b tk (2 * gSz g) (2 ^ i) (j + 1) ≠ clI g b tk (2 * gSz g) (2 ^ i) j) : f_X12_clusterOf (xw σ I) 183 (nI i) = some (nI (clI g b tk (2 * gSz g) (2 ^ i) K)) := by
  have hg := hG.1
  have h16 := (gAll_b g hg).2.2.1
  have h2i : 2 ^ i < 65536 := Nat.pow_lt_pow_right (n := 16) (by decide) (by omega)
  have hIb := clI_b (b := b) (f := tk) (N := 2 * gSz g) hg (fun j hj => by unfold tk; omega) h2i
  unfold f_X12_clusterOf
  rw [nn_one (by omega)]
  refine xforE (fun j : Nat => (nI (clI g b tk (2 * gSz g) (2 ^ i) j), (if j = 0 then (0 : Int32) else nI (clI g b tk (2 * gSz g) (2 ^ i) (j - 1))))) (K + 1) rfl (fun j hj => ?_) ?_
  · simp only [f_X12_clusterOf_b6]
    have hne : ¬ nI (clI g b tk (2 * gSz g) (2 ^ i) j) = (if j = 0 then (0 : Int32) else nI (clI g b tk (2 * gSz g) (2 ^ i) (j - 1))) := by
      by_cases z : j = 0
      · subst z
        rw [if_pos rfl]
        exact nI_ne0 (Nat.two_pow_pos i) (by show 2 ^ i < 2 ^ 31; omega)
      · rw [if_neg z, nn_eq (by have := hIb j; omega) (by have := hIb (j - 1); omega)]
        have := h2 (j - 1) (by omega)
        rw [show j - 1 + 1 = j by omega] at this
        exact this
    rw [if_neg hne, pass12 hS hG _ h64 hb (hIb j)]
    rfl
  · simp only [f_X12_clusterOf_b6]
    rw [if_pos (by rw [if_neg (by omega), Nat.add_sub_cancel, h1]), h1]
    rfl
/-- the cluster of a site -/
def clR (g : GD) (b i : Nat) : Nat := clI g b tk (2 * gSz g) (2 ^ i) 16
theorem clI_stay {g : GD} {b : Nat} {f : Nat → Nat} {N S J : Nat} (h : clI g b f N S (J + 1) = clI g b f N S J) : ∀ m, clI g b f N S (J + m) = clI g b f N S J
  | 0 => rfl
  | m + 1 => by
    show clP g b f (clI g b f N S (J + m)) N = _
    rw [clI_stay h m]
    exact h
theorem cluster_two (hS : Shp σ) (hG : GRD I g) {b i : Nat} (hb : b < 65536) (hi : i < gSz g) : f_X3_clusterOf (xw σ I) 11 (nI b) (nI i) = some (nI (clR g b i)) ∧ (I 191 64 = nI b → f_X12_clusterOf (xw σ I) 183 (nI i) = some (nI (clR g b i))) ∧ clR g b i < 65536 := by
  have hg := hG.1
  have h16 := (gAll_b g hg).2.2.1
  have h2i : 2 ^ i < 65536 := Nat.pow_lt_pow_right (n := 16) (by decide) (by omega)
  have h20 : 2 ^ i ≠ 0 := Nat.pos_iff_ne_zero.mp (Nat.two_pow_pos i)
  obtain ⟨J, j1, j2, j3⟩ := clI_end (b := b) (f := fun j => j) (N := 32) hg (fun j hj => hj) h2i h20
  obtain ⟨K, k1, k2, k3⟩ := clI_end (b := b) (f := tk) (N := 2 * gSz g) hg (fun j hj => by unfold tk; omega) h2i h20
  have e2 : clI g b tk (2 * gSz g) (2 ^ i) K = clR g b i := by
    unfold clR
    have := clI_stay k2 (16 - K)
    rw [show K + (16 - K) = 16 by omega] at this
    exact this.symm
  have e1 := cl_same hg j2 k2
  refine ⟨?_, fun h64 => ?_, ?_⟩
  · rw [cluster11_ok hS hG hb hi j1 j2 j3, e1, e2]
  · rw [cluster12_ok hS hG h64 hb hi k2 k3, e2]
  · exact clI_b hg (fun j hj => by unfold tk; omega) h2i 16
end CLUSTER2
theorem op_cluster : Op_cluster INV := by
  intro n σ hn ⟨g, gT, gP, st, H⟩ x
  have hS := H.shp
  have hG := H.grd
  have h16 := (gAll_b g hG.1).2.2.1
  by_cases hs : isS g x = true
  · obtain ⟨i, hi, rfl⟩ := isS_t hs
    obtain ⟨b, o3, o4, o5⟩ := H.now.2.1.2.2.1
    have hb : b < 65536 := Nat.lt_of_lt_of_le o3 (Nat.pow_le_pow_right (n := 2) (by decide) h16)
    have hb4 : xI σ 16 4 = nI b := H.now.1.2.2.2.1.trans o4
    obtain ⟨c1, c2, c3⟩ := cluster_two (σ := σ) (I := xI σ) hS hG hb hi
    refine ⟨nI (clR g b i), ?_, ?_, g, gT, gP, st, H.nop⟩
    · show f_X11_cluster (xw σ (xI σ)) 1 (nI i) = _
      unfold f_X11_cluster
      simp (disch := first | assumption | omega) only [Option.bind_some, Option.map_some, xw_gR, xw_gN, xw_al, xw_ck, xw_uI, xw_ur, xup_at, xur_at, if_true, if_false, reduceIte, and_true, true_and, and_false, false_and, not_true_eq_false, not_false_eq_true, Nat.reduceEqDiff, eq_self, Nat.reduceAdd, Nat.reduceMul, kC1, kG1, kP1, kR1_0, kR1_1, kR1_2, kR1_3, kR1_4, kR1_5, kR1_6, kR1_7, kR1_8, kR1_9, kR1_10, kR1_11, kR1_12, kR1_13, kC2, kG2, kP2, kR2_0, kR2_1, kC3, kG3, kP3, kR3_0, kR3_1, kR3_2, kR3_3, kL4, kA4, kS4, kL5, kA5, kS5, kL6, kA6, kS6, kL7, kA7, kS7, kC8, kG8, kP8, kR8_0, kR8_1, kL9, kA9, kS9, kL10, kA10, kS10, kC11, kG11, kP11, kR11_0, kR11_1, kR11_2, kR11_3, kL12, kA12, kS12, kL13, kA13, kS13, kL14, kA14, kS14, kL15, kA15, kS15, kC16, kG16, kP16, kR16_0, kR16_1, kL17, kA17, kS17, kL18, kA18, kS18, kC19, kG19, kP19, kR19_0, kL20, kL141, kL146, kA146, kS146, kL151, kA151, kS151, kL156, kA156, kS156, kC157, kG157, kP157, kR157_0, kR157_1, kL158, kA158, kS158, kL159, kA159, kS159, kC161, kG161, kP161, kR161_0, kR161_1, kL162, kA162, kS162, kL163, kA163, kS163, kC165, kG165, kP165, kR165_0, kR165_1, kR165_2, kR165_3, kL166, kA166, kS166, kL167, kA167, kS167, kL168, kA168, kS168, kL169, kA169, kS169, kC170, kG170, kP170, kR170_0, kR170_1, kR170_2, kL171, kA171, kS171, kL172, kA172, kS172, kL173, kA173, kS173, kC174, kG174, kP174, kR174_0, kR174_1, kR174_2, kR174_3, kR174_4, kL175, kA175, kS175, kL176, kA176, kS176, kL177, kA177, kS177, kL178, kA178, kS178, kL179, kC180, kG180, kP180, kL181, kL182, kA182, kS182, kC183, kG183, kP183, kR183_1, kR183_3, kR183_5, kR183_6, kR183_7, kR183_8, kR183_9, kR183_21, kR183_26, kR183_27, kR183_30, kR183_31, kR183_33, kR183_34, kR183_36, kR183_37, kR183_38, kR183_39, kR183_40, kR183_41, kR183_42, kR183_43, kR183_44, kL184, kA184, kS184, kL185, kA185, kS185, kL186, kA186, kS186, kL187, kA187, kS187, kL188, kA188, kS188, kL189, kL190, kL191, kA191, kS191, kL192, kA192, kS192, kL193, kA193, kS193, kL194, kA194, kS194, kL195, kA195, kS195, kL196, kA196, kS196, kL197, kA197, kS197, kL198, kA198, kS198, kL199, kA199, kS199, kL200, kA200, kS200, kL201, kL202, kA202, kS202, kL203, kA203, kS203, kL204, kA204, kS204, kL205, kL206, kA206, kS206, hasSite_ok hS hG, hs, one0, hb4, c1]
    · show f_X12_cluster (xw σ (xI σ)) 183 (nI i) = _
      unfold f_X12_cluster
      simp (disch := first | assumption | omega) only [Option.bind_some, Option.map_some, xw_gR, xw_gN, xw_al, xw_ck, xw_uI, xw_ur, xup_at, xur_at, if_true, if_false, reduceIte, and_true, true_and, and_false, false_and, not_true_eq_false, not_false_eq_true, Nat.reduceEqDiff, eq_self, Nat.reduceAdd, Nat.reduceMul, kC1, kG1, kP1, kR1_0, kR1_1, kR1_2, kR1_3, kR1_4, kR1_5, kR1_6, kR1_7, kR1_8, kR1_9, kR1_10, kR1_11, kR1_12, kR1_13, kC2, kG2, kP2, kR2_0, kR2_1, kC3, kG3, kP3, kR3_0, kR3_1, kR3_2, kR3_3, kL4, kA4, kS4, kL5, kA5, kS5, kL6, kA6, kS6, kL7, kA7, kS7, kC8, kG8, kP8, kR8_0, kR8_1, kL9, kA9, kS9, kL10, kA10, kS10, kC11, kG11, kP11, kR11_0, kR11_1, kR11_2, kR11_3, kL12, kA12, kS12, kL13, kA13, kS13, kL14, kA14, kS14, kL15, kA15, kS15, kC16, kG16, kP16, kR16_0, kR16_1, kL17, kA17, kS17, kL18, kA18, kS18, kC19, kG19, kP19, kR19_0, kL20, kL141, kL146, kA146, kS146, kL151, kA151, kS151, kL156, kA156, kS156, kC157, kG157, kP157, kR157_0, kR157_1, kL158, kA158, kS158, kL159, kA159, kS159, kC161, kG161, kP161, kR161_0, kR161_1, kL162, kA162, kS162, kL163, kA163, kS163, kC165, kG165, kP165, kR165_0, kR165_1, kR165_2, kR165_3, kL166, kA166, kS166, kL167, kA167, kS167, kL168, kA168, kS168, kL169, kA169, kS169, kC170, kG170, kP170, kR170_0, kR170_1, kR170_2, kL171, kA171, kS171, kL172, kA172, kS172, kL173, kA173, kS173, kC174, kG174, kP174, kR174_0, kR174_1, kR174_2, kR174_3, kR174_4, kL175, kA175, kS175, kL176, kA176, kS176, kL177, kA177, kS177, kL178, kA178, kS178, kL179, kC180, kG180, kP180, kL181, kL182, kA182, kS182, kC183, kG183, kP183, kR183_1, kR183_3, kR183_5, kR183_6, kR183_7, kR183_8, kR183_9, kR183_21, kR183_26, kR183_27, kR183_30, kR183_31, kR183_33, kR183_34, kR183_36, kR183_37, kR183_38, kR183_39, kR183_40, kR183_41, kR183_42, kR183_43, kR183_44, kL184, kA184, kS184, kL185, kA185, kS185, kL186, kA186, kS186, kL187, kA187, kS187, kL188, kA188, kS188, kL189, kL190, kL191, kA191, kS191, kL192, kA192, kS192, kL193, kA193, kS193, kL194, kA194, kS194, kL195, kA195, kS195, kL196, kA196, kS196, kL197, kA197, kS197, kL198, kA198, kS198, kL199, kA199, kS199, kL200, kA200, kS200, kL201, kL202, kA202, kS202, kL203, kA203, kS203, kL204, kA204, kS204, kL205, kL206, kA206, kS206, isSite_ok hS hG, hs, one0, c2 o4]
  · refine ⟨-1, ?_, ?_, g, gT, gP, st, H.nop⟩
    · show f_X11_cluster (xw σ (xI σ)) 1 x = _
      unfold f_X11_cluster
      simp (disch := first | assumption | omega) only [Option.bind_some, Option.map_some, xw_gR, xw_gN, xw_al, xw_ck, xw_uI, xw_ur, xup_at, xur_at, if_true, if_false, reduceIte, and_true, true_and, and_false, false_and, not_true_eq_false, not_false_eq_true, Nat.reduceEqDiff, eq_self, Nat.reduceAdd, Nat.reduceMul, kC1, kG1, kP1, kR1_0, kR1_1, kR1_2, kR1_3, kR1_4, kR1_5, kR1_6, kR1_7, kR1_8, kR1_9, kR1_10, kR1_11, kR1_12, kR1_13, kC2, kG2, kP2, kR2_0, kR2_1, kC3, kG3, kP3, kR3_0, kR3_1, kR3_2, kR3_3, kL4, kA4, kS4, kL5, kA5, kS5, kL6, kA6, kS6, kL7, kA7, kS7, kC8, kG8, kP8, kR8_0, kR8_1, kL9, kA9, kS9, kL10, kA10, kS10, kC11, kG11, kP11, kR11_0, kR11_1, kR11_2, kR11_3, kL12, kA12, kS12, kL13, kA13, kS13, kL14, kA14, kS14, kL15, kA15, kS15, kC16, kG16, kP16, kR16_0, kR16_1, kL17, kA17, kS17, kL18, kA18, kS18, kC19, kG19, kP19, kR19_0, kL20, kL141, kL146, kA146, kS146, kL151, kA151, kS151, kL156, kA156, kS156, kC157, kG157, kP157, kR157_0, kR157_1, kL158, kA158, kS158, kL159, kA159, kS159, kC161, kG161, kP161, kR161_0, kR161_1, kL162, kA162, kS162, kL163, kA163, kS163, kC165, kG165, kP165, kR165_0, kR165_1, kR165_2, kR165_3, kL166, kA166, kS166, kL167, kA167, kS167, kL168, kA168, kS168, kL169, kA169, kS169, kC170, kG170, kP170, kR170_0, kR170_1, kR170_2, kL171, kA171, kS171, kL172, kA172, kS172, kL173, kA173, kS173, kC174, kG174, kP174, kR174_0, kR174_1, kR174_2, kR174_3, kR174_4, kL175, kA175, kS175, kL176, kA176, kS176, kL177, kA177, kS177, kL178, kA178, kS178, kL179, kC180, kG180, kP180, kL181, kL182, kA182, kS182, kC183, kG183, kP183, kR183_1, kR183_3, kR183_5, kR183_6, kR183_7, kR183_8, kR183_9, kR183_21, kR183_26, kR183_27, kR183_30, kR183_31, kR183_33, kR183_34, kR183_36, kR183_37, kR183_38, kR183_39, kR183_40, kR183_41, kR183_42, kR183_43, kR183_44, kL184, kA184, kS184, kL185, kA185, kS185, kL186, kA186, kS186, kL187, kA187, kS187, kL188, kA188, kS188, kL189, kL190, kL191, kA191, kS191, kL192, kA192, kS192, kL193, kA193, kS193, kL194, kA194, kS194, kL195, kA195, kS195, kL196, kA196, kS196, kL197, kA197, kS197, kL198, kA198, kS198, kL199, kA199, kS199, kL200, kA200, kS200, kL201, kL202, kA202, kS202, kL203, kA203, kS203, kL204, kA204, kS204, kL205, kL206, kA206, kS206, hasSite_ok hS hG, hs]
      rfl
    · show f_X12_cluster (xw σ (xI σ)) 183 x = _
      unfold f_X12_cluster
      simp (disch := first | assumption | omega) only [Option.bind_some, Option.map_some, xw_gR, xw_gN, xw_al, xw_ck, xw_uI, xw_ur, xup_at, xur_at, if_true, if_false, reduceIte, and_true, true_and, and_false, false_and, not_true_eq_false, not_false_eq_true, Nat.reduceEqDiff, eq_self, Nat.reduceAdd, Nat.reduceMul, kC1, kG1, kP1, kR1_0, kR1_1, kR1_2, kR1_3, kR1_4, kR1_5, kR1_6, kR1_7, kR1_8, kR1_9, kR1_10, kR1_11, kR1_12, kR1_13, kC2, kG2, kP2, kR2_0, kR2_1, kC3, kG3, kP3, kR3_0, kR3_1, kR3_2, kR3_3, kL4, kA4, kS4, kL5, kA5, kS5, kL6, kA6, kS6, kL7, kA7, kS7, kC8, kG8, kP8, kR8_0, kR8_1, kL9, kA9, kS9, kL10, kA10, kS10, kC11, kG11, kP11, kR11_0, kR11_1, kR11_2, kR11_3, kL12, kA12, kS12, kL13, kA13, kS13, kL14, kA14, kS14, kL15, kA15, kS15, kC16, kG16, kP16, kR16_0, kR16_1, kL17, kA17, kS17, kL18, kA18, kS18, kC19, kG19, kP19, kR19_0, kL20, kL141, kL146, kA146, kS146, kL151, kA151, kS151, kL156, kA156, kS156, kC157, kG157, kP157, kR157_0, kR157_1, kL158, kA158, kS158, kL159, kA159, kS159, kC161, kG161, kP161, kR161_0, kR161_1, kL162, kA162, kS162, kL163, kA163, kS163, kC165, kG165, kP165, kR165_0, kR165_1, kR165_2, kR165_3, kL166, kA166, kS166, kL167, kA167, kS167, kL168, kA168, kS168, kL169, kA169, kS169, kC170, kG170, kP170, kR170_0, kR170_1, kR170_2, kL171, kA171, kS171, kL172, kA172, kS172, kL173, kA173, kS173, kC174, kG174, kP174, kR174_0, kR174_1, kR174_2, kR174_3, kR174_4, kL175, kA175, kS175, kL176, kA176, kS176, kL177, kA177, kS177, kL178, kA178, kS178, kL179, kC180, kG180, kP180, kL181, kL182, kA182, kS182, kC183, kG183, kP183, kR183_1, kR183_3, kR183_5, kR183_6, kR183_7, kR183_8, kR183_9, kR183_21, kR183_26, kR183_27, kR183_30, kR183_31, kR183_33, kR183_34, kR183_36, kR183_37, kR183_38, kR183_39, kR183_40, kR183_41, kR183_42, kR183_43, kR183_44, kL184, kA184, kS184, kL185, kA185, kS185, kL186, kA186, kS186, kL187, kA187, kS187, kL188, kA188, kS188, kL189, kL190, kL191, kA191, kS191, kL192, kA192, kS192, kL193, kA193, kS193, kL194, kA194, kS194, kL195, kA195, kS195, kL196, kA196, kS196, kL197, kA197, kS197, kL198, kA198, kS198, kL199, kA199, kS199, kL200, kA200, kS200, kL201, kL202, kA202, kS202, kL203, kA203, kS203, kL204, kA204, kS204, kL205, kL206, kA206, kS206, isSite_ok hS hG, hs]
      rfl
end
