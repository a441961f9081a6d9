/-! fall -/
theorem knows_g {σ : XS} {I : Nat → Nat → Int32} {g : GD} (hS : Shp σ) (hG : GRD I g) (ho : RO g (I 191)) (hk : KNW I g) : ∃ J, f_X12_knows (xw σ I) 183 = some (xw σ J) ∧ KNK J g (J 191) ∧ J 183 32 = 1 ∧ (∀ b j, ¬ (196 ≤ b ∧ b ≤ 198) → ¬ (b = 183 ∧ (j = 32 ∨ j = 35)) → J b j = I b j) := by
  rcases hk with h0 | ⟨h1, hk⟩
  · obtain ⟨z, hz⟩ : ∃ z, z = xup I 183 32 1 := ⟨_, rfl⟩
    have uz : ∀ a k, ¬ (a = 183 ∧ k = 32) → z a k = I a k := fun a k h => by rw [hz, xup_at, if_neg h]
    have hGz : GRD z g := GRD_c (fun a k q => uz a k (by unfold sGRD at q; omega)) hG
    have hrow : z 191 = I 191 := by funext k; exact uz 191 k (by omega)
    obtain ⟨J, e1, j1, j2⟩ := knows_l2 (I := z) hS hGz rfl (by rw [hrow]; exact ho)
    have rJ : J 191 = I 191 := by funext k; rw [j2 191 k (by omega) (by omega), hrow]
    have uJ : ∀ b j, ¬ (196 ≤ b ∧ b ≤ 198) → ¬ (b = 183 ∧ (j = 32 ∨ j = 35)) → J b j = I b j := fun b j h1 h2 => by rw [j2 b j h1 (by omega), uz b j (by omega)]
    have kJ : KNK J g (J 191) := by rw [rJ, ← hrow]; exact j1
    refine ⟨J, ?_, kJ, ?_, uJ⟩
    · unfold f_X12_knows
      simp (disch := first | assumption | omega) only [Option.bind_some, Option.map_some, xw_gR, xw_gN, xw_al, xw_ck, xw_uI, xw_ur, xup_at, xur_at, if_true, if_false, reduceIte, and_true, true_and, and_false, false_and, not_true_eq_false, not_false_eq_true, Nat.reduceEqDiff, eq_self, Nat.reduceAdd, Nat.reduceMul, kC1, kG1, kP1, kR1_0, kR1_1, kR1_2, kR1_3, kR1_4, kR1_5, kR1_6, kR1_7, kR1_8, kR1_9, kR1_10, kR1_11, kR1_12, kR1_13, kC2, kG2, kP2, kR2_0, kR2_1, kC3, kG3, kP3, kR3_0, kR3_1, kR3_2, kR3_3, kL4, kA4, kS4, kL5, kA5, kS5, kL6, kA6, kS6, kL7, kA7, kS7, kC8, kG8, kP8, kR8_0, kR8_1, kL9, kA9, kS9, kL10, kA10, kS10, kC11, kG11, kP11, kR11_0, kR11_1, kR11_2, kR11_3, kL12, kA12, kS12, kL13, kA13, kS13, kL14, kA14, kS14, kL15, kA15, kS15, kC16, kG16, kP16, kR16_0, kR16_1, kL17, kA17, kS17, kL18, kA18, kS18, kC19, kG19, kP19, kR19_0, kL20, kL141, kL146, kA146, kS146, kL151, kA151, kS151, kL156, kA156, kS156, kC157, kG157, kP157, kR157_0, kR157_1, kL158, kA158, kS158, kL159, kA159, kS159, kC161, kG161, kP161, kR161_0, kR161_1, kL162, kA162, kS162, kL163, kA163, kS163, kC165, kG165, kP165, kR165_0, kR165_1, kR165_2, kR165_3, kL166, kA166, kS166, kL167, kA167, kS167, kL168, kA168, kS168, kL169, kA169, kS169, kC170, kG170, kP170, kR170_0, kR170_1, kR170_2, kL171, kA171, kS171, kL172, kA172, kS172, kL173, kA173, kS173, kC174, kG174, kP174, kR174_0, kR174_1, kR174_2, kR174_3, kR174_4, kL175, kA175, kS175, kL176, kA176, kS176, kL177, kA177, kS177, kL178, kA178, kS178, kL179, kC180, kG180, kP180, kL181, kL182, kA182, kS182, kC183, kG183, kP183, kR183_1, kR183_3, kR183_5, kR183_6, kR183_7, kR183_8, kR183_9, kR183_21, kR183_26, kR183_27, kR183_30, kR183_31, kR183_33, kR183_34, kR183_36, kR183_37, kR183_38, kR183_39, kR183_40, kR183_41, kR183_42, kR183_43, kR183_44, kL184, kA184, kS184, kL185, kA185, kS185, kL186, kA186, kS186, kL187, kA187, kS187, kL188, kA188, kS188, kL189, kL190, kL191, kA191, kS191, kL192, kA192, kS192, kL193, kA193, kS193, kL194, kA194, kS194, kL195, kA195, kS195, kL196, kA196, kS196, kL197, kA197, kS197, kL198, kA198, kS198, kL199, kA199, kS199, kL200, kA200, kS200, kL201, kL202, kA202, kS202, kL203, kA203, kS203, kL204, kA204, kS204, kL205, kL206, kA206, kS206, h0]
      rw [← hz]
      refine xforE (fun j : Nat => (nI j, xw σ (fun c k => if c = 197 ∧ k < j then nI 0 else z c k))) 301 ?_ (fun j hj => ?_) ?_
      · congr 2
        funext c k
        rw [if_neg (by omega)]
      · simp only [f_X12_knows_b15]
        rw [if_neg (by rw [show (301 : Int32) = nI 301 from rfl, nn_le (by omega) (by omega)]; omega)]
        simp (disch := first | assumption | omega) only [Option.bind_some, Option.map_some, xw_gR, xw_gN, xw_al, xw_ck, xw_uI, xw_ur, xup_at, xur_at, if_true, if_false, reduceIte, and_true, true_and, and_false, false_and, not_true_eq_false, not_false_eq_true, Nat.reduceEqDiff, eq_self, Nat.reduceAdd, Nat.reduceMul, kC1, kG1, kP1, kR1_0, kR1_1, kR1_2, kR1_3, kR1_4, kR1_5, kR1_6, kR1_7, kR1_8, kR1_9, kR1_10, kR1_11, kR1_12, kR1_13, kC2, kG2, kP2, kR2_0, kR2_1, kC3, kG3, kP3, kR3_0, kR3_1, kR3_2, kR3_3, kL4, kA4, kS4, kL5, kA5, kS5, kL6, kA6, kS6, kL7, kA7, kS7, kC8, kG8, kP8, kR8_0, kR8_1, kL9, kA9, kS9, kL10, kA10, kS10, kC11, kG11, kP11, kR11_0, kR11_1, kR11_2, kR11_3, kL12, kA12, kS12, kL13, kA13, kS13, kL14, kA14, kS14, kL15, kA15, kS15, kC16, kG16, kP16, kR16_0, kR16_1, kL17, kA17, kS17, kL18, kA18, kS18, kC19, kG19, kP19, kR19_0, kL20, kL141, kL146, kA146, kS146, kL151, kA151, kS151, kL156, kA156, kS156, kC157, kG157, kP157, kR157_0, kR157_1, kL158, kA158, kS158, kL159, kA159, kS159, kC161, kG161, kP161, kR161_0, kR161_1, kL162, kA162, kS162, kL163, kA163, kS163, kC165, kG165, kP165, kR165_0, kR165_1, kR165_2, kR165_3, kL166, kA166, kS166, kL167, kA167, kS167, kL168, kA168, kS168, kL169, kA169, kS169, kC170, kG170, kP170, kR170_0, kR170_1, kR170_2, kL171, kA171, kS171, kL172, kA172, kS172, kL173, kA173, kS173, kC174, kG174, kP174, kR174_0, kR174_1, kR174_2, kR174_3, kR174_4, kL175, kA175, kS175, kL176, kA176, kS176, kL177, kA177, kS177, kL178, kA178, kS178, kL179, kC180, kG180, kP180, kL181, kL182, kA182, kS182, kC183, kG183, kP183, kR183_1, kR183_3, kR183_5, kR183_6, kR183_7, kR183_8, kR183_9, kR183_21, kR183_26, kR183_27, kR183_30, kR183_31, kR183_33, kR183_34, kR183_36, kR183_37, kR183_38, kR183_39, kR183_40, kR183_41, kR183_42, kR183_43, kR183_44, kL184, kA184, kS184, kL185, kA185, kS185, kL186, kA186, kS186, kL187, kA187, kS187, kL188, kA188, kS188, kL189, kL190, kL191, kA191, kS191, kL192, kA192, kS192, kL193, kA193, kS193, kL194, kA194, kS194, kL195, kA195, kS195, kL196, kA196, kS196, kL197, kA197, kS197, kL198, kA198, kS198, kL199, kA199, kS199, kL200, kA200, kS200, kL201, kL202, kA202, kS202, kL203, kA203, kS203, kL204, kA204, kS204, kL205, kL206, kA206, kS206]
        rw [nI_succ]
        congr 4
        funext c k
        simp only [xup_at]
        by_cases q : c = 197
        · subst q
          by_cases q2 : k = j
          · subst q2; simp; rfl
          · have : (k < j + 1) ↔ (k < j) := by omega
            simp [q2, this]
        · simp [q]
      · simp only [f_X12_knows_b15]
        rw [if_pos (by decide)]
        have e : (fun c k => if c = 197 ∧ k < 301 then nI 0 else z c k) = knI z g (z 191) 0 := by
          funext c k
          unfold knI
          rw [if_neg (show ¬ (c = 196 ∧ k < 0) by omega)]
          rfl
        rw [e, e1]
        rfl
    · rw [j2 183 32 (by omega) (by omega), hz, xup_at, if_pos ⟨rfl, rfl⟩]
  · refine ⟨I, ?_, hk, h1, fun _ _ _ _ => rfl⟩
    unfold f_X12_knows
    simp (disch := first | assumption | omega) only [Option.bind_some, Option.map_some, xw_gR, xw_gN, xw_al, xw_ck, xw_uI, xw_ur, xup_at, xur_at, if_true, if_false, reduceIte, and_true, true_and, and_false, false_and, not_true_eq_false, not_false_eq_true, Nat.reduceEqDiff, eq_self, Nat.reduceAdd, Nat.reduceMul, kC1, kG1, kP1, kR1_0, kR1_1, kR1_2, kR1_3, kR1_4, kR1_5, kR1_6, kR1_7, kR1_8, kR1_9, kR1_10, kR1_11, kR1_12, kR1_13, kC2, kG2, kP2, kR2_0, kR2_1, kC3, kG3, kP3, kR3_0, kR3_1, kR3_2, kR3_3, kL4, kA4, kS4, kL5, kA5, kS5, kL6, kA6, kS6, kL7, kA7, kS7, kC8, kG8, kP8, kR8_0, kR8_1, kL9, kA9, kS9, kL10, kA10, kS10, kC11, kG11, kP11, kR11_0, kR11_1, kR11_2, kR11_3, kL12, kA12, kS12, kL13, kA13, kS13, kL14, kA14, kS14, kL15, kA15, kS15, kC16, kG16, kP16, kR16_0, kR16_1, kL17, kA17, kS17, kL18, kA18, kS18, kC19, kG19, kP19, kR19_0, kL20, kL141, kL146, kA146, kS146, kL151, kA151, kS151, kL156, kA156, kS156, kC157, kG157, kP157, kR157_0, kR157_1, kL158, kA158, kS158, kL159, kA159, kS159, kC161, kG161, kP161, kR161_0, kR161_1, kL162, kA162, kS162, kL163, kA163, kS163, kC165, kG165, kP165, kR165_0, kR165_1, kR165_2, kR165_3, kL166, kA166, kS166, kL167, kA167, kS167, kL168, kA168, kS168, kL169, kA169, kS169, kC170, kG170, kP170, kR170_0, kR170_1, kR170_2, kL171, kA171, kS171, kL172, kA172, kS172, kL173, kA173, kS173, kC174, kG174, kP174, kR174_0, kR174_1, kR174_2, kR174_3, kR174_4, kL175, kA175, kS175, kL176, kA176, kS176, kL177, kA177, kS177, kL178, kA178, kS178, kL179, kC180, kG180, kP180, kL181, kL182, kA182, kS182, kC183, kG183, kP183, kR183_1, kR183_3, kR183_5, kR183_6, kR183_7, kR183_8, kR183_9, kR183_21, kR183_26, kR183_27, kR183_30, kR183_31, kR183_33, kR183_34, kR183_36, kR183_37, kR183_38, kR183_39, kR183_40, kR183_41, kR183_42, kR183_43, kR183_44, kL184, kA184, kS184, kL185, kA185, kS185, kL186, kA186, kS186, kL187, kA187, kS187, kL188, kA188, kS188, kL189, kL190, kL191, kA191, kS191, kL192, kA192, kS192, kL193, kA193, kS193, kL194, kA194, kS194, kL195, kA195, kS195, kL196, kA196, kS196, kL197, kA197, kS197, kL198, kA198, kS198, kL199, kA199, kS199, kL200, kA200, kS200, kL201, kL202, kA202, kS202, kL203, kA203, kS203, kL204, kA204, kS204, kL205, kL206, kA206, kS206, h1, one0]
theorem IV.walk {n : Nat} {σ : XS} {g : GD} {gT gP : GH} {st : Nat} (H : IV n σ g gT gP st) {I' : Nat → Nat → Int32} (u : ∀ a k, ¬ (176 ≤ a ∧ a ≤ 182) → I' a k = xI σ a k) : IV n (xw σ I') g gT gP st := by
  have hc := H.cells
  exact H.cache H.shp (fun a k h => u a k (by omega)) (CCH_c (fun a k q => u a k (by unfold sCCH at q; rw [xw_R] at q; omega)) (Nat.le_refl _) (fun _ _ => rfl) (fun _ _ => rfl) H.cch) H.cel
theorem op_fall : Op_fall INV := by
  intro n σ hn ⟨g, gT, gP, st, H⟩ _
  have hS := H.shp
  have hG := H.grd
  have hg := hG.1
  have h16 := (gAll_b g hg).2.2.1
  have hSt := (gSt_b hg).1
  by_cases h0 : gSz g = 0
  · refine ⟨-1, σ, σ, ?_, ?_, g, gT, gP, st, H.nop⟩
    · show f_X11_fall (xw σ (xI σ)) 1 = _
      unfold f_X11_fall
      simp (disch := first | assumption | omega) only [Option.bind_some, Option.map_some, xw_gR, xw_gN, xw_al, xw_ck, xw_uI, xw_ur, xup_at, xur_at, if_true, if_false, reduceIte, and_true, true_and, and_false, false_and, not_true_eq_false, not_false_eq_true, Nat.reduceEqDiff, eq_self, Nat.reduceAdd, Nat.reduceMul, kC1, kG1, kP1, kR1_0, kR1_1, kR1_2, kR1_3, kR1_4, kR1_5, kR1_6, kR1_7, kR1_8, kR1_9, kR1_10, kR1_11, kR1_12, kR1_13, kC2, kG2, kP2, kR2_0, kR2_1, kC3, kG3, kP3, kR3_0, kR3_1, kR3_2, kR3_3, kL4, kA4, kS4, kL5, kA5, kS5, kL6, kA6, kS6, kL7, kA7, kS7, kC8, kG8, kP8, kR8_0, kR8_1, kL9, kA9, kS9, kL10, kA10, kS10, kC11, kG11, kP11, kR11_0, kR11_1, kR11_2, kR11_3, kL12, kA12, kS12, kL13, kA13, kS13, kL14, kA14, kS14, kL15, kA15, kS15, kC16, kG16, kP16, kR16_0, kR16_1, kL17, kA17, kS17, kL18, kA18, kS18, kC19, kG19, kP19, kR19_0, kL20, kL141, kL146, kA146, kS146, kL151, kA151, kS151, kL156, kA156, kS156, kC157, kG157, kP157, kR157_0, kR157_1, kL158, kA158, kS158, kL159, kA159, kS159, kC161, kG161, kP161, kR161_0, kR161_1, kL162, kA162, kS162, kL163, kA163, kS163, kC165, kG165, kP165, kR165_0, kR165_1, kR165_2, kR165_3, kL166, kA166, kS166, kL167, kA167, kS167, kL168, kA168, kS168, kL169, kA169, kS169, kC170, kG170, kP170, kR170_0, kR170_1, kR170_2, kL171, kA171, kS171, kL172, kA172, kS172, kL173, kA173, kS173, kC174, kG174, kP174, kR174_0, kR174_1, kR174_2, kR174_3, kR174_4, kL175, kA175, kS175, kL176, kA176, kS176, kL177, kA177, kS177, kL178, kA178, kS178, kL179, kC180, kG180, kP180, kL181, kL182, kA182, kS182, kC183, kG183, kP183, kR183_1, kR183_3, kR183_5, kR183_6, kR183_7, kR183_8, kR183_9, kR183_21, kR183_26, kR183_27, kR183_30, kR183_31, kR183_33, kR183_34, kR183_36, kR183_37, kR183_38, kR183_39, kR183_40, kR183_41, kR183_42, kR183_43, kR183_44, kL184, kA184, kS184, kL185, kA185, kS185, kL186, kA186, kS186, kL187, kA187, kS187, kL188, kA188, kS188, kL189, kL190, kL191, kA191, kS191, kL192, kA192, kS192, kL193, kA193, kS193, kL194, kA194, kS194, kL195, kA195, kS195, kL196, kA196, kS196, kL197, kA197, kS197, kL198, kA198, kS198, kL199, kA199, kS199, kL200, kA200, kS200, kL201, kL202, kA202, kS202, kL203, kA203, kS203, kL204, kA204, kS204, kL205, kL206, kA206, kS206, hG.2.2.2.2.1, h0, show (nI 0 = 0) = True from eq_true rfl]
      rfl
    · show f_X12_fall (xw σ (xI σ)) 183 = _
      unfold f_X12_fall
      simp (disch := first | assumption | omega) only [Option.bind_some, Option.map_some, xw_gR, xw_gN, xw_al, xw_ck, xw_uI, xw_ur, xup_at, xur_at, if_true, if_false, reduceIte, and_true, true_and, and_false, false_and, not_true_eq_false, not_false_eq_true, Nat.reduceEqDiff, eq_self, Nat.reduceAdd, Nat.reduceMul, kC1, kG1, kP1, kR1_0, kR1_1, kR1_2, kR1_3, kR1_4, kR1_5, kR1_6, kR1_7, kR1_8, kR1_9, kR1_10, kR1_11, kR1_12, kR1_13, kC2, kG2, kP2, kR2_0, kR2_1, kC3, kG3, kP3, kR3_0, kR3_1, kR3_2, kR3_3, kL4, kA4, kS4, kL5, kA5, kS5, kL6, kA6, kS6, kL7, kA7, kS7, kC8, kG8, kP8, kR8_0, kR8_1, kL9, kA9, kS9, kL10, kA10, kS10, kC11, kG11, kP11, kR11_0, kR11_1, kR11_2, kR11_3, kL12, kA12, kS12, kL13, kA13, kS13, kL14, kA14, kS14, kL15, kA15, kS15, kC16, kG16, kP16, kR16_0, kR16_1, kL17, kA17, kS17, kL18, kA18, kS18, kC19, kG19, kP19, kR19_0, kL20, kL141, kL146, kA146, kS146, kL151, kA151, kS151, kL156, kA156, kS156, kC157, kG157, kP157, kR157_0, kR157_1, kL158, kA158, kS158, kL159, kA159, kS159, kC161, kG161, kP161, kR161_0, kR161_1, kL162, kA162, kS162, kL163, kA163, kS163, kC165, kG165, kP165, kR165_0, kR165_1, kR165_2, kR165_3, kL166, kA166, kS166, kL167, kA167, kS167, kL168, kA168, kS168, kL169, kA169, kS169, kC170, kG170, kP170, kR170_0, kR170_1, kR170_2, kL171, kA171, kS171, kL172, kA172, kS172, kL173, kA173, kS173, kC174, kG174, kP174, kR174_0, kR174_1, kR174_2, kR174_3, kR174_4, kL175, kA175, kS175, kL176, kA176, kS176, kL177, kA177, kS177, kL178, kA178, kS178, kL179, kC180, kG180, kP180, kL181, kL182, kA182, kS182, kC183, kG183, kP183, kR183_1, kR183_3, kR183_5, kR183_6, kR183_7, kR183_8, kR183_9, kR183_21, kR183_26, kR183_27, kR183_30, kR183_31, kR183_33, kR183_34, kR183_36, kR183_37, kR183_38, kR183_39, kR183_40, kR183_41, kR183_42, kR183_43, kR183_44, kL184, kA184, kS184, kL185, kA185, kS185, kL186, kA186, kS186, kL187, kA187, kS187, kL188, kA188, kS188, kL189, kL190, kL191, kA191, kS191, kL192, kA192, kS192, kL193, kA193, kS193, kL194, kA194, kS194, kL195, kA195, kS195, kL196, kA196, kS196, kL197, kA197, kS197, kL198, kA198, kS198, kL199, kA199, kS199, kL200, kA200, kS200, kL201, kL202, kA202, kS202, kL203, kA203, kS203, kL204, kA204, kS204, kL205, kL206, kA206, kS206, sites_ok hS hG, h0, show (nI 0 = 0) = True from eq_true rfl]
      rfl
  have hn0 : (nI (gSz g) = 0) = False := eq_false (nI_ne0 (by omega) (by omega))
  obtain ⟨F, hF⟩ : ∃ F, F = xI σ 191 := ⟨_, rfl⟩
  have hSR := H.now.1
  have ho := H.now.2.1
  rw [← hF] at hSR ho
  obtain ⟨b, o3, o4, o5⟩ := ho.2.2.1
  have hbN : b < gSt g := by unfold gSt; rw [if_neg h0]; exact o3
  have hbl : lW g F b = true := lW_iff.mpr o5
  have hb4 : xI σ 16 4 = nI b := by rw [hSR.2.2.2.1]; exact o4
  obtain ⟨M, hM, m1, m2⟩ := fs_end (s := b) hg ho
  have hfl := fs_l (g := g) (F := F) hbN hbl M
  obtain ⟨w, hw⟩ : ∃ w, w = fs g F b M := ⟨_, rfl⟩
  rw [← hw] at hfl
  have hfall := fall11_ok (σ := σ) (J := xI σ) hS hG ho hSR hbN hbl hM m1 m2
  rw [← hw] at hfall
  have v0 : flI (xI σ) w M 180 0 = nI w := by unfold flI; simp [xup_at]
  have v1 : flI (xI σ) w M 180 1 = nI M := by unfold flI; simp [xup_at]
  by_cases hM0 : M = 0
  · -- nothing falls
    have HW : IV n (xw σ (flI (xI σ) w M)) g gT gP st := H.walk (fun a k h => flI_out (by omega))
    obtain ⟨J, e2, K2, k32, u2⟩ := knows_g (I := flI (xI σ) w M) hS HW.grd HW.now.2.1 HW.knw
    have rJ : J 191 = F := by rw [hF]; funext k; rw [u2 191 k (by omega) (by omega), flI_out (by omega)]
    have H2 : IV n (xw σ J) g gT gP st := HW.model (fun a k h => u2 a k (by omega) (by omega)) (.inr ⟨k32, K2⟩)
    rw [rJ] at K2
    have hG2 : GRD J g := H2.grd
    refine ⟨0, xw σ (flI (xI σ) w M), xw σ J, ?_, ?_, INV_i H2.nop⟩
    · show f_X11_fall (xw σ (xI σ)) 1 = _
      unfold f_X11_fall
      simp (disch := first | assumption | omega) only [Option.bind_some, Option.map_some, xw_gR, xw_gN, xw_al, xw_ck, xw_uI, xw_ur, xup_at, xur_at, if_true, if_false, reduceIte, and_true, true_and, and_false, false_and, not_true_eq_false, not_false_eq_true, Nat.reduceEqDiff, eq_self, Nat.reduceAdd, Nat.reduceMul, kC1, kG1, kP1, kR1_0, kR1_1, kR1_2, kR1_3, kR1_4, kR1_5, kR1_6, kR1_7, kR1_8, kR1_9, kR1_10, kR1_11, kR1_12, kR1_13, kC2, kG2, kP2, kR2_0, kR2_1, kC3, kG3, kP3, kR3_0, kR3_1, kR3_2, kR3_3, kL4, kA4, kS4, kL5, kA5, kS5, kL6, kA6, kS6, kL7, kA7, kS7, kC8, kG8, kP8, kR8_0, kR8_1, kL9, kA9, kS9, kL10, kA10, kS10, kC11, kG11, kP11, kR11_0, kR11_1, kR11_2, kR11_3, kL12, kA12, kS12, kL13, kA13, kS13, kL14, kA14, kS14, kL15, kA15, kS15, kC16, kG16, kP16, kR16_0, kR16_1, kL17, kA17, kS17, kL18, kA18, kS18, kC19, kG19, kP19, kR19_0, kL20, kL141, kL146, kA146, kS146, kL151, kA151, kS151, kL156, kA156, kS156, kC157, kG157, kP157, kR157_0, kR157_1, kL158, kA158, kS158, kL159, kA159, kS159, kC161, kG161, kP161, kR161_0, kR161_1, kL162, kA162, kS162, kL163, kA163, kS163, kC165, kG165, kP165, kR165_0, kR165_1, kR165_2, kR165_3, kL166, kA166, kS166, kL167, kA167, kS167, kL168, kA168, kS168, kL169, kA169, kS169, kC170, kG170, kP170, kR170_0, kR170_1, kR170_2, kL171, kA171, kS171, kL172, kA172, kS172, kL173, kA173, kS173, kC174, kG174, kP174, kR174_0, kR174_1, kR174_2, kR174_3, kR174_4, kL175, kA175, kS175, kL176, kA176, kS176, kL177, kA177, kS177, kL178, kA178, kS178, kL179, kC180, kG180, kP180, kL181, kL182, kA182, kS182, kC183, kG183, kP183, kR183_1, kR183_3, kR183_5, kR183_6, kR183_7, kR183_8, kR183_9, kR183_21, kR183_26, kR183_27, kR183_30, kR183_31, kR183_33, kR183_34, kR183_36, kR183_37, kR183_38, kR183_39, kR183_40, kR183_41, kR183_42, kR183_43, kR183_44, kL184, kA184, kS184, kL185, kA185, kS185, kL186, kA186, kS186, kL187, kA187, kS187, kL188, kA188, kS188, kL189, kL190, kL191, kA191, kS191, kL192, kA192, kS192, kL193, kA193, kS193, kL194, kA194, kS194, kL195, kA195, kS195, kL196, kA196, kS196, kL197, kA197, kS197, kL198, kA198, kS198, kL199, kA199, kS199, kL200, kA200, kS200, kL201, kL202, kA202, kS202, kL203, kA203, kS203, kL204, kA204, kS204, kL205, kL206, kA206, kS206, hG.2.2.2.2.1, hn0, hb4, hfall, v1, hM0, show (nI 0 ≤ 0) = True from eq_true (by decide)]
      rfl
    · unfold f_X12_fall
      have e64 : J 191 64 = nI b := by rw [rJ]; exact o4
      have ft := fallTurns_ok (σ := σ) (J := J) hS hG2 ho K2 hbN hbl m1 m2
      rw [hM0] at ft
      simp (disch := first | assumption | omega) only [Option.bind_some, Option.map_some, xw_gR, xw_gN, xw_al, xw_ck, xw_uI, xw_ur, xup_at, xur_at, if_true, if_false, reduceIte, and_true, true_and, and_false, false_and, not_true_eq_false, not_false_eq_true, Nat.reduceEqDiff, eq_self, Nat.reduceAdd, Nat.reduceMul, kC1, kG1, kP1, kR1_0, kR1_1, kR1_2, kR1_3, kR1_4, kR1_5, kR1_6, kR1_7, kR1_8, kR1_9, kR1_10, kR1_11, kR1_12, kR1_13, kC2, kG2, kP2, kR2_0, kR2_1, kC3, kG3, kP3, kR3_0, kR3_1, kR3_2, kR3_3, kL4, kA4, kS4, kL5, kA5, kS5, kL6, kA6, kS6, kL7, kA7, kS7, kC8, kG8, kP8, kR8_0, kR8_1, kL9, kA9, kS9, kL10, kA10, kS10, kC11, kG11, kP11, kR11_0, kR11_1, kR11_2, kR11_3, kL12, kA12, kS12, kL13, kA13, kS13, kL14, kA14, kS14, kL15, kA15, kS15, kC16, kG16, kP16, kR16_0, kR16_1, kL17, kA17, kS17, kL18, kA18, kS18, kC19, kG19, kP19, kR19_0, kL20, kL141, kL146, kA146, kS146, kL151, kA151, kS151, kL156, kA156, kS156, kC157, kG157, kP157, kR157_0, kR157_1, kL158, kA158, kS158, kL159, kA159, kS159, kC161, kG161, kP161, kR161_0, kR161_1, kL162, kA162, kS162, kL163, kA163, kS163, kC165, kG165, kP165, kR165_0, kR165_1, kR165_2, kR165_3, kL166, kA166, kS166, kL167, kA167, kS167, kL168, kA168, kS168, kL169, kA169, kS169, kC170, kG170, kP170, kR170_0, kR170_1, kR170_2, kL171, kA171, kS171, kL172, kA172, kS172, kL173, kA173, kS173, kC174, kG174, kP174, kR174_0, kR174_1, kR174_2, kR174_3, kR174_4, kL175, kA175, kS175, kL176, kA176, kS176, kL177, kA177, kS177, kL178, kA178, kS178, kL179, kC180, kG180, kP180, kL181, kL182, kA182, kS182, kC183, kG183, kP183, kR183_1, kR183_3, kR183_5, kR183_6, kR183_7, kR183_8, kR183_9, kR183_21, kR183_26, kR183_27, kR183_30, kR183_31, kR183_33, kR183_34, kR183_36, kR183_37, kR183_38, kR183_39, kR183_40, kR183_41, kR183_42, kR183_43, kR183_44, kL184, kA184, kS184, kL185, kA185, kS185, kL186, kA186, kS186, kL187, kA187, kS187, kL188, kA188, kS188, kL189, kL190, kL191, kA191, kS191, kL192, kA192, kS192, kL193, kA193, kS193, kL194, kA194, kS194, kL195, kA195, kS195, kL196, kA196, kS196, kL197, kA197, kS197, kL198, kA198, kS198, kL199, kA199, kS199, kL200, kA200, kS200, kL201, kL202, kA202, kS202, kL203, kA203, kS203, kL204, kA204, kS204, kL205, kL206, kA206, kS206, sites_ok hS (show GRD (flI (xI σ) w M) g from HW.grd), hn0, e2, show (64 : Int32) = nI 64 from rfl, e64, ft, show (nI 0 = 0) = True from eq_true rfl]
  · have hMz : ¬ (nI M ≤ 0) := nI_nle (by omega) (by omega)
    have hMn : (nI M = 0) = False := eq_false (nI_ne0 (by omega) (by omega))
    obtain ⟨q, nx, ea, hq, hnx, hea, p1, p2, p3, p4, p8⟩ := H.pst
    obtain ⟨I1, hI1⟩ : ∃ I1, I1 = flI (xI σ) w M := ⟨_, rfl⟩
    have u1 : ∀ a k, a ≠ 180 → I1 a k = xI σ a k := fun a k h => by rw [hI1, flI_out h]
    obtain ⟨I2, hI2⟩ : ∃ I2, I2 = xup (kpI I1 nx q) 16 4 (nI w) := ⟨_, rfl⟩
    have ui2 : ∀ a k, ¬ (a = 16 ∧ k = 4) → a ≠ 19 → (a < 21 + 3 * nx ∨ 23 + 3 * nx < a) → I2 a k = I1 a k := fun a k h1 h2 h3 => by rw [hI2, xup_at, if_neg h1, kpI_out h2 h3]
    have r2 : I2 191 = F := by rw [hF]; funext k; rw [ui2 191 k (by omega) (by omega) (by omega), u1 _ _ (by omega)]
    have hG2 : GRD I2 g := GRD_c (fun a k z => by unfold sGRD at z; rw [ui2 a k (by omega) (by omega) (by omega), u1 _ _ (by omega)]) hG
    have kn2 : KNW I2 g := KNW_c hg (fun a k z => by unfold sKNW at z; rw [ui2 a k (by omega) (by omega) (by omega), u1 _ _ (by omega)]) H.knw
    obtain ⟨J, e2, K2, k32, uJ⟩ := knows_g (σ := σ) (I := I2) hS hG2 (by rw [r2]; exact ho) kn2
    have rJ : J 191 = F := by rw [← r2]; funext k; exact uJ 191 k (by omega) (by omega)
    rw [rJ] at K2
    have hGJ : GRD J g := GRD_c (fun a k z => uJ a k (by unfold sGRD at z; omega) (by unfold sGRD at z; omega)) hG2
    have e64 : J 191 64 = nI b := by rw [rJ]; exact o4
    -- the same, as a change by hand of a strip that differs in its notes alone
    obtain ⟨B, hB⟩ : ∃ B : Nat → Nat → Int32, B = fun a k => if (196 ≤ a ∧ a ≤ 198) ∨ (a = 183 ∧ (k = 32 ∨ k = 35)) then J a k else I1 a k := ⟨_, rfl⟩
    have uB : ∀ a k, ¬ ((196 ≤ a ∧ a ≤ 198) ∨ (a = 183 ∧ (k = 32 ∨ k = 35))) → B a k = I1 a k := fun a k h => by rw [hB]; exact if_neg h
    have vB : ∀ a k, ((196 ≤ a ∧ a ≤ 198) ∨ (a = 183 ∧ (k = 32 ∨ k = 35))) → B a k = J a k := fun a k h => by rw [hB]; exact if_pos h
    have rB : B 191 = F := by rw [hF]; funext k; rw [uB 191 k (by omega), u1 _ _ (by omega)]
    have HB : IV n (xw σ B) g gT gP st := by
      have HW : IV n (xw σ I1) g gT gP st := H.walk (fun a k h => u1 a k (by omega))
      refine HW.model (fun a k h => uB a k (by omega)) (.inr ⟨by rw [vB 183 32 (by omega)]; exact k32, ?_⟩)
      rw [rB]
      exact KNK_c (I := J) hg (fun a k h => vB a k (by omega)) (fun _ _ => rfl) K2
    have bk1 : ∀ a k, a ≠ 183 → ¬ (196 ≤ a ∧ a ≤ 198) → a ≠ 180 → B a k = xI σ a k := fun a k h1 h2 h3 => by rw [uB a k (by omega), u1 a k h3]
    have hJ : ∀ a k, ¬ (16 ≤ a ∧ a ≤ 18) → J a k = kpI B nx q a k := by
      intro a k h
      by_cases hc : (196 ≤ a ∧ a ≤ 198) ∨ (a = 183 ∧ (k = 32 ∨ k = 35))
      · rw [kpI_out (by omega) (by omega), vB a k hc]
      · rw [uJ a k (by omega) (by omega), hI2, xup_at, if_neg (by omega)]
        unfold kpI cpI
        simp only [xup_at]
        rw [uB 16 k (by omega), uB 17 k (by omega), uB 18 k (by omega), uB a k hc]
    have p3B : B 183 28 = nI ea := by rw [uB _ _ (by omega), u1 _ _ (by omega)]; exact p3
    have mk1 : f_X12_marks (xw σ J) 183 = some (xw σ (mkI J ea q)) := marks_ok hS hea hq (by rw [hJ _ _ (by omega), kpI_out (by omega) (by omega)]; exact p3B) (by rw [hJ _ _ (by omega), kpI_out (by omega) (by omega), uB _ _ (by omega), u1 _ _ (by omega)]; exact p4)
    have um : ∀ a k, a ≠ 193 → (a ≠ 183 ∨ (k ≠ 28 ∧ k ≠ 29)) → mkI J ea q a k = J a k := fun a k h1 h2 => mkI_out h1 h2
    have rM : mkI J ea q 191 = F := by rw [← rJ]; funext k; exact um 191 k (by omega) (by omega)
    have hGM : GRD (mkI J ea q) g := GRD_c (fun a k z => um a k (by unfold sGRD at z; omega) (by unfold sGRD at z; omega)) hGJ
    have KM : KNK (mkI J ea q) g F := KNK_c (I := J) hg (fun a k h => um a k (by omega) (by omega)) (fun _ _ => rfl) K2
    refine ⟨nI M, xw σ I2, xw σ (xup (mkI J ea q) 191 64 (nI w)), ?_, ?_, ?_⟩
    · show f_X11_fall (xw σ (xI σ)) 1 = _
      unfold f_X11_fall
      rw [← hI1] at hfall v0 v1
      have kp : f_X5_keep (xw σ I1) 19 16 = some (xw σ (kpI I1 nx q)) := keep_ok hS hnx hq (by rw [u1 _ _ (by omega)]; exact p1) (by rw [u1 _ _ (by omega)]; exact p2)
      have k0 : kpI I1 nx q 180 0 = nI w := by rw [kpI_out (by omega) (by omega)]; exact v0
      have k1 : kpI I1 nx q 180 1 = nI M := by rw [kpI_out (by omega) (by omega)]; exact v1
      have i1 : I2 180 1 = nI M := by rw [ui2 _ _ (by omega) (by omega) (by omega)]; exact v1
      simp (disch := first | assumption | omega) only [Option.bind_some, Option.map_some, xw_gR, xw_gN, xw_al, xw_ck, xw_uI, xw_ur, xup_at, xur_at, if_true, if_false, reduceIte, and_true, true_and, and_false, false_and, not_true_eq_false, not_false_eq_true, Nat.reduceEqDiff, eq_self, Nat.reduceAdd, Nat.reduceMul, kC1, kG1, kP1, kR1_0, kR1_1, kR1_2, kR1_3, kR1_4, kR1_5, kR1_6, kR1_7, kR1_8, kR1_9, kR1_10, kR1_11, kR1_12, kR1_13, kC2, kG2, kP2, kR2_0, kR2_1, kC3, kG3, kP3, kR3_0, kR3_1, kR3_2, kR3_3, kL4, kA4, kS4, kL5, kA5, kS5, kL6, kA6, kS6, kL7, kA7, kS7, kC8, kG8, kP8, kR8_0, kR8_1, kL9, kA9, kS9, kL10, kA10, kS10, kC11, kG11, kP11, kR11_0, kR11_1, kR11_2, kR11_3, kL12, kA12, kS12, kL13, kA13, kS13, kL14, kA14, kS14, kL15, kA15, kS15, kC16, kG16, kP16, kR16_0, kR16_1, kL17, kA17, kS17, kL18, kA18, kS18, kC19, kG19, kP19, kR19_0, kL20, kL141, kL146, kA146, kS146, kL151, kA151, kS151, kL156, kA156, kS156, kC157, kG157, kP157, kR157_0, kR157_1, kL158, kA158, kS158, kL159, kA159, kS159, kC161, kG161, kP161, kR161_0, kR161_1, kL162, kA162, kS162, kL163, kA163, kS163, kC165, kG165, kP165, kR165_0, kR165_1, kR165_2, kR165_3, kL166, kA166, kS166, kL167, kA167, kS167, kL168, kA168, kS168, kL169, kA169, kS169, kC170, kG170, kP170, kR170_0, kR170_1, kR170_2, kL171, kA171, kS171, kL172, kA172, kS172, kL173, kA173, kS173, kC174, kG174, kP174, kR174_0, kR174_1, kR174_2, kR174_3, kR174_4, kL175, kA175, kS175, kL176, kA176, kS176, kL177, kA177, kS177, kL178, kA178, kS178, kL179, kC180, kG180, kP180, kL181, kL182, kA182, kS182, kC183, kG183, kP183, kR183_1, kR183_3, kR183_5, kR183_6, kR183_7, kR183_8, kR183_9, kR183_21, kR183_26, kR183_27, kR183_30, kR183_31, kR183_33, kR183_34, kR183_36, kR183_37, kR183_38, kR183_39, kR183_40, kR183_41, kR183_42, kR183_43, kR183_44, kL184, kA184, kS184, kL185, kA185, kS185, kL186, kA186, kS186, kL187, kA187, kS187, kL188, kA188, kS188, kL189, kL190, kL191, kA191, kS191, kL192, kA192, kS192, kL193, kA193, kS193, kL194, kA194, kS194, kL195, kA195, kS195, kL196, kA196, kS196, kL197, kA197, kS197, kL198, kA198, kS198, kL199, kA199, kS199, kL200, kA200, kS200, kL201, kL202, kA202, kS202, kL203, kA203, kS203, kL204, kA204, kS204, kL205, kL206, kA206, kS206, hG.2.2.2.2.1, hn0, hb4, hfall, v1, hMz, kp, k0, k1, ← hI2, i1]
    · unfold f_X12_fall
      have ft := fallTurns_ok (σ := σ) (J := J) hS hGJ ho K2 hbN hbl m1 m2
      have fe := fallEnd_ok (σ := σ) (J := mkI J ea q) hS hGM ho KM hbN hbl m1 m2
      rw [← hw] at fe
      have e64M : mkI J ea q 191 64 = nI b := by rw [rM]; exact o4
      simp (disch := first | assumption | omega) only [Option.bind_some, Option.map_some, xw_gR, xw_gN, xw_al, xw_ck, xw_uI, xw_ur, xup_at, xur_at, if_true, if_false, reduceIte, and_true, true_and, and_false, false_and, not_true_eq_false, not_false_eq_true, Nat.reduceEqDiff, eq_self, Nat.reduceAdd, Nat.reduceMul, kC1, kG1, kP1, kR1_0, kR1_1, kR1_2, kR1_3, kR1_4, kR1_5, kR1_6, kR1_7, kR1_8, kR1_9, kR1_10, kR1_11, kR1_12, kR1_13, kC2, kG2, kP2, kR2_0, kR2_1, kC3, kG3, kP3, kR3_0, kR3_1, kR3_2, kR3_3, kL4, kA4, kS4, kL5, kA5, kS5, kL6, kA6, kS6, kL7, kA7, kS7, kC8, kG8, kP8, kR8_0, kR8_1, kL9, kA9, kS9, kL10, kA10, kS10, kC11, kG11, kP11, kR11_0, kR11_1, kR11_2, kR11_3, kL12, kA12, kS12, kL13, kA13, kS13, kL14, kA14, kS14, kL15, kA15, kS15, kC16, kG16, kP16, kR16_0, kR16_1, kL17, kA17, kS17, kL18, kA18, kS18, kC19, kG19, kP19, kR19_0, kL20, kL141, kL146, kA146, kS146, kL151, kA151, kS151, kL156, kA156, kS156, kC157, kG157, kP157, kR157_0, kR157_1, kL158, kA158, kS158, kL159, kA159, kS159, kC161, kG161, kP161, kR161_0, kR161_1, kL162, kA162, kS162, kL163, kA163, kS163, kC165, kG165, kP165, kR165_0, kR165_1, kR165_2, kR165_3, kL166, kA166, kS166, kL167, kA167, kS167, kL168, kA168, kS168, kL169, kA169, kS169, kC170, kG170, kP170, kR170_0, kR170_1, kR170_2, kL171, kA171, kS171, kL172, kA172, kS172, kL173, kA173, kS173, kC174, kG174, kP174, kR174_0, kR174_1, kR174_2, kR174_3, kR174_4, kL175, kA175, kS175, kL176, kA176, kS176, kL177, kA177, kS177, kL178, kA178, kS178, kL179, kC180, kG180, kP180, kL181, kL182, kA182, kS182, kC183, kG183, kP183, kR183_1, kR183_3, kR183_5, kR183_6, kR183_7, kR183_8, kR183_9, kR183_21, kR183_26, kR183_27, kR183_30, kR183_31, kR183_33, kR183_34, kR183_36, kR183_37, kR183_38, kR183_39, kR183_40, kR183_41, kR183_42, kR183_43, kR183_44, kL184, kA184, kS184, kL185, kA185, kS185, kL186, kA186, kS186, kL187, kA187, kS187, kL188, kA188, kS188, kL189, kL190, kL191, kA191, kS191, kL192, kA192, kS192, kL193, kA193, kS193, kL194, kA194, kS194, kL195, kA195, kS195, kL196, kA196, kS196, kL197, kA197, kS197, kL198, kA198, kS198, kL199, kA199, kS199, kL200, kA200, kS200, kL201, kL202, kA202, kS202, kL203, kA203, kS203, kL204, kA204, kS204, kL205, kL206, kA206, kS206, sites_ok hS hG2, hn0, e2, show (64 : Int32) = nI 64 from rfl, e64, ft, hMn, mk1, e64M, fe]
    · have hwb : w < 2 ^ gSz g := by have := (gSt_pos hfl.1).2; exact this
      have row : ∀ k, xI (xw σ B) 191 k = F k := fun k => by rw [xw_I, rB]
      refine INV_i (HB.hand (σ := xw σ B) hq hnx hea p3B ?_ (I2 := J) ?_ ?_ (Nat.le_refl _) (Nat.le_succ_of_le H.stn) (fun _ _ => rfl) (fun _ _ => rfl) ?_ ?_ ?_)
      · intro i hi
        exact LV_m (I := xI σ) hg (fun k _ _ => bk1 _ k (by omega) (by omega) (by omega)) (fun k _ => bk1 _ k (by omega) (by omega) (by omega)) (fun k _ => bk1 _ k (by omega) (by omega) (by omega)) (fun k _ => bk1 193 _ (by omega) (by omega) (by omega)) (Nat.le_refl _) (fun _ _ => rfl) (fun _ _ => rfl) (p8 i hi)
      · intro a k h
        exact hJ a k (by omega)
      · intro a k h; rw [xup_at, if_neg (by omega)]
      · rw [xup_at, if_neg (by omega), um _ _ (by omega) (by omega), hJ _ _ (by omega), kpI_out (by omega) (by omega), uB _ _ (by omega), u1 _ _ (by omega)]; exact H.sts
      · have j16 : ∀ a k, 16 ≤ a → a ≤ 18 → ¬ (a = 16 ∧ k = 4) → J a k = xI σ a k := fun a k h1 h2 h3 => by
          rw [uJ a k (by omega) (by omega), ui2 a k h3 (by omega) (by omega), u1 _ _ (by omega)]
        refine LV_state (I := xI σ) hg (b := w) H.now ?_ ?_ ?_ ?_ ?_ hwb ?_
        · intro k hk; rw [xup_at, if_neg (by omega), um _ _ (by omega) (by omega), j16 16 k (by omega) (by omega) (by omega)]
        · rw [xup_at, if_neg (by omega), um _ _ (by omega) (by omega), uJ _ _ (by omega) (by omega), hI2, xup_at, if_pos ⟨rfl, rfl⟩]
        · intro a k h1 h2; rw [xup_at, if_neg (by omega), um _ _ (by omega) (by omega), j16 a k (by omega) (by omega) (by omega)]
        · intro k hk; rw [xup_at, if_neg (by omega), rM, hF]
        · rw [xup_at, if_pos ⟨rfl, rfl⟩]
        · intro i hi hne
          rw [← hF] at hne ⊢
          exact lW_iff.mp hfl.2 i hi hne
      · refine .inr ⟨?_, ?_⟩
        · rw [xup_at, if_neg (by omega), um _ _ (by omega) (by omega)]; exact k32
        · refine KNK_c (I := mkI J ea q) (F := F) hg (fun a k h => by rw [xup_at, if_neg (by omega)]) (fun k hk => ?_) KM
          rw [xup_at, if_neg (by omega), rM]
