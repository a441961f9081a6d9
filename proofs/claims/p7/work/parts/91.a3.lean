/-! the least state of a level, its fewest and most ups -/
theorem lvP_least {g : GD} {F : Nat → Int32} {k : Nat} (hp : lvP g F k = true) : ∃ s, s < gSt g ∧ lE g F ((k : Int) - 144) s = true ∧ ∀ s', s' < s → lE g F ((k : Int) - 144) s' = false := by
  unfold lvP lC at hp
  rw [decide_eq_true_eq, fb_ct_pos] at hp
  obtain ⟨s, h1, h2, h3⟩ := fb_first (p := fun s => lE g F ((k : Int) - 144) s = true) hp
  exact ⟨s, h1, h2, fun s' h => by
    cases q : lE g F ((k : Int) - 144) s' with
    | false => rfl
    | true => exact absurd q (h3 s' h)⟩
section UPS
variable {σ : XS} {J : Nat → Nat → Int32} {g : GD} {F : Nat → Int32}
theorem least12 (hS : Shp σ) (hg : g ∈ gAll) (ho : RO g F) (hK : KNK J g F) {k s : Nat} (hk : k < 289) (hs : s < gSt g) (h1 : lE g F ((k : Int) - 144) s = true) (h2 : ∀ s', s' < s → lE g F ((k : Int) - 144) s' = false) : f_X12_leastOf (xw σ J) 183 (iI ((k : Int) - 144)) = some (nI s) := by
  have hSt := (gSt_b hg).1
  unfold f_X12_leastOf
  refine xforE (fun j : Nat => nI j) s rfl (fun j hj => ?_) ?_
  · simp only [f_X12_leastOf_b2]
    have hv := hK.1 j (by omega)
    have hq := knE hg ho (e := (k : Int) - 144) (by omega) (by omega) j
    rw [h2 j hj] at hq
    simp (disch := first | assumption | omega) only [Option.bind_some, Option.map_some, xw_gR, xw_gN, xw_al, xw_ck, xw_uI, xw_ur, xup_at, xur_at, if_true, if_false, reduceIte, and_true, true_and, and_false, false_and, not_true_eq_false, not_false_eq_true, Nat.reduceEqDiff, eq_self, Nat.reduceAdd, Nat.reduceMul, kC1, kG1, kP1, kR1_0, kR1_1, kR1_2, kR1_3, kR1_4, kR1_5, kR1_6, kR1_7, kR1_8, kR1_9, kR1_10, kR1_11, kR1_12, kR1_13, kC2, kG2, kP2, kR2_0, kR2_1, kC3, kG3, kP3, kR3_0, kR3_1, kR3_2, kR3_3, kL4, kA4, kS4, kL5, kA5, kS5, kL6, kA6, kS6, kL7, kA7, kS7, kC8, kG8, kP8, kR8_0, kR8_1, kL9, kA9, kS9, kL10, kA10, kS10, kC11, kG11, kP11, kR11_0, kR11_1, kR11_2, kR11_3, kL12, kA12, kS12, kL13, kA13, kS13, kL14, kA14, kS14, kL15, kA15, kS15, kC16, kG16, kP16, kR16_0, kR16_1, kL17, kA17, kS17, kL18, kA18, kS18, kC19, kG19, kP19, kR19_0, kL20, kL141, kL146, kA146, kS146, kL151, kA151, kS151, kL156, kA156, kS156, kC157, kG157, kP157, kR157_0, kR157_1, kL158, kA158, kS158, kL159, kA159, kS159, kC161, kG161, kP161, kR161_0, kR161_1, kL162, kA162, kS162, kL163, kA163, kS163, kC165, kG165, kP165, kR165_0, kR165_1, kR165_2, kR165_3, kL166, kA166, kS166, kL167, kA167, kS167, kL168, kA168, kS168, kL169, kA169, kS169, kC170, kG170, kP170, kR170_0, kR170_1, kR170_2, kL171, kA171, kS171, kL172, kA172, kS172, kL173, kA173, kS173, kC174, kG174, kP174, kR174_0, kR174_1, kR174_2, kR174_3, kR174_4, kL175, kA175, kS175, kL176, kA176, kS176, kL177, kA177, kS177, kL178, kA178, kS178, kL179, kC180, kG180, kP180, kL181, kL182, kA182, kS182, kC183, kG183, kP183, kR183_1, kR183_3, kR183_5, kR183_6, kR183_7, kR183_8, kR183_9, kR183_21, kR183_26, kR183_27, kR183_30, kR183_31, kR183_33, kR183_34, kR183_36, kR183_37, kR183_38, kR183_39, kR183_40, kR183_41, kR183_42, kR183_43, kR183_44, kL184, kA184, kS184, kL185, kA185, kS185, kL186, kA186, kS186, kL187, kA187, kS187, kL188, kA188, kS188, kL189, kL190, kL191, kA191, kS191, kL192, kA192, kS192, kL193, kA193, kS193, kL194, kA194, kS194, kL195, kA195, kS195, kL196, kA196, kS196, kL197, kA197, kS197, kL198, kA198, kS198, kL199, kA199, kS199, kL200, kA200, kS200, kL201, kL202, kA202, kS202, kL203, kA203, kS203, kL204, kA204, kS204, kL205, kL206, kA206, kS206, hv, hq, Bool.false_eq_true]
    rw [nI_succ]
  · simp only [f_X12_leastOf_b2]
    have hv := hK.1 s hs
    have hq := knE hg ho (e := (k : Int) - 144) (by omega) (by omega) s
    rw [h1] at hq
    simp (disch := first | assumption | omega) only [Option.bind_some, Option.map_some, xw_gR, xw_gN, xw_al, xw_ck, xw_uI, xw_ur, xup_at, xur_at, if_true, if_false, reduceIte, and_true, true_and, and_false, false_and, not_true_eq_false, not_false_eq_true, Nat.reduceEqDiff, eq_self, Nat.reduceAdd, Nat.reduceMul, kC1, kG1, kP1, kR1_0, kR1_1, kR1_2, kR1_3, kR1_4, kR1_5, kR1_6, kR1_7, kR1_8, kR1_9, kR1_10, kR1_11, kR1_12, kR1_13, kC2, kG2, kP2, kR2_0, kR2_1, kC3, kG3, kP3, kR3_0, kR3_1, kR3_2, kR3_3, kL4, kA4, kS4, kL5, kA5, kS5, kL6, kA6, kS6, kL7, kA7, kS7, kC8, kG8, kP8, kR8_0, kR8_1, kL9, kA9, kS9, kL10, kA10, kS10, kC11, kG11, kP11, kR11_0, kR11_1, kR11_2, kR11_3, kL12, kA12, kS12, kL13, kA13, kS13, kL14, kA14, kS14, kL15, kA15, kS15, kC16, kG16, kP16, kR16_0, kR16_1, kL17, kA17, kS17, kL18, kA18, kS18, kC19, kG19, kP19, kR19_0, kL20, kL141, kL146, kA146, kS146, kL151, kA151, kS151, kL156, kA156, kS156, kC157, kG157, kP157, kR157_0, kR157_1, kL158, kA158, kS158, kL159, kA159, kS159, kC161, kG161, kP161, kR161_0, kR161_1, kL162, kA162, kS162, kL163, kA163, kS163, kC165, kG165, kP165, kR165_0, kR165_1, kR165_2, kR165_3, kL166, kA166, kS166, kL167, kA167, kS167, kL168, kA168, kS168, kL169, kA169, kS169, kC170, kG170, kP170, kR170_0, kR170_1, kR170_2, kL171, kA171, kS171, kL172, kA172, kS172, kL173, kA173, kS173, kC174, kG174, kP174, kR174_0, kR174_1, kR174_2, kR174_3, kR174_4, kL175, kA175, kS175, kL176, kA176, kS176, kL177, kA177, kS177, kL178, kA178, kS178, kL179, kC180, kG180, kP180, kL181, kL182, kA182, kS182, kC183, kG183, kP183, kR183_1, kR183_3, kR183_5, kR183_6, kR183_7, kR183_8, kR183_9, kR183_21, kR183_26, kR183_27, kR183_30, kR183_31, kR183_33, kR183_34, kR183_36, kR183_37, kR183_38, kR183_39, kR183_40, kR183_41, kR183_42, kR183_43, kR183_44, kL184, kA184, kS184, kL185, kA185, kS185, kL186, kA186, kS186, kL187, kA187, kS187, kL188, kA188, kS188, kL189, kL190, kL191, kA191, kS191, kL192, kA192, kS192, kL193, kA193, kS193, kL194, kA194, kS194, kL195, kA195, kS195, kL196, kA196, kS196, kL197, kA197, kS197, kL198, kA198, kS198, kL199, kA199, kS199, kL200, kA200, kS200, kL201, kL202, kA202, kS202, kL203, kA203, kS203, kL204, kA204, kS204, kL205, kL206, kA206, kS206, hv, hq]
theorem ups12 (hS : Shp σ) (hG : GRD J g) (ho : RO g F) (hK : KNK J g F) {k : Nat} (hk : k < 289) (hp : lvP g F k = true) (sg : Int) (hsg : sg = 1 ∨ sg = -1) : ∃ s0, s0 < gSt g ∧ lE g F ((k : Int) - 144) s0 = true ∧ (∀ s', s' < gSt g → lE g F ((k : Int) - 144) s' = true → sg * (pC s0 : Int) ≤ sg * (pC s' : Int)) ∧ f_X12_upsOf (xw σ J) 183 (iI ((k : Int) - 144)) (iI sg) = some (nI (pC s0)) := by
  have hg := hG.1
  have hSt := (gSt_b hg).1
  have key : ∃ r, xloop (f_X12_upsOf_b7 (xw σ J) 183 (iI ((k : Int) - 144)) (iI sg)) (iI 100000, nI 0) = some r ∧ ∃ B : Int, r = iI (sg * B) ∧ (∀ s', s' < gSt g → lE g F ((k : Int) - 144) s' = true → B ≤ sg * (pC s' : Int)) ∧ (B = 100000 ∨ ∃ s', s' < gSt g ∧ lE g F ((k : Int) - 144) s' = true ∧ B = sg * (pC s' : Int)) := by
    refine xforI (fun s x => ∃ B : Int, x = (iI B, nI s) ∧ (∀ s', s' < s → lE g F ((k : Int) - 144) s' = true → B ≤ sg * (pC s' : Int)) ∧ (B = 100000 ∨ ∃ s', s' < s ∧ lE g F ((k : Int) - 144) s' = true ∧ B = sg * (pC s' : Int))) (gSt g) ⟨100000, rfl, fun s' h => by omega, .inl rfl⟩ ?_ ?_
    · rintro s x hs ⟨B, rfl, b1, b2⟩
      have hv := hK.1 s hs
      have hq := knE hg ho (e := (k : Int) - 144) (by omega) (by omega) s
      have hpc := pC_16 s
      have hB : -16 ≤ B ∧ B ≤ 100000 := by
        rcases b2 with z | ⟨s', _, _, z⟩
        · omega
        · have := pC_16 s'
          rcases hsg with q | q <;> rw [q] at z <;> omega
      have hsp : -16 ≤ sg * (pC s : Int) ∧ sg * (pC s : Int) ≤ 16 := by
        rcases hsg with q | q <;> rw [q] <;> omega
      have hm : iI sg * nI (pC s) = iI (sg * (pC s : Int)) := by rw [iI_n, iI_mul]
      have hle : (iI B ≤ iI (sg * (pC s : Int))) = (B ≤ sg * (pC s : Int)) := iI_le (by omega) (by omega) (by omega) (by omega)
      simp only [f_X12_upsOf_b7]
      simp (disch := first | assumption | omega) only [Option.bind_some, Option.map_some, xw_gR, xw_gN, xw_al, xw_ck, xw_uI, xw_ur, xup_at, xur_at, if_true, if_false, reduceIte, and_true, true_and, and_false, false_and, not_true_eq_false, not_false_eq_true, Nat.reduceEqDiff, eq_self, Nat.reduceAdd, Nat.reduceMul, kC1, kG1, kP1, kR1_0, kR1_1, kR1_2, kR1_3, kR1_4, kR1_5, kR1_6, kR1_7, kR1_8, kR1_9, kR1_10, kR1_11, kR1_12, kR1_13, kC2, kG2, kP2, kR2_0, kR2_1, kC3, kG3, kP3, kR3_0, kR3_1, kR3_2, kR3_3, kL4, kA4, kS4, kL5, kA5, kS5, kL6, kA6, kS6, kL7, kA7, kS7, kC8, kG8, kP8, kR8_0, kR8_1, kL9, kA9, kS9, kL10, kA10, kS10, kC11, kG11, kP11, kR11_0, kR11_1, kR11_2, kR11_3, kL12, kA12, kS12, kL13, kA13, kS13, kL14, kA14, kS14, kL15, kA15, kS15, kC16, kG16, kP16, kR16_0, kR16_1, kL17, kA17, kS17, kL18, kA18, kS18, kC19, kG19, kP19, kR19_0, kL20, kL141, kL146, kA146, kS146, kL151, kA151, kS151, kL156, kA156, kS156, kC157, kG157, kP157, kR157_0, kR157_1, kL158, kA158, kS158, kL159, kA159, kS159, kC161, kG161, kP161, kR161_0, kR161_1, kL162, kA162, kS162, kL163, kA163, kS163, kC165, kG165, kP165, kR165_0, kR165_1, kR165_2, kR165_3, kL166, kA166, kS166, kL167, kA167, kS167, kL168, kA168, kS168, kL169, kA169, kS169, kC170, kG170, kP170, kR170_0, kR170_1, kR170_2, kL171, kA171, kS171, kL172, kA172, kS172, kL173, kA173, kS173, kC174, kG174, kP174, kR174_0, kR174_1, kR174_2, kR174_3, kR174_4, kL175, kA175, kS175, kL176, kA176, kS176, kL177, kA177, kS177, kL178, kA178, kS178, kL179, kC180, kG180, kP180, kL181, kL182, kA182, kS182, kC183, kG183, kP183, kR183_1, kR183_3, kR183_5, kR183_6, kR183_7, kR183_8, kR183_9, kR183_21, kR183_26, kR183_27, kR183_30, kR183_31, kR183_33, kR183_34, kR183_36, kR183_37, kR183_38, kR183_39, kR183_40, kR183_41, kR183_42, kR183_43, kR183_44, kL184, kA184, kS184, kL185, kA185, kS185, kL186, kA186, kS186, kL187, kA187, kS187, kL188, kA188, kS188, kL189, kL190, kL191, kA191, kS191, kL192, kA192, kS192, kL193, kA193, kS193, kL194, kA194, kS194, kL195, kA195, kS195, kL196, kA196, kS196, kL197, kA197, kS197, kL198, kA198, kS198, kL199, kA199, kS199, kL200, kA200, kS200, kL201, kL202, kA202, kS202, kL203, kA203, kS203, kL204, kA204, kS204, kL205, kL206, kA206, kS206, states12_ok hS hG, nn_le, show ¬ (gSt g ≤ s) by omega, hv, hq, bitsOf_ok (show s < 65536 by omega), hm, hle]
      rw [← nI_succ]
      cases hl : lE g F ((k : Int) - 144) s with
      | false =>
        rw [if_neg (by decide)]
        refine ⟨_, rfl, B, rfl, fun s' h1 h2 => ?_, ?_⟩
        · by_cases z : s' = s
          · rw [z, hl] at h2; cases h2
          · exact b1 s' (by omega) h2
        · rcases b2 with z | ⟨s', z1, z2⟩
          · exact .inl z
          · exact .inr ⟨s', by omega, z2⟩
      | true =>
        rw [if_pos rfl]
        by_cases hc : B ≤ sg * (pC s : Int)
        · rw [if_pos hc]
          refine ⟨_, rfl, B, rfl, fun s' h1 h2 => ?_, ?_⟩
          · by_cases z : s' = s
            · rw [z]; exact hc
            · exact b1 s' (by omega) h2
          · rcases b2 with z | ⟨s', z1, z2⟩
            · exact .inl z
            · exact .inr ⟨s', by omega, z2⟩
        · rw [if_neg hc]
          refine ⟨_, rfl, sg * (pC s : Int), rfl, fun s' h1 h2 => ?_, .inr ⟨s, by omega, hl, rfl⟩⟩
          by_cases z : s' = s
          · rw [z]; exact Int.le_refl _
          · have := b1 s' (by omega) h2
            omega
    · rintro x ⟨B, rfl, b1, b2⟩
      refine ⟨iI (sg * B), ?_, B, rfl, b1, b2⟩
      simp only [f_X12_upsOf_b7]
      simp (disch := first | assumption | omega) only [Option.bind_some, Option.map_some, xw_gR, xw_gN, xw_al, xw_ck, xw_uI, xw_ur, xup_at, xur_at, if_true, if_false, reduceIte, and_true, true_and, and_false, false_and, not_true_eq_false, not_false_eq_true, Nat.reduceEqDiff, eq_self, Nat.reduceAdd, Nat.reduceMul, kC1, kG1, kP1, kR1_0, kR1_1, kR1_2, kR1_3, kR1_4, kR1_5, kR1_6, kR1_7, kR1_8, kR1_9, kR1_10, kR1_11, kR1_12, kR1_13, kC2, kG2, kP2, kR2_0, kR2_1, kC3, kG3, kP3, kR3_0, kR3_1, kR3_2, kR3_3, kL4, kA4, kS4, kL5, kA5, kS5, kL6, kA6, kS6, kL7, kA7, kS7, kC8, kG8, kP8, kR8_0, kR8_1, kL9, kA9, kS9, kL10, kA10, kS10, kC11, kG11, kP11, kR11_0, kR11_1, kR11_2, kR11_3, kL12, kA12, kS12, kL13, kA13, kS13, kL14, kA14, kS14, kL15, kA15, kS15, kC16, kG16, kP16, kR16_0, kR16_1, kL17, kA17, kS17, kL18, kA18, kS18, kC19, kG19, kP19, kR19_0, kL20, kL141, kL146, kA146, kS146, kL151, kA151, kS151, kL156, kA156, kS156, kC157, kG157, kP157, kR157_0, kR157_1, kL158, kA158, kS158, kL159, kA159, kS159, kC161, kG161, kP161, kR161_0, kR161_1, kL162, kA162, kS162, kL163, kA163, kS163, kC165, kG165, kP165, kR165_0, kR165_1, kR165_2, kR165_3, kL166, kA166, kS166, kL167, kA167, kS167, kL168, kA168, kS168, kL169, kA169, kS169, kC170, kG170, kP170, kR170_0, kR170_1, kR170_2, kL171, kA171, kS171, kL172, kA172, kS172, kL173, kA173, kS173, kC174, kG174, kP174, kR174_0, kR174_1, kR174_2, kR174_3, kR174_4, kL175, kA175, kS175, kL176, kA176, kS176, kL177, kA177, kS177, kL178, kA178, kS178, kL179, kC180, kG180, kP180, kL181, kL182, kA182, kS182, kC183, kG183, kP183, kR183_1, kR183_3, kR183_5, kR183_6, kR183_7, kR183_8, kR183_9, kR183_21, kR183_26, kR183_27, kR183_30, kR183_31, kR183_33, kR183_34, kR183_36, kR183_37, kR183_38, kR183_39, kR183_40, kR183_41, kR183_42, kR183_43, kR183_44, kL184, kA184, kS184, kL185, kA185, kS185, kL186, kA186, kS186, kL187, kA187, kS187, kL188, kA188, kS188, kL189, kL190, kL191, kA191, kS191, kL192, kA192, kS192, kL193, kA193, kS193, kL194, kA194, kS194, kL195, kA195, kS195, kL196, kA196, kS196, kL197, kA197, kS197, kL198, kA198, kS198, kL199, kA199, kS199, kL200, kA200, kS200, kL201, kL202, kA202, kS202, kL203, kA203, kS203, kL204, kA204, kS204, kL205, kL206, kA206, kS206, states12_ok hS hG, nn_le, Nat.le_refl, iI_mul]
  obtain ⟨r, e1, B, rfl, b1, b2⟩ := key
  obtain ⟨s1, h1, h2, -⟩ := lvP_least hp
  have hb := b1 s1 h1 h2
  have := pC_16 s1
  rcases b2 with z | ⟨s0, z1, z2, z3⟩
  · exfalso
    rcases hsg with q | q <;> rw [q, z] at hb <;> omega
  · refine ⟨s0, z1, z2, fun s' h1 h2 => ?_, ?_⟩
    · rw [← z3]; exact b1 s' h1 h2
    · show xloop (f_X12_upsOf_b7 (xw σ J) 183 (iI ((k : Int) - 144)) (iI sg)) (iI 100000, nI 0) = _
      rw [e1, z3, iI_n]
      congr 2
      rcases hsg with q | q <;> rw [q] <;> omega
theorem lU_pos {e : Int} {u : Nat} : 0 < lU g F e u ↔ ∃ s, s < gSt g ∧ lE g F e s = true ∧ pC s = u := by
  unfold lU
  rw [fb_ct_pos]
  constructor
  · rintro ⟨s, h1, h2⟩
    simp only [Bool.and_eq_true, decide_eq_true_eq] at h2
    exact ⟨s, h1, h2⟩
  · rintro ⟨s, h1, h2, h3⟩
    refine ⟨s, h1, ?_⟩
    simp [h2, h3]
theorem fewest_ok (hS : Shp σ) (hg : g ∈ gAll) (hL : LVK J g F) {k s0 : Nat} (hk : k < 289) (h0 : s0 < gSt g) (h1 : lE g F ((k : Int) - 144) s0 = true) (h2 : ∀ s', s' < gSt g → lE g F ((k : Int) - 144) s' = true → (1 : Int) * (pC s0 : Int) ≤ 1 * (pC s' : Int)) : f_X4_fewestUps (xw σ J) 165 (iI ((k : Int) - 144)) = some (nI (pC s0)) := by
  have hpc := pC_16 s0
  unfold f_X4_fewestUps
  refine xforE (fun j : Nat => nI j) (pC s0) rfl (fun u hu => ?_) ?_
  · simp only [f_X4_fewestUps_b2]
    rw [if_neg (by rw [show (17 : Int32) = nI 17 from rfl, nn_le (by omega) (by omega)]; omega)]
    have hz : lU g F ((k : Int) - 144) u = 0 := by
      rcases Nat.eq_zero_or_pos (lU g F ((k : Int) - 144) u) with z | z
      · exact z
      · obtain ⟨s', q1, q2, q3⟩ := lU_pos.mp z
        have := h2 s' q1 q2
        omega
    simp (disch := first | assumption | omega) only [Option.bind_some, Option.map_some, xw_gR, xw_gN, xw_al, xw_ck, xw_uI, xw_ur, xup_at, xur_at, if_true, if_false, reduceIte, and_true, true_and, and_false, false_and, not_true_eq_false, not_false_eq_true, Nat.reduceEqDiff, eq_self, Nat.reduceAdd, Nat.reduceMul, kC1, kG1, kP1, kR1_0, kR1_1, kR1_2, kR1_3, kR1_4, kR1_5, kR1_6, kR1_7, kR1_8, kR1_9, kR1_10, kR1_11, kR1_12, kR1_13, kC2, kG2, kP2, kR2_0, kR2_1, kC3, kG3, kP3, kR3_0, kR3_1, kR3_2, kR3_3, kL4, kA4, kS4, kL5, kA5, kS5, kL6, kA6, kS6, kL7, kA7, kS7, kC8, kG8, kP8, kR8_0, kR8_1, kL9, kA9, kS9, kL10, kA10, kS10, kC11, kG11, kP11, kR11_0, kR11_1, kR11_2, kR11_3, kL12, kA12, kS12, kL13, kA13, kS13, kL14, kA14, kS14, kL15, kA15, kS15, kC16, kG16, kP16, kR16_0, kR16_1, kL17, kA17, kS17, kL18, kA18, kS18, kC19, kG19, kP19, kR19_0, kL20, kL141, kL146, kA146, kS146, kL151, kA151, kS151, kL156, kA156, kS156, kC157, kG157, kP157, kR157_0, kR157_1, kL158, kA158, kS158, kL159, kA159, kS159, kC161, kG161, kP161, kR161_0, kR161_1, kL162, kA162, kS162, kL163, kA163, kS163, kC165, kG165, kP165, kR165_0, kR165_1, kR165_2, kR165_3, kL166, kA166, kS166, kL167, kA167, kS167, kL168, kA168, kS168, kL169, kA169, kS169, kC170, kG170, kP170, kR170_0, kR170_1, kR170_2, kL171, kA171, kS171, kL172, kA172, kS172, kL173, kA173, kS173, kC174, kG174, kP174, kR174_0, kR174_1, kR174_2, kR174_3, kR174_4, kL175, kA175, kS175, kL176, kA176, kS176, kL177, kA177, kS177, kL178, kA178, kS178, kL179, kC180, kG180, kP180, kL181, kL182, kA182, kS182, kC183, kG183, kP183, kR183_1, kR183_3, kR183_5, kR183_6, kR183_7, kR183_8, kR183_9, kR183_21, kR183_26, kR183_27, kR183_30, kR183_31, kR183_33, kR183_34, kR183_36, kR183_37, kR183_38, kR183_39, kR183_40, kR183_41, kR183_42, kR183_43, kR183_44, kL184, kA184, kS184, kL185, kA185, kS185, kL186, kA186, kS186, kL187, kA187, kS187, kL188, kA188, kS188, kL189, kL190, kL191, kA191, kS191, kL192, kA192, kS192, kL193, kA193, kS193, kL194, kA194, kS194, kL195, kA195, kS195, kL196, kA196, kS196, kL197, kA197, kS197, kL198, kA198, kS198, kL199, kA199, kS199, kL200, kA200, kS200, kL201, kL202, kA202, kS202, kL203, kA203, kS203, kL204, kA204, kS204, kL205, kL206, kA206, kS206, withUps_ok hS hL hk (show u < 17 by omega), hz, show (nI 0 ≤ 0) = True from eq_true (by decide)]
    rw [nI_succ]
  · simp only [f_X4_fewestUps_b2]
    rw [if_neg (by rw [show (17 : Int32) = nI 17 from rfl, nn_le (by omega) (by omega)]; omega)]
    have hz : 0 < lU g F ((k : Int) - 144) (pC s0) := lU_pos.mpr ⟨s0, h0, h1, rfl⟩
    have hb := lU_b hg F ((k : Int) - 144) (pC s0)
    simp (disch := first | assumption | omega) only [Option.bind_some, Option.map_some, xw_gR, xw_gN, xw_al, xw_ck, xw_uI, xw_ur, xup_at, xur_at, if_true, if_false, reduceIte, and_true, true_and, and_false, false_and, not_true_eq_false, not_false_eq_true, Nat.reduceEqDiff, eq_self, Nat.reduceAdd, Nat.reduceMul, kC1, kG1, kP1, kR1_0, kR1_1, kR1_2, kR1_3, kR1_4, kR1_5, kR1_6, kR1_7, kR1_8, kR1_9, kR1_10, kR1_11, kR1_12, kR1_13, kC2, kG2, kP2, kR2_0, kR2_1, kC3, kG3, kP3, kR3_0, kR3_1, kR3_2, kR3_3, kL4, kA4, kS4, kL5, kA5, kS5, kL6, kA6, kS6, kL7, kA7, kS7, kC8, kG8, kP8, kR8_0, kR8_1, kL9, kA9, kS9, kL10, kA10, kS10, kC11, kG11, kP11, kR11_0, kR11_1, kR11_2, kR11_3, kL12, kA12, kS12, kL13, kA13, kS13, kL14, kA14, kS14, kL15, kA15, kS15, kC16, kG16, kP16, kR16_0, kR16_1, kL17, kA17, kS17, kL18, kA18, kS18, kC19, kG19, kP19, kR19_0, kL20, kL141, kL146, kA146, kS146, kL151, kA151, kS151, kL156, kA156, kS156, kC157, kG157, kP157, kR157_0, kR157_1, kL158, kA158, kS158, kL159, kA159, kS159, kC161, kG161, kP161, kR161_0, kR161_1, kL162, kA162, kS162, kL163, kA163, kS163, kC165, kG165, kP165, kR165_0, kR165_1, kR165_2, kR165_3, kL166, kA166, kS166, kL167, kA167, kS167, kL168, kA168, kS168, kL169, kA169, kS169, kC170, kG170, kP170, kR170_0, kR170_1, kR170_2, kL171, kA171, kS171, kL172, kA172, kS172, kL173, kA173, kS173, kC174, kG174, kP174, kR174_0, kR174_1, kR174_2, kR174_3, kR174_4, kL175, kA175, kS175, kL176, kA176, kS176, kL177, kA177, kS177, kL178, kA178, kS178, kL179, kC180, kG180, kP180, kL181, kL182, kA182, kS182, kC183, kG183, kP183, kR183_1, kR183_3, kR183_5, kR183_6, kR183_7, kR183_8, kR183_9, kR183_21, kR183_26, kR183_27, kR183_30, kR183_31, kR183_33, kR183_34, kR183_36, kR183_37, kR183_38, kR183_39, kR183_40, kR183_41, kR183_42, kR183_43, kR183_44, kL184, kA184, kS184, kL185, kA185, kS185, kL186, kA186, kS186, kL187, kA187, kS187, kL188, kA188, kS188, kL189, kL190, kL191, kA191, kS191, kL192, kA192, kS192, kL193, kA193, kS193, kL194, kA194, kS194, kL195, kA195, kS195, kL196, kA196, kS196, kL197, kA197, kS197, kL198, kA198, kS198, kL199, kA199, kS199, kL200, kA200, kS200, kL201, kL202, kA202, kS202, kL203, kA203, kS203, kL204, kA204, kS204, kL205, kL206, kA206, kS206, withUps_ok hS hL hk (show pC s0 < 17 by omega)]
    rw [if_neg (nI_nle hz (by omega))]
theorem most_ok (hS : Shp σ) (hg : g ∈ gAll) (hL : LVK J g F) {k s0 : Nat} (hk : k < 289) (h0 : s0 < gSt g) (h1 : lE g F ((k : Int) - 144) s0 = true) (h2 : ∀ s', s' < gSt g → lE g F ((k : Int) - 144) s' = true → (-1 : Int) * (pC s0 : Int) ≤ -1 * (pC s' : Int)) : f_X4_mostUps (xw σ J) 165 (iI ((k : Int) - 144)) = some (nI (pC s0)) := by
  have hpc := pC_16 s0
  unfold f_X4_mostUps
  refine xforE (fun j : Nat => nI (16 - j)) (16 - pC s0) rfl (fun u hu => ?_) ?_
  · simp only [f_X4_mostUps_b3]
    rw [if_neg (nI_pos (by omega))]
    have hz : lU g F ((k : Int) - 144) (16 - u) = 0 := by
      rcases Nat.eq_zero_or_pos (lU g F ((k : Int) - 144) (16 - u)) with z | z
      · exact z
      · obtain ⟨s', q1, q2, q3⟩ := lU_pos.mp z
        have := h2 s' q1 q2
        omega
    simp (disch := first | assumption | omega) only [Option.bind_some, Option.map_some, xw_gR, xw_gN, xw_al, xw_ck, xw_uI, xw_ur, xup_at, xur_at, if_true, if_false, reduceIte, and_true, true_and, and_false, false_and, not_true_eq_false, not_false_eq_true, Nat.reduceEqDiff, eq_self, Nat.reduceAdd, Nat.reduceMul, kC1, kG1, kP1, kR1_0, kR1_1, kR1_2, kR1_3, kR1_4, kR1_5, kR1_6, kR1_7, kR1_8, kR1_9, kR1_10, kR1_11, kR1_12, kR1_13, kC2, kG2, kP2, kR2_0, kR2_1, kC3, kG3, kP3, kR3_0, kR3_1, kR3_2, kR3_3, kL4, kA4, kS4, kL5, kA5, kS5, kL6, kA6, kS6, kL7, kA7, kS7, kC8, kG8, kP8, kR8_0, kR8_1, kL9, kA9, kS9, kL10, kA10, kS10, kC11, kG11, kP11, kR11_0, kR11_1, kR11_2, kR11_3, kL12, kA12, kS12, kL13, kA13, kS13, kL14, kA14, kS14, kL15, kA15, kS15, kC16, kG16, kP16, kR16_0, kR16_1, kL17, kA17, kS17, kL18, kA18, kS18, kC19, kG19, kP19, kR19_0, kL20, kL141, kL146, kA146, kS146, kL151, kA151, kS151, kL156, kA156, kS156, kC157, kG157, kP157, kR157_0, kR157_1, kL158, kA158, kS158, kL159, kA159, kS159, kC161, kG161, kP161, kR161_0, kR161_1, kL162, kA162, kS162, kL163, kA163, kS163, kC165, kG165, kP165, kR165_0, kR165_1, kR165_2, kR165_3, kL166, kA166, kS166, kL167, kA167, kS167, kL168, kA168, kS168, kL169, kA169, kS169, kC170, kG170, kP170, kR170_0, kR170_1, kR170_2, kL171, kA171, kS171, kL172, kA172, kS172, kL173, kA173, kS173, kC174, kG174, kP174, kR174_0, kR174_1, kR174_2, kR174_3, kR174_4, kL175, kA175, kS175, kL176, kA176, kS176, kL177, kA177, kS177, kL178, kA178, kS178, kL179, kC180, kG180, kP180, kL181, kL182, kA182, kS182, kC183, kG183, kP183, kR183_1, kR183_3, kR183_5, kR183_6, kR183_7, kR183_8, kR183_9, kR183_21, kR183_26, kR183_27, kR183_30, kR183_31, kR183_33, kR183_34, kR183_36, kR183_37, kR183_38, kR183_39, kR183_40, kR183_41, kR183_42, kR183_43, kR183_44, kL184, kA184, kS184, kL185, kA185, kS185, kL186, kA186, kS186, kL187, kA187, kS187, kL188, kA188, kS188, kL189, kL190, kL191, kA191, kS191, kL192, kA192, kS192, kL193, kA193, kS193, kL194, kA194, kS194, kL195, kA195, kS195, kL196, kA196, kS196, kL197, kA197, kS197, kL198, kA198, kS198, kL199, kA199, kS199, kL200, kA200, kS200, kL201, kL202, kA202, kS202, kL203, kA203, kS203, kL204, kA204, kS204, kL205, kL206, kA206, kS206, withUps_ok hS hL hk (show 16 - u < 17 by omega), hz, show (nI 0 ≤ 0) = True from eq_true (by decide)]
    have e : nI (16 - u) + (-1 : Int32) = nI (16 - (u + 1)) := by
      rw [iI_n, iI_n, show (-1 : Int32) = iI (-1) from rfl, iI_add]
      congr 1; omega
    rw [e]
  · simp only [f_X4_mostUps_b3]
    rw [show 16 - (16 - pC s0) = pC s0 by omega, if_neg (nI_pos (by omega))]
    have hz : 0 < lU g F ((k : Int) - 144) (pC s0) := lU_pos.mpr ⟨s0, h0, h1, rfl⟩
    have hb := lU_b hg F ((k : Int) - 144) (pC s0)
    simp (disch := first | assumption | omega) only [Option.bind_some, Option.map_some, xw_gR, xw_gN, xw_al, xw_ck, xw_uI, xw_ur, xup_at, xur_at, if_true, if_false, reduceIte, and_true, true_and, and_false, false_and, not_true_eq_false, not_false_eq_true, Nat.reduceEqDiff, eq_self, Nat.reduceAdd, Nat.reduceMul, kC1, kG1, kP1, kR1_0, kR1_1, kR1_2, kR1_3, kR1_4, kR1_5, kR1_6, kR1_7, kR1_8, kR1_9, kR1_10, kR1_11, kR1_12, kR1_13, kC2, kG2, kP2, kR2_0, kR2_1, kC3, kG3, kP3, kR3_0, kR3_1, kR3_2, kR3_3, kL4, kA4, kS4, kL5, kA5, kS5, kL6, kA6, kS6, kL7, kA7, kS7, kC8, kG8, kP8, kR8_0, kR8_1, kL9, kA9, kS9, kL10, kA10, kS10, kC11, kG11, kP11, kR11_0, kR11_1, kR11_2, kR11_3, kL12, kA12, kS12, kL13, kA13, kS13, kL14, kA14, kS14, kL15, kA15, kS15, kC16, kG16, kP16, kR16_0, kR16_1, kL17, kA17, kS17, kL18, kA18, kS18, kC19, kG19, kP19, kR19_0, kL20, kL141, kL146, kA146, kS146, kL151, kA151, kS151, kL156, kA156, kS156, kC157, kG157, kP157, kR157_0, kR157_1, kL158, kA158, kS158, kL159, kA159, kS159, kC161, kG161, kP161, kR161_0, kR161_1, kL162, kA162, kS162, kL163, kA163, kS163, kC165, kG165, kP165, kR165_0, kR165_1, kR165_2, kR165_3, kL166, kA166, kS166, kL167, kA167, kS167, kL168, kA168, kS168, kL169, kA169, kS169, kC170, kG170, kP170, kR170_0, kR170_1, kR170_2, kL171, kA171, kS171, kL172, kA172, kS172, kL173, kA173, kS173, kC174, kG174, kP174, kR174_0, kR174_1, kR174_2, kR174_3, kR174_4, kL175, kA175, kS175, kL176, kA176, kS176, kL177, kA177, kS177, kL178, kA178, kS178, kL179, kC180, kG180, kP180, kL181, kL182, kA182, kS182, kC183, kG183, kP183, kR183_1, kR183_3, kR183_5, kR183_6, kR183_7, kR183_8, kR183_9, kR183_21, kR183_26, kR183_27, kR183_30, kR183_31, kR183_33, kR183_34, kR183_36, kR183_37, kR183_38, kR183_39, kR183_40, kR183_41, kR183_42, kR183_43, kR183_44, kL184, kA184, kS184, kL185, kA185, kS185, kL186, kA186, kS186, kL187, kA187, kS187, kL188, kA188, kS188, kL189, kL190, kL191, kA191, kS191, kL192, kA192, kS192, kL193, kA193, kS193, kL194, kA194, kS194, kL195, kA195, kS195, kL196, kA196, kS196, kL197, kA197, kS197, kL198, kA198, kS198, kL199, kA199, kS199, kL200, kA200, kS200, kL201, kL202, kA202, kS202, kL203, kA203, kS203, kL204, kA204, kS204, kL205, kL206, kA206, kS206, withUps_ok hS hL hk (show pC s0 < 17 by omega)]
    rw [if_neg (nI_nle hz (by omega))]
end UPS
