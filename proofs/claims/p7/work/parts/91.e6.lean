/-! the class finds a token -/
theorem xup2 {I : Nat → Nat → Int32} {a j : Nat} {v v' : Int32} : xup (xup I a j v) a j v' = xup I a j v' := by
  funext c k
  simp only [xup_at]
  by_cases z : c = a ∧ k = j
  · rw [if_pos z, if_pos z]
  · rw [if_neg z, if_neg z, if_neg z]
theorem bl8_ok (x : Int32) : f_X8_isBlank x = some (if isBl x then 1 else 0) := by
  unfold f_X8_isBlank isBl
  by_cases h1 : x = 9
  · simp [h1]
  · by_cases h2 : x = 10
    · simp [h2]
    · by_cases h3 : x = 13
      · simp [h3]
      · by_cases h4 : x = 32
        · simp [h4]
        · simp [h1, h2, h3, h4]
theorem lt8_ok (x : Int32) : f_X8_isLetter x = some (if isLt x then 1 else 0) := by
  unfold f_X8_isLetter isLt
  by_cases h1 : x < 97
  · simp [h1]
  · by_cases h2 : 122 < x
    · simp [h1, h2]
    · simp [h1, h2]
theorem dg8_ok (x : Int32) : f_X8_isDigit x = some (if isDg x then 1 else 0) := by
  unfold f_X8_isDigit isDg
  by_cases h1 : x < 48
  · simp [h1]
  · by_cases h2 : 57 < x
    · simp [h1, h2]
    · simp [h1, h2]
theorem b10 (a : Bool) : ((if a = true then (1 : Int32) else 0) = 0) = (a = false) := by cases a <;> decide
section FIND
variable {σ : XS} {J : Nat → Nat → Int32} {m : Nat}
theorem byte8_ok (hS : Shp σ) (hm : m ≤ 2000) (h4 : J 3 4 = nI m) {k : Nat} (hk : k < m) : f_X8_byteAt (xw σ J) 3 (nI k) = some (J 4 k) := by
  unfold f_X8_byteAt
  have q1 : (nI m ≤ nI k) = False := by rw [nn_le (by omega) (by omega)]; exact eq_false (by omega)
  have q2 : (nI 2000 ≤ nI k) = False := by rw [nn_le (by omega) (by omega)]; exact eq_false (by omega)
  have k20 : k < 2000 := by omega
  rw [if_neg (nI_pos (by omega))]
  simp (disch := first | assumption | omega) only [Option.bind_some, Option.map_some, xw_gR, xw_gN, xw_al, xw_ck, xw_uI, xw_ur, xup_at, xur_at, if_true, if_false, reduceIte, and_true, true_and, and_false, false_and, not_true_eq_false, not_false_eq_true, Nat.reduceEqDiff, eq_self, Nat.reduceAdd, Nat.reduceMul, kC1, kG1, kP1, kR1_0, kR1_1, kR1_2, kR1_3, kR1_4, kR1_5, kR1_6, kR1_7, kR1_8, kR1_9, kR1_10, kR1_11, kR1_12, kR1_13, kC2, kG2, kP2, kR2_0, kR2_1, kC3, kG3, kP3, kR3_0, kR3_1, kR3_2, kR3_3, kL4, kA4, kS4, kL5, kA5, kS5, kL6, kA6, kS6, kL7, kA7, kS7, kC8, kG8, kP8, kR8_0, kR8_1, kL9, kA9, kS9, kL10, kA10, kS10, kC11, kG11, kP11, kR11_0, kR11_1, kR11_2, kR11_3, kL12, kA12, kS12, kL13, kA13, kS13, kL14, kA14, kS14, kL15, kA15, kS15, kC16, kG16, kP16, kR16_0, kR16_1, kL17, kA17, kS17, kL18, kA18, kS18, kC19, kG19, kP19, kR19_0, kL20, kL141, kL146, kA146, kS146, kL151, kA151, kS151, kL156, kA156, kS156, kC157, kG157, kP157, kR157_0, kR157_1, kL158, kA158, kS158, kL159, kA159, kS159, kC161, kG161, kP161, kR161_0, kR161_1, kL162, kA162, kS162, kL163, kA163, kS163, kC165, kG165, kP165, kR165_0, kR165_1, kR165_2, kR165_3, kL166, kA166, kS166, kL167, kA167, kS167, kL168, kA168, kS168, kL169, kA169, kS169, kC170, kG170, kP170, kR170_0, kR170_1, kR170_2, kL171, kA171, kS171, kL172, kA172, kS172, kL173, kA173, kS173, kC174, kG174, kP174, kR174_0, kR174_1, kR174_2, kR174_3, kR174_4, kL175, kA175, kS175, kL176, kA176, kS176, kL177, kA177, kS177, kL178, kA178, kS178, kL179, kC180, kG180, kP180, kL181, kL182, kA182, kS182, kC183, kG183, kP183, kR183_1, kR183_3, kR183_5, kR183_6, kR183_7, kR183_8, kR183_9, kR183_21, kR183_26, kR183_27, kR183_30, kR183_31, kR183_33, kR183_34, kR183_36, kR183_37, kR183_38, kR183_39, kR183_40, kR183_41, kR183_42, kR183_43, kR183_44, kL184, kA184, kS184, kL185, kA185, kS185, kL186, kA186, kS186, kL187, kA187, kS187, kL188, kA188, kS188, kL189, kL190, kL191, kA191, kS191, kL192, kA192, kS192, kL193, kA193, kS193, kL194, kA194, kS194, kL195, kA195, kS195, kL196, kA196, kS196, kL197, kA197, kS197, kL198, kA198, kS198, kL199, kA199, kS199, kL200, kA200, kS200, kL201, kL202, kA202, kS202, kL203, kA203, kS203, kL204, kA204, kS204, kL205, kL206, kA206, kS206, h4, q1, q2]
theorem skipL_ok (hS : Shp σ) (hm : m ≤ 2000) (h4 : J 3 4 = nI m) {p : Nat} (hp : p ≤ m) (h9 : J 3 9 = nI p) : f_X8_skipLetters (xw σ J) 3 = some (xw σ (xup J 3 9 (nI (nxP isLt (J 4) m p)))) := by
  have hge := nxP_ge (q := isLt) (b := J 4) (m := m) (p := p)
  have hle := nxP_le (q := isLt) (b := J 4) hp
  unfold f_X8_skipLetters
  have e0 : xup J 3 9 (nI p) = J := by
    funext c k
    rw [xup_at]
    by_cases z : c = 3 ∧ k = 9
    · rw [if_pos z, z.1, z.2]; exact h9.symm
    · rw [if_neg z]
  have ends : nI (p + (nxP isLt (J 4) m p - p)) = nI (nxP isLt (J 4) m p) := by congr 1; omega
  refine xforE (fun i : Nat => xw σ (xup J 3 9 (nI (p + i)))) (nxP isLt (J 4) m p - p) ?_ (fun i hi => ?_) ?_
  · show xw σ J = xw σ (xup J 3 9 (nI (p + 0)))
    rw [Nat.add_zero, e0]
  · have hb := byte8_ok (σ := σ) (J := xup J 3 9 (nI (p + i))) hS hm (by rw [xup_at, if_neg (by omega)]; exact h4) (show p + i < m by omega)
    have hr : xup J 3 9 (nI (p + i)) 4 (p + i) = J 4 (p + i) := by rw [xup_at, if_neg (by omega)]
    have hl : isLt (J 4 (p + i)) = true := nxP_in (q := isLt) (b := J 4) (m := m) (p := p) (by omega) (by omega)
    rw [hr] at hb
    have q1 : (nI m ≤ nI (p + i)) = False := by rw [nn_le (by omega) (by omega)]; exact eq_false (by omega)
    simp only [f_X8_skipLetters_b0]
    simp (disch := first | assumption | omega) only [Option.bind_some, Option.map_some, xw_gR, xw_gN, xw_al, xw_ck, xw_uI, xw_ur, xup_at, xur_at, if_true, if_false, reduceIte, and_true, true_and, and_false, false_and, not_true_eq_false, not_false_eq_true, Nat.reduceEqDiff, eq_self, Nat.reduceAdd, Nat.reduceMul, kC1, kG1, kP1, kR1_0, kR1_1, kR1_2, kR1_3, kR1_4, kR1_5, kR1_6, kR1_7, kR1_8, kR1_9, kR1_10, kR1_11, kR1_12, kR1_13, kC2, kG2, kP2, kR2_0, kR2_1, kC3, kG3, kP3, kR3_0, kR3_1, kR3_2, kR3_3, kL4, kA4, kS4, kL5, kA5, kS5, kL6, kA6, kS6, kL7, kA7, kS7, kC8, kG8, kP8, kR8_0, kR8_1, kL9, kA9, kS9, kL10, kA10, kS10, kC11, kG11, kP11, kR11_0, kR11_1, kR11_2, kR11_3, kL12, kA12, kS12, kL13, kA13, kS13, kL14, kA14, kS14, kL15, kA15, kS15, kC16, kG16, kP16, kR16_0, kR16_1, kL17, kA17, kS17, kL18, kA18, kS18, kC19, kG19, kP19, kR19_0, kL20, kL141, kL146, kA146, kS146, kL151, kA151, kS151, kL156, kA156, kS156, kC157, kG157, kP157, kR157_0, kR157_1, kL158, kA158, kS158, kL159, kA159, kS159, kC161, kG161, kP161, kR161_0, kR161_1, kL162, kA162, kS162, kL163, kA163, kS163, kC165, kG165, kP165, kR165_0, kR165_1, kR165_2, kR165_3, kL166, kA166, kS166, kL167, kA167, kS167, kL168, kA168, kS168, kL169, kA169, kS169, kC170, kG170, kP170, kR170_0, kR170_1, kR170_2, kL171, kA171, kS171, kL172, kA172, kS172, kL173, kA173, kS173, kC174, kG174, kP174, kR174_0, kR174_1, kR174_2, kR174_3, kR174_4, kL175, kA175, kS175, kL176, kA176, kS176, kL177, kA177, kS177, kL178, kA178, kS178, kL179, kC180, kG180, kP180, kL181, kL182, kA182, kS182, kC183, kG183, kP183, kR183_1, kR183_3, kR183_5, kR183_6, kR183_7, kR183_8, kR183_9, kR183_21, kR183_26, kR183_27, kR183_30, kR183_31, kR183_33, kR183_34, kR183_36, kR183_37, kR183_38, kR183_39, kR183_40, kR183_41, kR183_42, kR183_43, kR183_44, kL184, kA184, kS184, kL185, kA185, kS185, kL186, kA186, kS186, kL187, kA187, kS187, kL188, kA188, kS188, kL189, kL190, kL191, kA191, kS191, kL192, kA192, kS192, kL193, kA193, kS193, kL194, kA194, kS194, kL195, kA195, kS195, kL196, kA196, kS196, kL197, kA197, kS197, kL198, kA198, kS198, kL199, kA199, kS199, kL200, kA200, kS200, kL201, kL202, kA202, kS202, kL203, kA203, kS203, kL204, kA204, kS204, kL205, kL206, kA206, kS206, h4, q1, hb, lt8_ok, hl, one0]
    rw [← nI_succ, xup2]
    rfl
  · rw [ends]
    by_cases z : nxP isLt (J 4) m p = m
    · have q1 : (nI m ≤ nI (nxP isLt (J 4) m p)) = True := by rw [nn_le (by omega) (by omega)]; exact eq_true (by omega)
      simp only [f_X8_skipLetters_b0]
      simp (disch := first | assumption | omega) only [Option.bind_some, Option.map_some, xw_gR, xw_gN, xw_al, xw_ck, xw_uI, xw_ur, xup_at, xur_at, if_true, if_false, reduceIte, and_true, true_and, and_false, false_and, not_true_eq_false, not_false_eq_true, Nat.reduceEqDiff, eq_self, Nat.reduceAdd, Nat.reduceMul, kC1, kG1, kP1, kR1_0, kR1_1, kR1_2, kR1_3, kR1_4, kR1_5, kR1_6, kR1_7, kR1_8, kR1_9, kR1_10, kR1_11, kR1_12, kR1_13, kC2, kG2, kP2, kR2_0, kR2_1, kC3, kG3, kP3, kR3_0, kR3_1, kR3_2, kR3_3, kL4, kA4, kS4, kL5, kA5, kS5, kL6, kA6, kS6, kL7, kA7, kS7, kC8, kG8, kP8, kR8_0, kR8_1, kL9, kA9, kS9, kL10, kA10, kS10, kC11, kG11, kP11, kR11_0, kR11_1, kR11_2, kR11_3, kL12, kA12, kS12, kL13, kA13, kS13, kL14, kA14, kS14, kL15, kA15, kS15, kC16, kG16, kP16, kR16_0, kR16_1, kL17, kA17, kS17, kL18, kA18, kS18, kC19, kG19, kP19, kR19_0, kL20, kL141, kL146, kA146, kS146, kL151, kA151, kS151, kL156, kA156, kS156, kC157, kG157, kP157, kR157_0, kR157_1, kL158, kA158, kS158, kL159, kA159, kS159, kC161, kG161, kP161, kR161_0, kR161_1, kL162, kA162, kS162, kL163, kA163, kS163, kC165, kG165, kP165, kR165_0, kR165_1, kR165_2, kR165_3, kL166, kA166, kS166, kL167, kA167, kS167, kL168, kA168, kS168, kL169, kA169, kS169, kC170, kG170, kP170, kR170_0, kR170_1, kR170_2, kL171, kA171, kS171, kL172, kA172, kS172, kL173, kA173, kS173, kC174, kG174, kP174, kR174_0, kR174_1, kR174_2, kR174_3, kR174_4, kL175, kA175, kS175, kL176, kA176, kS176, kL177, kA177, kS177, kL178, kA178, kS178, kL179, kC180, kG180, kP180, kL181, kL182, kA182, kS182, kC183, kG183, kP183, kR183_1, kR183_3, kR183_5, kR183_6, kR183_7, kR183_8, kR183_9, kR183_21, kR183_26, kR183_27, kR183_30, kR183_31, kR183_33, kR183_34, kR183_36, kR183_37, kR183_38, kR183_39, kR183_40, kR183_41, kR183_42, kR183_43, kR183_44, kL184, kA184, kS184, kL185, kA185, kS185, kL186, kA186, kS186, kL187, kA187, kS187, kL188, kA188, kS188, kL189, kL190, kL191, kA191, kS191, kL192, kA192, kS192, kL193, kA193, kS193, kL194, kA194, kS194, kL195, kA195, kS195, kL196, kA196, kS196, kL197, kA197, kS197, kL198, kA198, kS198, kL199, kA199, kS199, kL200, kA200, kS200, kL201, kL202, kA202, kS202, kL203, kA203, kS203, kL204, kA204, kS204, kL205, kL206, kA206, kS206, h4, q1]
    · have hb := byte8_ok (σ := σ) (J := xup J 3 9 (nI (nxP isLt (J 4) m p))) hS hm (by rw [xup_at, if_neg (by omega)]; exact h4) (show nxP isLt (J 4) m p < m by omega)
      have hr : xup J 3 9 (nI (nxP isLt (J 4) m p)) 4 (nxP isLt (J 4) m p) = J 4 (nxP isLt (J 4) m p) := by rw [xup_at, if_neg (by omega)]
      have hl : isLt (J 4 (nxP isLt (J 4) m p)) = false := nxP_out (by omega)
      rw [hr] at hb
      have q1 : (nI m ≤ nI (nxP isLt (J 4) m p)) = False := by rw [nn_le (by omega) (by omega)]; exact eq_false (by omega)
      simp only [f_X8_skipLetters_b0]
      simp (disch := first | assumption | omega) only [Option.bind_some, Option.map_some, xw_gR, xw_gN, xw_al, xw_ck, xw_uI, xw_ur, xup_at, xur_at, if_true, if_false, reduceIte, and_true, true_and, and_false, false_and, not_true_eq_false, not_false_eq_true, Nat.reduceEqDiff, eq_self, Nat.reduceAdd, Nat.reduceMul, kC1, kG1, kP1, kR1_0, kR1_1, kR1_2, kR1_3, kR1_4, kR1_5, kR1_6, kR1_7, kR1_8, kR1_9, kR1_10, kR1_11, kR1_12, kR1_13, kC2, kG2, kP2, kR2_0, kR2_1, kC3, kG3, kP3, kR3_0, kR3_1, kR3_2, kR3_3, kL4, kA4, kS4, kL5, kA5, kS5, kL6, kA6, kS6, kL7, kA7, kS7, kC8, kG8, kP8, kR8_0, kR8_1, kL9, kA9, kS9, kL10, kA10, kS10, kC11, kG11, kP11, kR11_0, kR11_1, kR11_2, kR11_3, kL12, kA12, kS12, kL13, kA13, kS13, kL14, kA14, kS14, kL15, kA15, kS15, kC16, kG16, kP16, kR16_0, kR16_1, kL17, kA17, kS17, kL18, kA18, kS18, kC19, kG19, kP19, kR19_0, kL20, kL141, kL146, kA146, kS146, kL151, kA151, kS151, kL156, kA156, kS156, kC157, kG157, kP157, kR157_0, kR157_1, kL158, kA158, kS158, kL159, kA159, kS159, kC161, kG161, kP161, kR161_0, kR161_1, kL162, kA162, kS162, kL163, kA163, kS163, kC165, kG165, kP165, kR165_0, kR165_1, kR165_2, kR165_3, kL166, kA166, kS166, kL167, kA167, kS167, kL168, kA168, kS168, kL169, kA169, kS169, kC170, kG170, kP170, kR170_0, kR170_1, kR170_2, kL171, kA171, kS171, kL172, kA172, kS172, kL173, kA173, kS173, kC174, kG174, kP174, kR174_0, kR174_1, kR174_2, kR174_3, kR174_4, kL175, kA175, kS175, kL176, kA176, kS176, kL177, kA177, kS177, kL178, kA178, kS178, kL179, kC180, kG180, kP180, kL181, kL182, kA182, kS182, kC183, kG183, kP183, kR183_1, kR183_3, kR183_5, kR183_6, kR183_7, kR183_8, kR183_9, kR183_21, kR183_26, kR183_27, kR183_30, kR183_31, kR183_33, kR183_34, kR183_36, kR183_37, kR183_38, kR183_39, kR183_40, kR183_41, kR183_42, kR183_43, kR183_44, kL184, kA184, kS184, kL185, kA185, kS185, kL186, kA186, kS186, kL187, kA187, kS187, kL188, kA188, kS188, kL189, kL190, kL191, kA191, kS191, kL192, kA192, kS192, kL193, kA193, kS193, kL194, kA194, kS194, kL195, kA195, kS195, kL196, kA196, kS196, kL197, kA197, kS197, kL198, kA198, kS198, kL199, kA199, kS199, kL200, kA200, kS200, kL201, kL202, kA202, kS202, kL203, kA203, kS203, kL204, kA204, kS204, kL205, kL206, kA206, kS206, h4, q1, hb, lt8_ok, hl, Bool.false_eq_true]
theorem spells_ok (hS : Shp σ) (hm : m ≤ 2000) (h4 : J 3 4 = nI m) {s e j : Nat} (hse : s ≤ e) (he : e ≤ m) (h8 : J 3 8 = nI s) (h9 : J 3 9 = nI e) (hl : ∀ k, s ≤ k → k < e → isLt (J 4 k) = true) (hj : j < 11) : f_X8_spells (xw σ J) 3 j = some (if wdM (J 4) s (e - s) j then 1 else 0) := by
  obtain ⟨t1, t2, t3, t4, t5⟩ := wd_tab j hj
  have hk : xsk j = some () := by unfold xsk; rw [if_pos hj]
  unfold f_X8_spells
  have q0 : (nI e - nI s = Int32.ofNat (xsl.getD j 0)) = (e - s = xsl.getD j 0) := by
    rw [nn_sub hse]
    exact nn_eq (by omega) (by omega)
  simp (disch := first | assumption | omega) only [Option.bind_some, Option.map_some, xw_gR, xw_gN, xw_al, xw_ck, xw_uI, xw_ur, xup_at, xur_at, if_true, if_false, reduceIte, and_true, true_and, and_false, false_and, not_true_eq_false, not_false_eq_true, Nat.reduceEqDiff, eq_self, Nat.reduceAdd, Nat.reduceMul, kC1, kG1, kP1, kR1_0, kR1_1, kR1_2, kR1_3, kR1_4, kR1_5, kR1_6, kR1_7, kR1_8, kR1_9, kR1_10, kR1_11, kR1_12, kR1_13, kC2, kG2, kP2, kR2_0, kR2_1, kC3, kG3, kP3, kR3_0, kR3_1, kR3_2, kR3_3, kL4, kA4, kS4, kL5, kA5, kS5, kL6, kA6, kS6, kL7, kA7, kS7, kC8, kG8, kP8, kR8_0, kR8_1, kL9, kA9, kS9, kL10, kA10, kS10, kC11, kG11, kP11, kR11_0, kR11_1, kR11_2, kR11_3, kL12, kA12, kS12, kL13, kA13, kS13, kL14, kA14, kS14, kL15, kA15, kS15, kC16, kG16, kP16, kR16_0, kR16_1, kL17, kA17, kS17, kL18, kA18, kS18, kC19, kG19, kP19, kR19_0, kL20, kL141, kL146, kA146, kS146, kL151, kA151, kS151, kL156, kA156, kS156, kC157, kG157, kP157, kR157_0, kR157_1, kL158, kA158, kS158, kL159, kA159, kS159, kC161, kG161, kP161, kR161_0, kR161_1, kL162, kA162, kS162, kL163, kA163, kS163, kC165, kG165, kP165, kR165_0, kR165_1, kR165_2, kR165_3, kL166, kA166, kS166, kL167, kA167, kS167, kL168, kA168, kS168, kL169, kA169, kS169, kC170, kG170, kP170, kR170_0, kR170_1, kR170_2, kL171, kA171, kS171, kL172, kA172, kS172, kL173, kA173, kS173, kC174, kG174, kP174, kR174_0, kR174_1, kR174_2, kR174_3, kR174_4, kL175, kA175, kS175, kL176, kA176, kS176, kL177, kA177, kS177, kL178, kA178, kS178, kL179, kC180, kG180, kP180, kL181, kL182, kA182, kS182, kC183, kG183, kP183, kR183_1, kR183_3, kR183_5, kR183_6, kR183_7, kR183_8, kR183_9, kR183_21, kR183_26, kR183_27, kR183_30, kR183_31, kR183_33, kR183_34, kR183_36, kR183_37, kR183_38, kR183_39, kR183_40, kR183_41, kR183_42, kR183_43, kR183_44, kL184, kA184, kS184, kL185, kA185, kS185, kL186, kA186, kS186, kL187, kA187, kS187, kL188, kA188, kS188, kL189, kL190, kL191, kA191, kS191, kL192, kA192, kS192, kL193, kA193, kS193, kL194, kA194, kS194, kL195, kA195, kS195, kL196, kA196, kS196, kL197, kA197, kS197, kL198, kA198, kS198, kL199, kA199, kS199, kL200, kA200, kS200, kL201, kL202, kA202, kS202, kL203, kA203, kS203, kL204, kA204, kS204, kL205, kL206, kA206, kS206, h9, h8, hk, q0]
  by_cases hlen : e - s = xsl.getD j 0
  · rw [if_pos hlen]
    have key := xallL (f := f_X8_spells_b20 (xw σ J) 3 j) (a0 := (0 : Int32)) (fun i : Nat => nI i) (xsl.getD j 0) (fun i => decide (lt1 (J 4 (s + i)) = wdW j i)) (bad := (0 : Int32)) (good := (1 : Int32)) rfl ?_ ?_ ?_
    · rw [key]
      unfold wdM
      rw [hlen, decide_eq_true rfl, Bool.true_and]
    · intro i hi hp
      have hb := byte8_ok (σ := σ) (J := J) hS hm h4 (show s + i < m by omega)
      have hc : xsc j (nI i) = some (nI (96 + wdW j i)) := by
        unfold xsc
        rw [nI_clamp (by omega), if_pos ⟨hj, fun z => z.elim (nI_pos (by omega)) (fun y => by omega)⟩, (t5 i hi).2.2]
      have hlt := isLt_b (hl (s + i) (by omega) (by omega))
      have e1 : J 4 (s + i) = nI (96 + wdW j i) := by
        have := of_decide_eq_true hp
        unfold lt1 at this
        rw [iI_n, iI_of (J 4 (s + i))]
        congr 1
        omega
      have q1 : (Int32.ofNat (xsl.getD j 0) ≤ nI i) = False := by
        have : (nI (xsl.getD j 0) ≤ nI i) = False := by rw [nn_le (by omega) (by omega)]; exact eq_false (by omega)
        exact this
      simp only [f_X8_spells_b20]
      simp (disch := first | assumption | omega) only [Option.bind_some, Option.map_some, xw_gR, xw_gN, xw_al, xw_ck, xw_uI, xw_ur, xup_at, xur_at, if_true, if_false, reduceIte, and_true, true_and, and_false, false_and, not_true_eq_false, not_false_eq_true, Nat.reduceEqDiff, eq_self, Nat.reduceAdd, Nat.reduceMul, kC1, kG1, kP1, kR1_0, kR1_1, kR1_2, kR1_3, kR1_4, kR1_5, kR1_6, kR1_7, kR1_8, kR1_9, kR1_10, kR1_11, kR1_12, kR1_13, kC2, kG2, kP2, kR2_0, kR2_1, kC3, kG3, kP3, kR3_0, kR3_1, kR3_2, kR3_3, kL4, kA4, kS4, kL5, kA5, kS5, kL6, kA6, kS6, kL7, kA7, kS7, kC8, kG8, kP8, kR8_0, kR8_1, kL9, kA9, kS9, kL10, kA10, kS10, kC11, kG11, kP11, kR11_0, kR11_1, kR11_2, kR11_3, kL12, kA12, kS12, kL13, kA13, kS13, kL14, kA14, kS14, kL15, kA15, kS15, kC16, kG16, kP16, kR16_0, kR16_1, kL17, kA17, kS17, kL18, kA18, kS18, kC19, kG19, kP19, kR19_0, kL20, kL141, kL146, kA146, kS146, kL151, kA151, kS151, kL156, kA156, kS156, kC157, kG157, kP157, kR157_0, kR157_1, kL158, kA158, kS158, kL159, kA159, kS159, kC161, kG161, kP161, kR161_0, kR161_1, kL162, kA162, kS162, kL163, kA163, kS163, kC165, kG165, kP165, kR165_0, kR165_1, kR165_2, kR165_3, kL166, kA166, kS166, kL167, kA167, kS167, kL168, kA168, kS168, kL169, kA169, kS169, kC170, kG170, kP170, kR170_0, kR170_1, kR170_2, kL171, kA171, kS171, kL172, kA172, kS172, kL173, kA173, kS173, kC174, kG174, kP174, kR174_0, kR174_1, kR174_2, kR174_3, kR174_4, kL175, kA175, kS175, kL176, kA176, kS176, kL177, kA177, kS177, kL178, kA178, kS178, kL179, kC180, kG180, kP180, kL181, kL182, kA182, kS182, kC183, kG183, kP183, kR183_1, kR183_3, kR183_5, kR183_6, kR183_7, kR183_8, kR183_9, kR183_21, kR183_26, kR183_27, kR183_30, kR183_31, kR183_33, kR183_34, kR183_36, kR183_37, kR183_38, kR183_39, kR183_40, kR183_41, kR183_42, kR183_43, kR183_44, kL184, kA184, kS184, kL185, kA185, kS185, kL186, kA186, kS186, kL187, kA187, kS187, kL188, kA188, kS188, kL189, kL190, kL191, kA191, kS191, kL192, kA192, kS192, kL193, kA193, kS193, kL194, kA194, kS194, kL195, kA195, kS195, kL196, kA196, kS196, kL197, kA197, kS197, kL198, kA198, kS198, kL199, kA199, kS199, kL200, kA200, kS200, kL201, kL202, kA202, kS202, kL203, kA203, kS203, kL204, kA204, kS204, kL205, kL206, kA206, kS206, hk, q1, h8, nn_add, hb, hc, e1]
      rw [nI_succ]
    · intro i hi hp
      have hb := byte8_ok (σ := σ) (J := J) hS hm h4 (show s + i < m by omega)
      have hc : xsc j (nI i) = some (nI (96 + wdW j i)) := by
        unfold xsc
        rw [nI_clamp (by omega), if_pos ⟨hj, fun z => z.elim (nI_pos (by omega)) (fun y => by omega)⟩, (t5 i hi).2.2]
      have hlt := isLt_b (hl (s + i) (by omega) (by omega))
      have h6 := (t5 i hi).2.1
      have e1 : (J 4 (s + i) = nI (96 + wdW j i)) = False := by
        apply eq_false
        intro z
        have hn := of_decide_eq_false hp
        apply hn
        unfold lt1
        rw [z, nI_toInt (by omega)]
        omega
      have q1 : (Int32.ofNat (xsl.getD j 0) ≤ nI i) = False := by
        have : (nI (xsl.getD j 0) ≤ nI i) = False := by rw [nn_le (by omega) (by omega)]; exact eq_false (by omega)
        exact this
      simp only [f_X8_spells_b20]
      simp (disch := first | assumption | omega) only [Option.bind_some, Option.map_some, xw_gR, xw_gN, xw_al, xw_ck, xw_uI, xw_ur, xup_at, xur_at, if_true, if_false, reduceIte, and_true, true_and, and_false, false_and, not_true_eq_false, not_false_eq_true, Nat.reduceEqDiff, eq_self, Nat.reduceAdd, Nat.reduceMul, kC1, kG1, kP1, kR1_0, kR1_1, kR1_2, kR1_3, kR1_4, kR1_5, kR1_6, kR1_7, kR1_8, kR1_9, kR1_10, kR1_11, kR1_12, kR1_13, kC2, kG2, kP2, kR2_0, kR2_1, kC3, kG3, kP3, kR3_0, kR3_1, kR3_2, kR3_3, kL4, kA4, kS4, kL5, kA5, kS5, kL6, kA6, kS6, kL7, kA7, kS7, kC8, kG8, kP8, kR8_0, kR8_1, kL9, kA9, kS9, kL10, kA10, kS10, kC11, kG11, kP11, kR11_0, kR11_1, kR11_2, kR11_3, kL12, kA12, kS12, kL13, kA13, kS13, kL14, kA14, kS14, kL15, kA15, kS15, kC16, kG16, kP16, kR16_0, kR16_1, kL17, kA17, kS17, kL18, kA18, kS18, kC19, kG19, kP19, kR19_0, kL20, kL141, kL146, kA146, kS146, kL151, kA151, kS151, kL156, kA156, kS156, kC157, kG157, kP157, kR157_0, kR157_1, kL158, kA158, kS158, kL159, kA159, kS159, kC161, kG161, kP161, kR161_0, kR161_1, kL162, kA162, kS162, kL163, kA163, kS163, kC165, kG165, kP165, kR165_0, kR165_1, kR165_2, kR165_3, kL166, kA166, kS166, kL167, kA167, kS167, kL168, kA168, kS168, kL169, kA169, kS169, kC170, kG170, kP170, kR170_0, kR170_1, kR170_2, kL171, kA171, kS171, kL172, kA172, kS172, kL173, kA173, kS173, kC174, kG174, kP174, kR174_0, kR174_1, kR174_2, kR174_3, kR174_4, kL175, kA175, kS175, kL176, kA176, kS176, kL177, kA177, kS177, kL178, kA178, kS178, kL179, kC180, kG180, kP180, kL181, kL182, kA182, kS182, kC183, kG183, kP183, kR183_1, kR183_3, kR183_5, kR183_6, kR183_7, kR183_8, kR183_9, kR183_21, kR183_26, kR183_27, kR183_30, kR183_31, kR183_33, kR183_34, kR183_36, kR183_37, kR183_38, kR183_39, kR183_40, kR183_41, kR183_42, kR183_43, kR183_44, kL184, kA184, kS184, kL185, kA185, kS185, kL186, kA186, kS186, kL187, kA187, kS187, kL188, kA188, kS188, kL189, kL190, kL191, kA191, kS191, kL192, kA192, kS192, kL193, kA193, kS193, kL194, kA194, kS194, kL195, kA195, kS195, kL196, kA196, kS196, kL197, kA197, kS197, kL198, kA198, kS198, kL199, kA199, kS199, kL200, kA200, kS200, kL201, kL202, kA202, kS202, kL203, kA203, kS203, kL204, kA204, kS204, kL205, kL206, kA206, kS206, hk, q1, h8, nn_add, hb, hc, e1]
    · have q1 : (Int32.ofNat (xsl.getD j 0) ≤ nI (xsl.getD j 0)) = True := by
        have : (nI (xsl.getD j 0) ≤ nI (xsl.getD j 0)) = True := by rw [nn_le (by omega) (by omega)]; exact eq_true (Nat.le_refl _)
        exact this
      simp only [f_X8_spells_b20]
      simp (disch := first | assumption | omega) only [Option.bind_some, Option.map_some, xw_gR, xw_gN, xw_al, xw_ck, xw_uI, xw_ur, xup_at, xur_at, if_true, if_false, reduceIte, and_true, true_and, and_false, false_and, not_true_eq_false, not_false_eq_true, Nat.reduceEqDiff, eq_self, Nat.reduceAdd, Nat.reduceMul, kC1, kG1, kP1, kR1_0, kR1_1, kR1_2, kR1_3, kR1_4, kR1_5, kR1_6, kR1_7, kR1_8, kR1_9, kR1_10, kR1_11, kR1_12, kR1_13, kC2, kG2, kP2, kR2_0, kR2_1, kC3, kG3, kP3, kR3_0, kR3_1, kR3_2, kR3_3, kL4, kA4, kS4, kL5, kA5, kS5, kL6, kA6, kS6, kL7, kA7, kS7, kC8, kG8, kP8, kR8_0, kR8_1, kL9, kA9, kS9, kL10, kA10, kS10, kC11, kG11, kP11, kR11_0, kR11_1, kR11_2, kR11_3, kL12, kA12, kS12, kL13, kA13, kS13, kL14, kA14, kS14, kL15, kA15, kS15, kC16, kG16, kP16, kR16_0, kR16_1, kL17, kA17, kS17, kL18, kA18, kS18, kC19, kG19, kP19, kR19_0, kL20, kL141, kL146, kA146, kS146, kL151, kA151, kS151, kL156, kA156, kS156, kC157, kG157, kP157, kR157_0, kR157_1, kL158, kA158, kS158, kL159, kA159, kS159, kC161, kG161, kP161, kR161_0, kR161_1, kL162, kA162, kS162, kL163, kA163, kS163, kC165, kG165, kP165, kR165_0, kR165_1, kR165_2, kR165_3, kL166, kA166, kS166, kL167, kA167, kS167, kL168, kA168, kS168, kL169, kA169, kS169, kC170, kG170, kP170, kR170_0, kR170_1, kR170_2, kL171, kA171, kS171, kL172, kA172, kS172, kL173, kA173, kS173, kC174, kG174, kP174, kR174_0, kR174_1, kR174_2, kR174_3, kR174_4, kL175, kA175, kS175, kL176, kA176, kS176, kL177, kA177, kS177, kL178, kA178, kS178, kL179, kC180, kG180, kP180, kL181, kL182, kA182, kS182, kC183, kG183, kP183, kR183_1, kR183_3, kR183_5, kR183_6, kR183_7, kR183_8, kR183_9, kR183_21, kR183_26, kR183_27, kR183_30, kR183_31, kR183_33, kR183_34, kR183_36, kR183_37, kR183_38, kR183_39, kR183_40, kR183_41, kR183_42, kR183_43, kR183_44, kL184, kA184, kS184, kL185, kA185, kS185, kL186, kA186, kS186, kL187, kA187, kS187, kL188, kA188, kS188, kL189, kL190, kL191, kA191, kS191, kL192, kA192, kS192, kL193, kA193, kS193, kL194, kA194, kS194, kL195, kA195, kS195, kL196, kA196, kS196, kL197, kA197, kS197, kL198, kA198, kS198, kL199, kA199, kS199, kL200, kA200, kS200, kL201, kL202, kA202, kS202, kL203, kA203, kS203, kL204, kA204, kS204, kL205, kL206, kA206, kS206, hk, q1]
  · rw [if_neg hlen]
    have : wdM (J 4) s (e - s) j = false := by
      unfold wdM
      rw [decide_eq_false hlen, Bool.false_and]
    rw [this]
    rfl
theorem wk_if (p : Nat → Bool) : wkF p 11 = if p 0 then 5 else if p 1 then 6 else if p 2 then 7 else if p 3 then 8 else if p 4 then 9 else if p 5 then 10 else if p 6 then 11 else if p 7 then 12 else if p 8 then 13 else if p 9 then 14 else if p 10 then 15 else 1 := rfl
theorem wk_step (hS : Shp σ) {j : Nat} {pj : Bool} (sp : f_X8_spells (xw σ J) 3 j = some (if pj then 1 else 0)) (A B : Option Int32) : ((xck (xw σ J) 3 8).bind fun _ => (f_X8_spells (xw σ J) 3 j).bind fun v => if v = 0 then A else B) = if pj = true then B else A := by
  rw [xw_ck, kC3 hS, Option.bind_some, sp, Option.bind_some]
  cases pj with
  | true => rfl
  | false => rfl
theorem wordKind_ok (hS : Shp σ) (hm : m ≤ 2000) (h4 : J 3 4 = nI m) {s e : Nat} (hse : s ≤ e) (he : e ≤ m) (h8 : J 3 8 = nI s) (h9 : J 3 9 = nI e) (hl : ∀ k, s ≤ k → k < e → isLt (J 4 k) = true) : f_X8_wordKind (xw σ J) 3 = some (nI (wdK (J 4) s (e - s))) := by
  have sp : ∀ j, j < 11 → f_X8_spells (xw σ J) 3 j = some (if wdM (J 4) s (e - s) j then 1 else 0) := fun j hj => spells_ok hS hm h4 hse he h8 h9 hl hj
  unfold wdK
  rw [wk_if]
  generalize wdM (J 4) s (e - s) = p at sp
  unfold f_X8_wordKind
  rw [wk_step hS (sp 0 (by omega)), wk_step hS (sp 1 (by omega)), wk_step hS (sp 2 (by omega)), wk_step hS (sp 3 (by omega)), wk_step hS (sp 4 (by omega)), wk_step hS (sp 5 (by omega)), wk_step hS (sp 6 (by omega)), wk_step hS (sp 7 (by omega)), wk_step hS (sp 8 (by omega)), wk_step hS (sp 9 (by omega)), wk_step hS (sp 10 (by omega))]
  cases p 0 with
  | true => rfl
  | false =>
    cases p 1 with
    | true => rfl
    | false =>
      cases p 2 with
      | true => rfl
      | false =>
        cases p 3 with
        | true => rfl
        | false =>
          cases p 4 with
          | true => rfl
          | false =>
            cases p 5 with
            | true => rfl
            | false =>
              cases p 6 with
              | true => rfl
              | false =>
                cases p 7 with
                | true => rfl
                | false =>
                  cases p 8 with
                  | true => rfl
                  | false =>
                    cases p 9 with
                    | true => rfl
                    | false =>
                      cases p 10 with
                      | true => rfl
                      | false => rfl
end FIND
