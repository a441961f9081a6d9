/-! stiff -/
def mnE (E : Nat → Int) (p : Nat → Bool) : Nat → Option Int
  | 0 => none
  | s + 1 => if p s then (match mnE E p s with
    | none => some (E s)
    | some m => some (min m (E s))) else mnE E p s
theorem mnE_b {E : Nat → Int} (p : Nat → Bool) (h : ∀ s, -144 ≤ E s ∧ E s ≤ 144) : ∀ s m, mnE E p s = some m → -144 ≤ m ∧ m ≤ 144
  | 0, m => fun h => nomatch h
  | s + 1, m => fun hm => by
    have ih := mnE_b p h s
    have hs := h s
    rw [mnE] at hm
    split at hm
    · split at hm
      · cases hm; exact hs
      · next m' hm' =>
        have := ih m' hm'
        cases hm
        omega
    · exact ih m hm
def enO (c : Int) (o : Option Int) : Int32 := match o with
  | none => iI c
  | some m => iI m
theorem xmin_i {a b : Int} (h1 : -2147483648 ≤ a) (h2 : a < 2147483648) (h3 : -2147483648 ≤ b) (h4 : b < 2147483648) : xmin (iI a) (iI b) = iI (min a b) := by
  unfold xmin
  simp only [iI_lt h3 h4 h1 h2]
  split
  · congr 1; omega
  · congr 1; omega
theorem isLawful11_ok {σ : XS} {I : Nat → Nat → Int32} {g : GD} {F : Nat → Int32} (hS : Shp σ) (hG : GRD I g) (h : SR g I 16 F) (x : Int32) : f_X11_isLawful (xw σ I) 1 x = some (if isB g F x then 1 else 0) := by
  have hSt := (gSt_b hG.1).1
  unfold f_X11_isLawful
  by_cases h0 : x < 0
  · rw [if_pos h0]
    have : isB g F x = false := by
      unfold isB
      have : x.toInt < 0 := (fa_lt _ _).mp h0
      simp; omega
    rw [this]; rfl
  · obtain ⟨s, hs, rfl⟩ := nn_of h0
    rw [if_neg h0]
    simp (disch := first | assumption | omega) only [Option.bind_some, Option.map_some, xw_gR, xw_gN, xw_al, xw_ck, xw_uI, xw_ur, xup_at, xur_at, if_true, if_false, reduceIte, and_true, true_and, and_false, false_and, not_true_eq_false, not_false_eq_true, Nat.reduceEqDiff, eq_self, Nat.reduceAdd, Nat.reduceMul, kC1, kG1, kP1, kR1_0, kR1_1, kR1_2, kR1_3, kR1_4, kR1_5, kR1_6, kR1_7, kR1_8, kR1_9, kR1_10, kR1_11, kR1_12, kR1_13, kC2, kG2, kP2, kR2_0, kR2_1, kC3, kG3, kP3, kR3_0, kR3_1, kR3_2, kR3_3, kL4, kA4, kS4, kL5, kA5, kS5, kL6, kA6, kS6, kL7, kA7, kS7, kC8, kG8, kP8, kR8_0, kR8_1, kL9, kA9, kS9, kL10, kA10, kS10, kC11, kG11, kP11, kR11_0, kR11_1, kR11_2, kR11_3, kL12, kA12, kS12, kL13, kA13, kS13, kL14, kA14, kS14, kL15, kA15, kS15, kC16, kG16, kP16, kR16_0, kR16_1, kL17, kA17, kS17, kL18, kA18, kS18, kC19, kG19, kP19, kR19_0, kL20, kL141, kL146, kA146, kS146, kL151, kA151, kS151, kL156, kA156, kS156, kC157, kG157, kP157, kR157_0, kR157_1, kL158, kA158, kS158, kL159, kA159, kS159, kC161, kG161, kP161, kR161_0, kR161_1, kL162, kA162, kS162, kL163, kA163, kS163, kC165, kG165, kP165, kR165_0, kR165_1, kR165_2, kR165_3, kL166, kA166, kS166, kL167, kA167, kS167, kL168, kA168, kS168, kL169, kA169, kS169, kC170, kG170, kP170, kR170_0, kR170_1, kR170_2, kL171, kA171, kS171, kL172, kA172, kS172, kL173, kA173, kS173, kC174, kG174, kP174, kR174_0, kR174_1, kR174_2, kR174_3, kR174_4, kL175, kA175, kS175, kL176, kA176, kS176, kL177, kA177, kS177, kL178, kA178, kS178, kL179, kC180, kG180, kP180, kL181, kL182, kA182, kS182, kC183, kG183, kP183, kR183_1, kR183_3, kR183_5, kR183_6, kR183_7, kR183_8, kR183_9, kR183_21, kR183_26, kR183_27, kR183_30, kR183_31, kR183_33, kR183_34, kR183_36, kR183_37, kR183_38, kR183_39, kR183_40, kR183_41, kR183_42, kR183_43, kR183_44, kL184, kA184, kS184, kL185, kA185, kS185, kL186, kA186, kS186, kL187, kA187, kS187, kL188, kA188, kS188, kL189, kL190, kL191, kA191, kS191, kL192, kA192, kS192, kL193, kA193, kS193, kL194, kA194, kS194, kL195, kA195, kS195, kL196, kA196, kS196, kL197, kA197, kS197, kL198, kA198, kS198, kL199, kA199, kS199, kL200, kA200, kS200, kL201, kL202, kA202, kS202, kL203, kA203, kS203, kL204, kA204, kS204, kL205, kL206, kA206, kS206, states11_ok hS hG, nn_le, allows_ok hS hG.1 suA_16 h]
    by_cases hq : gSt g ≤ s
    · rw [if_pos hq]
      have : isB g F (nI s) = false := by
        unfold isB
        rw [nI_toInt hs]
        simp; omega
      rw [this]; rfl
    · rw [if_neg hq, isB_n hG.1 (by omega)]
      cases lW g F s <;> rfl
def stfR (A U : Option Int) : Int32 := match A, U with
  | some a, some b => iI b - iI a
  | _, _ => -100000
theorem op_stiff : Op_stiff INV := by
  intro n σ hn ⟨g, gT, gP, st, H⟩ x y
  have hS0 := H.shp
  have hG0 := H.grd
  have hg := hG0.1
  have h16 := (gAll_b g hg).2.2.1
  have hSt := (gSt_b hg).1
  by_cases hx1 : isS g x = true
  · by_cases hy1 : isS g y = true
    · by_cases hxy : x = y
      · refine ⟨-100000, σ, σ, ?_, ?_, g, gT, gP, st, H.nop⟩
        · show f_X11_stiff (xw σ (xI σ)) 1 x y = _
          unfold f_X11_stiff
          simp (disch := first | assumption | omega) only [Option.bind_some, Option.map_some, xw_gR, xw_gN, xw_al, xw_ck, xw_uI, xw_ur, xup_at, xur_at, if_true, if_false, reduceIte, and_true, true_and, and_false, false_and, not_true_eq_false, not_false_eq_true, Nat.reduceEqDiff, eq_self, Nat.reduceAdd, Nat.reduceMul, kC1, kG1, kP1, kR1_0, kR1_1, kR1_2, kR1_3, kR1_4, kR1_5, kR1_6, kR1_7, kR1_8, kR1_9, kR1_10, kR1_11, kR1_12, kR1_13, kC2, kG2, kP2, kR2_0, kR2_1, kC3, kG3, kP3, kR3_0, kR3_1, kR3_2, kR3_3, kL4, kA4, kS4, kL5, kA5, kS5, kL6, kA6, kS6, kL7, kA7, kS7, kC8, kG8, kP8, kR8_0, kR8_1, kL9, kA9, kS9, kL10, kA10, kS10, kC11, kG11, kP11, kR11_0, kR11_1, kR11_2, kR11_3, kL12, kA12, kS12, kL13, kA13, kS13, kL14, kA14, kS14, kL15, kA15, kS15, kC16, kG16, kP16, kR16_0, kR16_1, kL17, kA17, kS17, kL18, kA18, kS18, kC19, kG19, kP19, kR19_0, kL20, kL141, kL146, kA146, kS146, kL151, kA151, kS151, kL156, kA156, kS156, kC157, kG157, kP157, kR157_0, kR157_1, kL158, kA158, kS158, kL159, kA159, kS159, kC161, kG161, kP161, kR161_0, kR161_1, kL162, kA162, kS162, kL163, kA163, kS163, kC165, kG165, kP165, kR165_0, kR165_1, kR165_2, kR165_3, kL166, kA166, kS166, kL167, kA167, kS167, kL168, kA168, kS168, kL169, kA169, kS169, kC170, kG170, kP170, kR170_0, kR170_1, kR170_2, kL171, kA171, kS171, kL172, kA172, kS172, kL173, kA173, kS173, kC174, kG174, kP174, kR174_0, kR174_1, kR174_2, kR174_3, kR174_4, kL175, kA175, kS175, kL176, kA176, kS176, kL177, kA177, kS177, kL178, kA178, kS178, kL179, kC180, kG180, kP180, kL181, kL182, kA182, kS182, kC183, kG183, kP183, kR183_1, kR183_3, kR183_5, kR183_6, kR183_7, kR183_8, kR183_9, kR183_21, kR183_26, kR183_27, kR183_30, kR183_31, kR183_33, kR183_34, kR183_36, kR183_37, kR183_38, kR183_39, kR183_40, kR183_41, kR183_42, kR183_43, kR183_44, kL184, kA184, kS184, kL185, kA185, kS185, kL186, kA186, kS186, kL187, kA187, kS187, kL188, kA188, kS188, kL189, kL190, kL191, kA191, kS191, kL192, kA192, kS192, kL193, kA193, kS193, kL194, kA194, kS194, kL195, kA195, kS195, kL196, kA196, kS196, kL197, kA197, kS197, kL198, kA198, kS198, kL199, kA199, kS199, kL200, kA200, kS200, kL201, kL202, kA202, kS202, kL203, kA203, kS203, kL204, kA204, kS204, kL205, kL206, kA206, kS206, hasSite_ok hS0 hG0, hx1, hy1, one0, hxy]
          rfl
        · show f_X12_stiff (xw σ (xI σ)) 183 x y = _
          unfold f_X12_stiff
          simp (disch := first | assumption | omega) only [Option.bind_some, Option.map_some, xw_gR, xw_gN, xw_al, xw_ck, xw_uI, xw_ur, xup_at, xur_at, if_true, if_false, reduceIte, and_true, true_and, and_false, false_and, not_true_eq_false, not_false_eq_true, Nat.reduceEqDiff, eq_self, Nat.reduceAdd, Nat.reduceMul, kC1, kG1, kP1, kR1_0, kR1_1, kR1_2, kR1_3, kR1_4, kR1_5, kR1_6, kR1_7, kR1_8, kR1_9, kR1_10, kR1_11, kR1_12, kR1_13, kC2, kG2, kP2, kR2_0, kR2_1, kC3, kG3, kP3, kR3_0, kR3_1, kR3_2, kR3_3, kL4, kA4, kS4, kL5, kA5, kS5, kL6, kA6, kS6, kL7, kA7, kS7, kC8, kG8, kP8, kR8_0, kR8_1, kL9, kA9, kS9, kL10, kA10, kS10, kC11, kG11, kP11, kR11_0, kR11_1, kR11_2, kR11_3, kL12, kA12, kS12, kL13, kA13, kS13, kL14, kA14, kS14, kL15, kA15, kS15, kC16, kG16, kP16, kR16_0, kR16_1, kL17, kA17, kS17, kL18, kA18, kS18, kC19, kG19, kP19, kR19_0, kL20, kL141, kL146, kA146, kS146, kL151, kA151, kS151, kL156, kA156, kS156, kC157, kG157, kP157, kR157_0, kR157_1, kL158, kA158, kS158, kL159, kA159, kS159, kC161, kG161, kP161, kR161_0, kR161_1, kL162, kA162, kS162, kL163, kA163, kS163, kC165, kG165, kP165, kR165_0, kR165_1, kR165_2, kR165_3, kL166, kA166, kS166, kL167, kA167, kS167, kL168, kA168, kS168, kL169, kA169, kS169, kC170, kG170, kP170, kR170_0, kR170_1, kR170_2, kL171, kA171, kS171, kL172, kA172, kS172, kL173, kA173, kS173, kC174, kG174, kP174, kR174_0, kR174_1, kR174_2, kR174_3, kR174_4, kL175, kA175, kS175, kL176, kA176, kS176, kL177, kA177, kS177, kL178, kA178, kS178, kL179, kC180, kG180, kP180, kL181, kL182, kA182, kS182, kC183, kG183, kP183, kR183_1, kR183_3, kR183_5, kR183_6, kR183_7, kR183_8, kR183_9, kR183_21, kR183_26, kR183_27, kR183_30, kR183_31, kR183_33, kR183_34, kR183_36, kR183_37, kR183_38, kR183_39, kR183_40, kR183_41, kR183_42, kR183_43, kR183_44, kL184, kA184, kS184, kL185, kA185, kS185, kL186, kA186, kS186, kL187, kA187, kS187, kL188, kA188, kS188, kL189, kL190, kL191, kA191, kS191, kL192, kA192, kS192, kL193, kA193, kS193, kL194, kA194, kS194, kL195, kA195, kS195, kL196, kA196, kS196, kL197, kA197, kS197, kL198, kA198, kS198, kL199, kA199, kS199, kL200, kA200, kS200, kL201, kL202, kA202, kS202, kL203, kA203, kS203, kL204, kA204, kS204, kL205, kL206, kA206, kS206, isSite_ok hS0 hG0, hx1, hy1, one0, hxy]
          rfl
      · obtain ⟨τ, e1, H1, K1, u1, l1⟩ := energiesNow_ok (by omega) H
        obtain ⟨I', e2, H2, K2, u2⟩ := knows_ok H1
        have hS := H1.shp
        have hG1 := H1.grd
        have hG2 : GRD I' g := H2.grd
        obtain ⟨F, hF⟩ : ∃ F, F = xI τ 191 := ⟨_, rfl⟩
        have r2 : I' 191 = F := by rw [hF]; funext k; exact u2 191 k (by omega) (by omega)
        have hSR := H1.now.1
        have ho := H1.now.2.1
        rw [r2] at K2
        rw [← hF] at K1 hSR ho
        obtain ⟨c, a, hEn, ha, hcn⟩ := H1.en157
        obtain ⟨i, hi, rfl⟩ := isS_t hx1
        obtain ⟨j, hj, rfl⟩ := isS_t hy1
        have hEb : ∀ s, -144 ≤ eE g (zR F) s ∧ eE g (zR F) s ≤ 144 := fun s => eE_b hg ho s
        obtain ⟨pA, hpA⟩ : ∃ p : Nat → Bool, p = fun s => lW g F s && decide (s.testBit i = s.testBit j) := ⟨_, rfl⟩
        obtain ⟨pU, hpU⟩ : ∃ p : Nat → Bool, p = fun s => lW g F s && !decide (s.testBit i = s.testBit j) := ⟨_, rfl⟩
        obtain ⟨A, hA⟩ : ∃ A, A = mnE (eE g (zR F)) pA (gSt g) := ⟨_, rfl⟩
        obtain ⟨U, hU⟩ : ∃ U, U = mnE (eE g (zR F)) pU (gSt g) := ⟨_, rfl⟩
        have hAb : ∀ m, A = some m → -144 ≤ m ∧ m ≤ 144 := fun m h => mnE_b pA hEb (gSt g) m (hA ▸ h)
        have hUb : ∀ m, U = some m → -144 ≤ m ∧ m ≤ 144 := fun m h => mnE_b pU hEb (gSt g) m (hU ▸ h)
        obtain ⟨r, hr⟩ : ∃ r : Int32, r = stfR A U := ⟨_, rfl⟩
        refine ⟨r, τ, xw τ I', ?_, ?_, INV_i H2.nop⟩
        · have e1' : f_X11_energiesNow (xw σ (xI σ)) 1 = some (157, τ) := e1
          show f_X11_stiff (xw σ (xI σ)) 1 (nI i) (nI j) = _
          unfold f_X11_stiff
          simp (disch := first | assumption | omega) only [Option.bind_some, Option.map_some, xw_gR, xw_gN, xw_al, xw_ck, xw_uI, xw_ur, xup_at, xur_at, if_true, if_false, reduceIte, and_true, true_and, and_false, false_and, not_true_eq_false, not_false_eq_true, Nat.reduceEqDiff, eq_self, Nat.reduceAdd, Nat.reduceMul, kC1, kG1, kP1, kR1_0, kR1_1, kR1_2, kR1_3, kR1_4, kR1_5, kR1_6, kR1_7, kR1_8, kR1_9, kR1_10, kR1_11, kR1_12, kR1_13, kC2, kG2, kP2, kR2_0, kR2_1, kC3, kG3, kP3, kR3_0, kR3_1, kR3_2, kR3_3, kL4, kA4, kS4, kL5, kA5, kS5, kL6, kA6, kS6, kL7, kA7, kS7, kC8, kG8, kP8, kR8_0, kR8_1, kL9, kA9, kS9, kL10, kA10, kS10, kC11, kG11, kP11, kR11_0, kR11_1, kR11_2, kR11_3, kL12, kA12, kS12, kL13, kA13, kS13, kL14, kA14, kS14, kL15, kA15, kS15, kC16, kG16, kP16, kR16_0, kR16_1, kL17, kA17, kS17, kL18, kA18, kS18, kC19, kG19, kP19, kR19_0, kL20, kL141, kL146, kA146, kS146, kL151, kA151, kS151, kL156, kA156, kS156, kC157, kG157, kP157, kR157_0, kR157_1, kL158, kA158, kS158, kL159, kA159, kS159, kC161, kG161, kP161, kR161_0, kR161_1, kL162, kA162, kS162, kL163, kA163, kS163, kC165, kG165, kP165, kR165_0, kR165_1, kR165_2, kR165_3, kL166, kA166, kS166, kL167, kA167, kS167, kL168, kA168, kS168, kL169, kA169, kS169, kC170, kG170, kP170, kR170_0, kR170_1, kR170_2, kL171, kA171, kS171, kL172, kA172, kS172, kL173, kA173, kS173, kC174, kG174, kP174, kR174_0, kR174_1, kR174_2, kR174_3, kR174_4, kL175, kA175, kS175, kL176, kA176, kS176, kL177, kA177, kS177, kL178, kA178, kS178, kL179, kC180, kG180, kP180, kL181, kL182, kA182, kS182, kC183, kG183, kP183, kR183_1, kR183_3, kR183_5, kR183_6, kR183_7, kR183_8, kR183_9, kR183_21, kR183_26, kR183_27, kR183_30, kR183_31, kR183_33, kR183_34, kR183_36, kR183_37, kR183_38, kR183_39, kR183_40, kR183_41, kR183_42, kR183_43, kR183_44, kL184, kA184, kS184, kL185, kA185, kS185, kL186, kA186, kS186, kL187, kA187, kS187, kL188, kA188, kS188, kL189, kL190, kL191, kA191, kS191, kL192, kA192, kS192, kL193, kA193, kS193, kL194, kA194, kS194, kL195, kA195, kS195, kL196, kA196, kS196, kL197, kA197, kS197, kL198, kA198, kS198, kL199, kA199, kS199, kL200, kA200, kS200, kL201, kL202, kA202, kS202, kL203, kA203, kS203, kL204, kA204, kS204, kL205, kL206, kA206, kS206, hasSite_ok hS0 hG0, hx1, hy1, one0, hxy, e1', xnz_ok]
          show f_X11_stiff_j34 (xw τ (xI τ)) 1 (nI i) (nI j) 157 = _
          unfold f_X11_stiff_j34
          simp (disch := first | assumption | omega) only [Option.bind_some, Option.map_some, xw_gR, xw_gN, xw_al, xw_ck, xw_uI, xw_ur, xup_at, xur_at, if_true, if_false, reduceIte, and_true, true_and, and_false, false_and, not_true_eq_false, not_false_eq_true, Nat.reduceEqDiff, eq_self, Nat.reduceAdd, Nat.reduceMul, kC1, kG1, kP1, kR1_0, kR1_1, kR1_2, kR1_3, kR1_4, kR1_5, kR1_6, kR1_7, kR1_8, kR1_9, kR1_10, kR1_11, kR1_12, kR1_13, kC2, kG2, kP2, kR2_0, kR2_1, kC3, kG3, kP3, kR3_0, kR3_1, kR3_2, kR3_3, kL4, kA4, kS4, kL5, kA5, kS5, kL6, kA6, kS6, kL7, kA7, kS7, kC8, kG8, kP8, kR8_0, kR8_1, kL9, kA9, kS9, kL10, kA10, kS10, kC11, kG11, kP11, kR11_0, kR11_1, kR11_2, kR11_3, kL12, kA12, kS12, kL13, kA13, kS13, kL14, kA14, kS14, kL15, kA15, kS15, kC16, kG16, kP16, kR16_0, kR16_1, kL17, kA17, kS17, kL18, kA18, kS18, kC19, kG19, kP19, kR19_0, kL20, kL141, kL146, kA146, kS146, kL151, kA151, kS151, kL156, kA156, kS156, kC157, kG157, kP157, kR157_0, kR157_1, kL158, kA158, kS158, kL159, kA159, kS159, kC161, kG161, kP161, kR161_0, kR161_1, kL162, kA162, kS162, kL163, kA163, kS163, kC165, kG165, kP165, kR165_0, kR165_1, kR165_2, kR165_3, kL166, kA166, kS166, kL167, kA167, kS167, kL168, kA168, kS168, kL169, kA169, kS169, kC170, kG170, kP170, kR170_0, kR170_1, kR170_2, kL171, kA171, kS171, kL172, kA172, kS172, kL173, kA173, kS173, kC174, kG174, kP174, kR174_0, kR174_1, kR174_2, kR174_3, kR174_4, kL175, kA175, kS175, kL176, kA176, kS176, kL177, kA177, kS177, kL178, kA178, kS178, kL179, kC180, kG180, kP180, kL181, kL182, kA182, kS182, kC183, kG183, kP183, kR183_1, kR183_3, kR183_5, kR183_6, kR183_7, kR183_8, kR183_9, kR183_21, kR183_26, kR183_27, kR183_30, kR183_31, kR183_33, kR183_34, kR183_36, kR183_37, kR183_38, kR183_39, kR183_40, kR183_41, kR183_42, kR183_43, kR183_44, kL184, kA184, kS184, kL185, kA185, kS185, kL186, kA186, kS186, kL187, kA187, kS187, kL188, kA188, kS188, kL189, kL190, kL191, kA191, kS191, kL192, kA192, kS192, kL193, kA193, kS193, kL194, kA194, kS194, kL195, kA195, kS195, kL196, kA196, kS196, kL197, kA197, kS197, kL198, kA198, kS198, kL199, kA199, kS199, kL200, kA200, kS200, kL201, kL202, kA202, kS202, kL203, kA203, kS203, kL204, kA204, kS204, kL205, kL206, kA206, kS206, states11_ok hS hG1]
          refine xforE (fun s : Nat => (enO 145 (mnE (eE g (zR F)) pU s), enO 145 (mnE (eE g (zR F)) pA s), nI s)) (gSt g) rfl (fun s hs => ?_) ?_
          · simp only [f_X11_stiff_b56]
            rw [if_neg (by rw [nn_le (by omega) (by omega)]; omega)]
            simp (disch := first | assumption | omega) only [Option.bind_some, Option.map_some, xw_gR, xw_gN, xw_al, xw_ck, xw_uI, xw_ur, xup_at, xur_at, if_true, if_false, reduceIte, and_true, true_and, and_false, false_and, not_true_eq_false, not_false_eq_true, Nat.reduceEqDiff, eq_self, Nat.reduceAdd, Nat.reduceMul, kC1, kG1, kP1, kR1_0, kR1_1, kR1_2, kR1_3, kR1_4, kR1_5, kR1_6, kR1_7, kR1_8, kR1_9, kR1_10, kR1_11, kR1_12, kR1_13, kC2, kG2, kP2, kR2_0, kR2_1, kC3, kG3, kP3, kR3_0, kR3_1, kR3_2, kR3_3, kL4, kA4, kS4, kL5, kA5, kS5, kL6, kA6, kS6, kL7, kA7, kS7, kC8, kG8, kP8, kR8_0, kR8_1, kL9, kA9, kS9, kL10, kA10, kS10, kC11, kG11, kP11, kR11_0, kR11_1, kR11_2, kR11_3, kL12, kA12, kS12, kL13, kA13, kS13, kL14, kA14, kS14, kL15, kA15, kS15, kC16, kG16, kP16, kR16_0, kR16_1, kL17, kA17, kS17, kL18, kA18, kS18, kC19, kG19, kP19, kR19_0, kL20, kL141, kL146, kA146, kS146, kL151, kA151, kS151, kL156, kA156, kS156, kC157, kG157, kP157, kR157_0, kR157_1, kL158, kA158, kS158, kL159, kA159, kS159, kC161, kG161, kP161, kR161_0, kR161_1, kL162, kA162, kS162, kL163, kA163, kS163, kC165, kG165, kP165, kR165_0, kR165_1, kR165_2, kR165_3, kL166, kA166, kS166, kL167, kA167, kS167, kL168, kA168, kS168, kL169, kA169, kS169, kC170, kG170, kP170, kR170_0, kR170_1, kR170_2, kL171, kA171, kS171, kL172, kA172, kS172, kL173, kA173, kS173, kC174, kG174, kP174, kR174_0, kR174_1, kR174_2, kR174_3, kR174_4, kL175, kA175, kS175, kL176, kA176, kS176, kL177, kA177, kS177, kL178, kA178, kS178, kL179, kC180, kG180, kP180, kL181, kL182, kA182, kS182, kC183, kG183, kP183, kR183_1, kR183_3, kR183_5, kR183_6, kR183_7, kR183_8, kR183_9, kR183_21, kR183_26, kR183_27, kR183_30, kR183_31, kR183_33, kR183_34, kR183_36, kR183_37, kR183_38, kR183_39, kR183_40, kR183_41, kR183_42, kR183_43, kR183_44, kL184, kA184, kS184, kL185, kA185, kS185, kL186, kA186, kS186, kL187, kA187, kS187, kL188, kA188, kS188, kL189, kL190, kL191, kA191, kS191, kL192, kA192, kS192, kL193, kA193, kS193, kL194, kA194, kS194, kL195, kA195, kS195, kL196, kA196, kS196, kL197, kA197, kS197, kL198, kA198, kS198, kL199, kA199, kS199, kL200, kA200, kS200, kL201, kL202, kA202, kS202, kL203, kA203, kS203, kL204, kA204, kS204, kL205, kL206, kA206, kS206, allows_ok hS hg suA_16 hSR, of_ok hS hEn K1 (gSt_pos hs).2, bitOf_ok (show s < 2147483648 by omega) (show i < 32 by omega), bitOf_ok (show s < 2147483648 by omega) (show j < 32 by omega), bI_eq]
            rw [← nI_succ]
            have hb := hEb s
            have xe : ∀ o, (∀ m, o = some m → -144 ≤ m ∧ m ≤ 144) → xmin (enO 145 o) (iI (eE g (zR F) s)) = enO 145 (match o with | none => some (eE g (zR F) s) | some m => some (min m (eE g (zR F) s))) := by
              intro o ho
              cases o with
              | none => simp only [enO]; rw [xmin_i (by omega) (by omega) (by omega) (by omega)]; congr 1; omega
              | some m => have := ho m rfl; simp only [enO]; rw [xmin_i (by omega) (by omega) (by omega) (by omega)]
            show _ = some (Sum.inl (enO 145 (mnE (eE g (zR F)) pU (s + 1)), enO 145 (mnE (eE g (zR F)) pA (s + 1)), nI (s + 1)))
            have vA : pA s = (lW g F s && decide (s.testBit i = s.testBit j)) := by rw [hpA]
            have vU : pU s = (lW g F s && !decide (s.testBit i = s.testBit j)) := by rw [hpU]
            have sA := xe _ (fun m h => mnE_b pA hEb s m h)
            have sU := xe _ (fun m h => mnE_b pU hEb s m h)
            rw [mnE, mnE, vA, vU]
            cases lW g F s with
            | false => simp
            | true =>
              by_cases hbb : s.testBit i = s.testBit j
              · simp only [hbb, decide_true, Bool.and_true, if_true, Bool.not_true, Bool.and_false, Bool.false_eq_true, if_false, one0]
                rw [sA]
              · simp only [hbb, decide_false, Bool.and_true, if_true, Bool.not_false, Bool.and_false, Bool.false_eq_true, if_false, one0]
                rw [sU]
          · simp only [f_X11_stiff_b56]
            rw [if_pos (by rw [nn_le (by omega) (by omega)]; exact Nat.le_refl _), ← hA, ← hU, hr]
            unfold f_X11_stiff_j151
            have nm : ∀ m, -144 ≤ m → m ≤ 144 → (iI m = (145 : Int32)) = False := fun m h1 h2 => by
              rw [show (145 : Int32) = iI 145 from rfl, iI_eq (by omega) (by omega) (by omega) (by omega)]; exact eq_false (by omega)
            have nM : (iI 145 = (145 : Int32)) = True := eq_true rfl
            cases A with
            | none => simp only [enO, nM, if_true]; rw [if_neg (by decide)]; rfl
            | some a =>
              have qa := hAb a rfl
              cases U with
              | none => simp only [enO, nM, nm a qa.1 qa.2, if_true, if_false]; rw [if_neg (by decide)]; rfl
              | some b =>
                have qb := hUb b rfl
                simp only [enO, nm a qa.1 qa.2, nm b qb.1 qb.2, if_false, if_true]; rfl
        · unfold f_X12_stiff
          have q1 : f_X12_isSite τ 183 (nI i) = some 1 := by
            have := isSite_ok (σ := τ) (I := xI τ) hS hG1 (nI i)
            rw [hx1, if_pos rfl] at this
            exact this
          have q2 : f_X12_isSite τ 183 (nI j) = some 1 := by
            have := isSite_ok (σ := τ) (I := xI τ) hS hG1 (nI j)
            rw [hy1, if_pos rfl] at this
            exact this
          rw [xck_ok (sT183 hS), Option.bind_some, q1, Option.bind_some, if_neg (by decide), Option.bind_some, q2, Option.bind_some, if_neg (by decide), if_neg hxy, Option.bind_some, e2, Option.bind_some]
          refine xforE (fun s : Nat => (enO 100000 (mnE (eE g (zR F)) pA s), enO 100000 (mnE (eE g (zR F)) pU s), nI s)) (gSt g) rfl (fun s hs => ?_) ?_
          · simp only [f_X12_stiff_b41]
            have hv := K2.1 s hs
            have hb := hEb s
            simp (disch := first | assumption | omega) only [Option.bind_some, Option.map_some, xw_gR, xw_gN, xw_al, xw_ck, xw_uI, xw_ur, xup_at, xur_at, if_true, if_false, reduceIte, and_true, true_and, and_false, false_and, not_true_eq_false, not_false_eq_true, Nat.reduceEqDiff, eq_self, Nat.reduceAdd, Nat.reduceMul, kC1, kG1, kP1, kR1_0, kR1_1, kR1_2, kR1_3, kR1_4, kR1_5, kR1_6, kR1_7, kR1_8, kR1_9, kR1_10, kR1_11, kR1_12, kR1_13, kC2, kG2, kP2, kR2_0, kR2_1, kC3, kG3, kP3, kR3_0, kR3_1, kR3_2, kR3_3, kL4, kA4, kS4, kL5, kA5, kS5, kL6, kA6, kS6, kL7, kA7, kS7, kC8, kG8, kP8, kR8_0, kR8_1, kL9, kA9, kS9, kL10, kA10, kS10, kC11, kG11, kP11, kR11_0, kR11_1, kR11_2, kR11_3, kL12, kA12, kS12, kL13, kA13, kS13, kL14, kA14, kS14, kL15, kA15, kS15, kC16, kG16, kP16, kR16_0, kR16_1, kL17, kA17, kS17, kL18, kA18, kS18, kC19, kG19, kP19, kR19_0, kL20, kL141, kL146, kA146, kS146, kL151, kA151, kS151, kL156, kA156, kS156, kC157, kG157, kP157, kR157_0, kR157_1, kL158, kA158, kS158, kL159, kA159, kS159, kC161, kG161, kP161, kR161_0, kR161_1, kL162, kA162, kS162, kL163, kA163, kS163, kC165, kG165, kP165, kR165_0, kR165_1, kR165_2, kR165_3, kL166, kA166, kS166, kL167, kA167, kS167, kL168, kA168, kS168, kL169, kA169, kS169, kC170, kG170, kP170, kR170_0, kR170_1, kR170_2, kL171, kA171, kS171, kL172, kA172, kS172, kL173, kA173, kS173, kC174, kG174, kP174, kR174_0, kR174_1, kR174_2, kR174_3, kR174_4, kL175, kA175, kS175, kL176, kA176, kS176, kL177, kA177, kS177, kL178, kA178, kS178, kL179, kC180, kG180, kP180, kL181, kL182, kA182, kS182, kC183, kG183, kP183, kR183_1, kR183_3, kR183_5, kR183_6, kR183_7, kR183_8, kR183_9, kR183_21, kR183_26, kR183_27, kR183_30, kR183_31, kR183_33, kR183_34, kR183_36, kR183_37, kR183_38, kR183_39, kR183_40, kR183_41, kR183_42, kR183_43, kR183_44, kL184, kA184, kS184, kL185, kA185, kS185, kL186, kA186, kS186, kL187, kA187, kS187, kL188, kA188, kS188, kL189, kL190, kL191, kA191, kS191, kL192, kA192, kS192, kL193, kA193, kS193, kL194, kA194, kS194, kL195, kA195, kS195, kL196, kA196, kS196, kL197, kA197, kS197, kL198, kA198, kS198, kL199, kA199, kS199, kL200, kA200, kS200, kL201, kL202, kA202, kS202, kL203, kA203, kS203, kL204, kA204, kS204, kL205, kL206, kA206, kS206, states12_ok hS hG2, nn_le, show ¬ (gSt g ≤ s) by omega, has_ok (show s < 2147483648 by omega) (show i < 32 by omega), has_ok (show s < 2147483648 by omega) (show j < 32 by omega), bI_eq, hv]
            rw [← nI_succ]
            have xu : ∀ o, (∀ m, o = some m → -144 ≤ m ∧ m ≤ 144) → (enO 100000 o ≤ nI 100000) = True := by
              intro o ho
              cases o with
              | none => exact eq_true (by decide)
              | some m => have := ho m rfl; simp only [enO]; rw [iI_n, iI_le (by omega) (by omega) (by omega) (by omega)]; exact eq_true (by omega)
            have xl : ∀ o, (∀ m, o = some m → -144 ≤ m ∧ m ≤ 144) → (if enO 100000 o ≤ iI (eE g (zR F) s) then enO 100000 o else iI (eE g (zR F) s)) = enO 100000 (match o with | none => some (eE g (zR F) s) | some m => some (min m (eE g (zR F) s))) := by
              intro o ho
              cases o with
              | none =>
                show (if iI 100000 ≤ iI (eE g (zR F) s) then iI 100000 else iI (eE g (zR F) s)) = iI (eE g (zR F) s)
                rw [if_neg (by rw [iI_le (by omega) (by omega) (by omega) (by omega)]; omega)]
              | some m =>
                have := ho m rfl
                show (if iI m ≤ iI (eE g (zR F) s) then iI m else iI (eE g (zR F) s)) = iI (min m (eE g (zR F) s))
                by_cases z : m ≤ eE g (zR F) s
                · rw [if_pos (by rw [iI_le (by omega) (by omega) (by omega) (by omega)]; exact z)]; congr 1; omega
                · rw [if_neg (by rw [iI_le (by omega) (by omega) (by omega) (by omega)]; exact z)]; congr 1; omega
            show _ = some (Sum.inl (enO 100000 (mnE (eE g (zR F)) pA (s + 1)), enO 100000 (mnE (eE g (zR F)) pU (s + 1)), nI (s + 1)))
            have bA := fun m h => mnE_b pA hEb s m h
            have bU := fun m h => mnE_b pU hEb s m h
            have sA := xl _ bA
            have sU := xl _ bU
            rw [mnE, mnE]
            have vA : pA s = (lW g F s && decide (s.testBit i = s.testBit j)) := by rw [hpA]
            have vU : pU s = (lW g F s && !decide (s.testBit i = s.testBit j)) := by rw [hpU]
            rw [vA, vU]
            cases lW g F s with
            | false => simp [xu _ bA, xu _ bU]
            | true =>
              by_cases hbb : s.testBit i = s.testBit j
              · simp only [hbb, decide_true, Bool.and_true, if_true, Bool.not_true, Bool.and_false, Bool.false_eq_true, if_false]
                rw [← sA]
                split <;> rfl
              · simp only [hbb, decide_false, Bool.and_true, if_true, Bool.not_false, Bool.and_false, Bool.false_eq_true, if_false]
                rw [← sU]
                split <;> rfl
          · simp only [f_X12_stiff_b41]
            rw [← hA, ← hU, hr]
            have nm : ∀ m, -144 ≤ m → m ≤ 144 → (iI m = (100000 : Int32)) = False := fun m h1 h2 => by
              rw [show (100000 : Int32) = iI 100000 from rfl, iI_eq (by omega) (by omega) (by omega) (by omega)]; exact eq_false (by omega)
            have nM : (iI 100000 = (100000 : Int32)) = True := eq_true rfl
            simp (disch := first | assumption | omega) only [Option.bind_some, Option.map_some, xw_gR, xw_gN, xw_al, xw_ck, xw_uI, xw_ur, xup_at, xur_at, if_true, if_false, reduceIte, and_true, true_and, and_false, false_and, not_true_eq_false, not_false_eq_true, Nat.reduceEqDiff, eq_self, Nat.reduceAdd, Nat.reduceMul, kC1, kG1, kP1, kR1_0, kR1_1, kR1_2, kR1_3, kR1_4, kR1_5, kR1_6, kR1_7, kR1_8, kR1_9, kR1_10, kR1_11, kR1_12, kR1_13, kC2, kG2, kP2, kR2_0, kR2_1, kC3, kG3, kP3, kR3_0, kR3_1, kR3_2, kR3_3, kL4, kA4, kS4, kL5, kA5, kS5, kL6, kA6, kS6, kL7, kA7, kS7, kC8, kG8, kP8, kR8_0, kR8_1, kL9, kA9, kS9, kL10, kA10, kS10, kC11, kG11, kP11, kR11_0, kR11_1, kR11_2, kR11_3, kL12, kA12, kS12, kL13, kA13, kS13, kL14, kA14, kS14, kL15, kA15, kS15, kC16, kG16, kP16, kR16_0, kR16_1, kL17, kA17, kS17, kL18, kA18, kS18, kC19, kG19, kP19, kR19_0, kL20, kL141, kL146, kA146, kS146, kL151, kA151, kS151, kL156, kA156, kS156, kC157, kG157, kP157, kR157_0, kR157_1, kL158, kA158, kS158, kL159, kA159, kS159, kC161, kG161, kP161, kR161_0, kR161_1, kL162, kA162, kS162, kL163, kA163, kS163, kC165, kG165, kP165, kR165_0, kR165_1, kR165_2, kR165_3, kL166, kA166, kS166, kL167, kA167, kS167, kL168, kA168, kS168, kL169, kA169, kS169, kC170, kG170, kP170, kR170_0, kR170_1, kR170_2, kL171, kA171, kS171, kL172, kA172, kS172, kL173, kA173, kS173, kC174, kG174, kP174, kR174_0, kR174_1, kR174_2, kR174_3, kR174_4, kL175, kA175, kS175, kL176, kA176, kS176, kL177, kA177, kS177, kL178, kA178, kS178, kL179, kC180, kG180, kP180, kL181, kL182, kA182, kS182, kC183, kG183, kP183, kR183_1, kR183_3, kR183_5, kR183_6, kR183_7, kR183_8, kR183_9, kR183_21, kR183_26, kR183_27, kR183_30, kR183_31, kR183_33, kR183_34, kR183_36, kR183_37, kR183_38, kR183_39, kR183_40, kR183_41, kR183_42, kR183_43, kR183_44, kL184, kA184, kS184, kL185, kA185, kS185, kL186, kA186, kS186, kL187, kA187, kS187, kL188, kA188, kS188, kL189, kL190, kL191, kA191, kS191, kL192, kA192, kS192, kL193, kA193, kS193, kL194, kA194, kS194, kL195, kA195, kS195, kL196, kA196, kS196, kL197, kA197, kS197, kL198, kA198, kS198, kL199, kA199, kS199, kL200, kA200, kS200, kL201, kL202, kA202, kS202, kL203, kA203, kS203, kL204, kA204, kS204, kL205, kL206, kA206, kS206, states12_ok hS hG2, nn_le, Nat.le_refl]
            cases A with
            | none => simp only [enO, nM, if_true]; rfl
            | some a =>
              have qa := hAb a rfl
              cases U with
              | none => simp only [enO, nM, nm a qa.1 qa.2, if_true, if_false]; rfl
              | some b =>
                have qb := hUb b rfl
                simp only [enO, nm a qa.1 qa.2, nm b qb.1 qb.2, if_false]; rfl
    · refine ⟨-100000, σ, σ, ?_, ?_, g, gT, gP, st, H.nop⟩
      · show f_X11_stiff (xw σ (xI σ)) 1 x y = _
        unfold f_X11_stiff
        simp (disch := first | assumption | omega) only [Option.bind_some, Option.map_some, xw_gR, xw_gN, xw_al, xw_ck, xw_uI, xw_ur, xup_at, xur_at, if_true, if_false, reduceIte, and_true, true_and, and_false, false_and, not_true_eq_false, not_false_eq_true, Nat.reduceEqDiff, eq_self, Nat.reduceAdd, Nat.reduceMul, kC1, kG1, kP1, kR1_0, kR1_1, kR1_2, kR1_3, kR1_4, kR1_5, kR1_6, kR1_7, kR1_8, kR1_9, kR1_10, kR1_11, kR1_12, kR1_13, kC2, kG2, kP2, kR2_0, kR2_1, kC3, kG3, kP3, kR3_0, kR3_1, kR3_2, kR3_3, kL4, kA4, kS4, kL5, kA5, kS5, kL6, kA6, kS6, kL7, kA7, kS7, kC8, kG8, kP8, kR8_0, kR8_1, kL9, kA9, kS9, kL10, kA10, kS10, kC11, kG11, kP11, kR11_0, kR11_1, kR11_2, kR11_3, kL12, kA12, kS12, kL13, kA13, kS13, kL14, kA14, kS14, kL15, kA15, kS15, kC16, kG16, kP16, kR16_0, kR16_1, kL17, kA17, kS17, kL18, kA18, kS18, kC19, kG19, kP19, kR19_0, kL20, kL141, kL146, kA146, kS146, kL151, kA151, kS151, kL156, kA156, kS156, kC157, kG157, kP157, kR157_0, kR157_1, kL158, kA158, kS158, kL159, kA159, kS159, kC161, kG161, kP161, kR161_0, kR161_1, kL162, kA162, kS162, kL163, kA163, kS163, kC165, kG165, kP165, kR165_0, kR165_1, kR165_2, kR165_3, kL166, kA166, kS166, kL167, kA167, kS167, kL168, kA168, kS168, kL169, kA169, kS169, kC170, kG170, kP170, kR170_0, kR170_1, kR170_2, kL171, kA171, kS171, kL172, kA172, kS172, kL173, kA173, kS173, kC174, kG174, kP174, kR174_0, kR174_1, kR174_2, kR174_3, kR174_4, kL175, kA175, kS175, kL176, kA176, kS176, kL177, kA177, kS177, kL178, kA178, kS178, kL179, kC180, kG180, kP180, kL181, kL182, kA182, kS182, kC183, kG183, kP183, kR183_1, kR183_3, kR183_5, kR183_6, kR183_7, kR183_8, kR183_9, kR183_21, kR183_26, kR183_27, kR183_30, kR183_31, kR183_33, kR183_34, kR183_36, kR183_37, kR183_38, kR183_39, kR183_40, kR183_41, kR183_42, kR183_43, kR183_44, kL184, kA184, kS184, kL185, kA185, kS185, kL186, kA186, kS186, kL187, kA187, kS187, kL188, kA188, kS188, kL189, kL190, kL191, kA191, kS191, kL192, kA192, kS192, kL193, kA193, kS193, kL194, kA194, kS194, kL195, kA195, kS195, kL196, kA196, kS196, kL197, kA197, kS197, kL198, kA198, kS198, kL199, kA199, kS199, kL200, kA200, kS200, kL201, kL202, kA202, kS202, kL203, kA203, kS203, kL204, kA204, kS204, kL205, kL206, kA206, kS206, hasSite_ok hS0 hG0, hx1, hy1, one0]
        rfl
      · show f_X12_stiff (xw σ (xI σ)) 183 x y = _
        unfold f_X12_stiff
        simp (disch := first | assumption | omega) only [Option.bind_some, Option.map_some, xw_gR, xw_gN, xw_al, xw_ck, xw_uI, xw_ur, xup_at, xur_at, if_true, if_false, reduceIte, and_true, true_and, and_false, false_and, not_true_eq_false, not_false_eq_true, Nat.reduceEqDiff, eq_self, Nat.reduceAdd, Nat.reduceMul, kC1, kG1, kP1, kR1_0, kR1_1, kR1_2, kR1_3, kR1_4, kR1_5, kR1_6, kR1_7, kR1_8, kR1_9, kR1_10, kR1_11, kR1_12, kR1_13, kC2, kG2, kP2, kR2_0, kR2_1, kC3, kG3, kP3, kR3_0, kR3_1, kR3_2, kR3_3, kL4, kA4, kS4, kL5, kA5, kS5, kL6, kA6, kS6, kL7, kA7, kS7, kC8, kG8, kP8, kR8_0, kR8_1, kL9, kA9, kS9, kL10, kA10, kS10, kC11, kG11, kP11, kR11_0, kR11_1, kR11_2, kR11_3, kL12, kA12, kS12, kL13, kA13, kS13, kL14, kA14, kS14, kL15, kA15, kS15, kC16, kG16, kP16, kR16_0, kR16_1, kL17, kA17, kS17, kL18, kA18, kS18, kC19, kG19, kP19, kR19_0, kL20, kL141, kL146, kA146, kS146, kL151, kA151, kS151, kL156, kA156, kS156, kC157, kG157, kP157, kR157_0, kR157_1, kL158, kA158, kS158, kL159, kA159, kS159, kC161, kG161, kP161, kR161_0, kR161_1, kL162, kA162, kS162, kL163, kA163, kS163, kC165, kG165, kP165, kR165_0, kR165_1, kR165_2, kR165_3, kL166, kA166, kS166, kL167, kA167, kS167, kL168, kA168, kS168, kL169, kA169, kS169, kC170, kG170, kP170, kR170_0, kR170_1, kR170_2, kL171, kA171, kS171, kL172, kA172, kS172, kL173, kA173, kS173, kC174, kG174, kP174, kR174_0, kR174_1, kR174_2, kR174_3, kR174_4, kL175, kA175, kS175, kL176, kA176, kS176, kL177, kA177, kS177, kL178, kA178, kS178, kL179, kC180, kG180, kP180, kL181, kL182, kA182, kS182, kC183, kG183, kP183, kR183_1, kR183_3, kR183_5, kR183_6, kR183_7, kR183_8, kR183_9, kR183_21, kR183_26, kR183_27, kR183_30, kR183_31, kR183_33, kR183_34, kR183_36, kR183_37, kR183_38, kR183_39, kR183_40, kR183_41, kR183_42, kR183_43, kR183_44, kL184, kA184, kS184, kL185, kA185, kS185, kL186, kA186, kS186, kL187, kA187, kS187, kL188, kA188, kS188, kL189, kL190, kL191, kA191, kS191, kL192, kA192, kS192, kL193, kA193, kS193, kL194, kA194, kS194, kL195, kA195, kS195, kL196, kA196, kS196, kL197, kA197, kS197, kL198, kA198, kS198, kL199, kA199, kS199, kL200, kA200, kS200, kL201, kL202, kA202, kS202, kL203, kA203, kS203, kL204, kA204, kS204, kL205, kL206, kA206, kS206, isSite_ok hS0 hG0, hx1, hy1, one0]
        rfl
  · refine ⟨-100000, σ, σ, ?_, ?_, g, gT, gP, st, H.nop⟩
    · show f_X11_stiff (xw σ (xI σ)) 1 x y = _
      unfold f_X11_stiff
      simp (disch := first | assumption | omega) only [Option.bind_some, Option.map_some, xw_gR, xw_gN, xw_al, xw_ck, xw_uI, xw_ur, xup_at, xur_at, if_true, if_false, reduceIte, and_true, true_and, and_false, false_and, not_true_eq_false, not_false_eq_true, Nat.reduceEqDiff, eq_self, Nat.reduceAdd, Nat.reduceMul, kC1, kG1, kP1, kR1_0, kR1_1, kR1_2, kR1_3, kR1_4, kR1_5, kR1_6, kR1_7, kR1_8, kR1_9, kR1_10, kR1_11, kR1_12, kR1_13, kC2, kG2, kP2, kR2_0, kR2_1, kC3, kG3, kP3, kR3_0, kR3_1, kR3_2, kR3_3, kL4, kA4, kS4, kL5, kA5, kS5, kL6, kA6, kS6, kL7, kA7, kS7, kC8, kG8, kP8, kR8_0, kR8_1, kL9, kA9, kS9, kL10, kA10, kS10, kC11, kG11, kP11, kR11_0, kR11_1, kR11_2, kR11_3, kL12, kA12, kS12, kL13, kA13, kS13, kL14, kA14, kS14, kL15, kA15, kS15, kC16, kG16, kP16, kR16_0, kR16_1, kL17, kA17, kS17, kL18, kA18, kS18, kC19, kG19, kP19, kR19_0, kL20, kL141, kL146, kA146, kS146, kL151, kA151, kS151, kL156, kA156, kS156, kC157, kG157, kP157, kR157_0, kR157_1, kL158, kA158, kS158, kL159, kA159, kS159, kC161, kG161, kP161, kR161_0, kR161_1, kL162, kA162, kS162, kL163, kA163, kS163, kC165, kG165, kP165, kR165_0, kR165_1, kR165_2, kR165_3, kL166, kA166, kS166, kL167, kA167, kS167, kL168, kA168, kS168, kL169, kA169, kS169, kC170, kG170, kP170, kR170_0, kR170_1, kR170_2, kL171, kA171, kS171, kL172, kA172, kS172, kL173, kA173, kS173, kC174, kG174, kP174, kR174_0, kR174_1, kR174_2, kR174_3, kR174_4, kL175, kA175, kS175, kL176, kA176, kS176, kL177, kA177, kS177, kL178, kA178, kS178, kL179, kC180, kG180, kP180, kL181, kL182, kA182, kS182, kC183, kG183, kP183, kR183_1, kR183_3, kR183_5, kR183_6, kR183_7, kR183_8, kR183_9, kR183_21, kR183_26, kR183_27, kR183_30, kR183_31, kR183_33, kR183_34, kR183_36, kR183_37, kR183_38, kR183_39, kR183_40, kR183_41, kR183_42, kR183_43, kR183_44, kL184, kA184, kS184, kL185, kA185, kS185, kL186, kA186, kS186, kL187, kA187, kS187, kL188, kA188, kS188, kL189, kL190, kL191, kA191, kS191, kL192, kA192, kS192, kL193, kA193, kS193, kL194, kA194, kS194, kL195, kA195, kS195, kL196, kA196, kS196, kL197, kA197, kS197, kL198, kA198, kS198, kL199, kA199, kS199, kL200, kA200, kS200, kL201, kL202, kA202, kS202, kL203, kA203, kS203, kL204, kA204, kS204, kL205, kL206, kA206, kS206, hasSite_ok hS0 hG0, hx1]
      rfl
    · show f_X12_stiff (xw σ (xI σ)) 183 x y = _
      unfold f_X12_stiff
      simp (disch := first | assumption | omega) only [Option.bind_some, Option.map_some, xw_gR, xw_gN, xw_al, xw_ck, xw_uI, xw_ur, xup_at, xur_at, if_true, if_false, reduceIte, and_true, true_and, and_false, false_and, not_true_eq_false, not_false_eq_true, Nat.reduceEqDiff, eq_self, Nat.reduceAdd, Nat.reduceMul, kC1, kG1, kP1, kR1_0, kR1_1, kR1_2, kR1_3, kR1_4, kR1_5, kR1_6, kR1_7, kR1_8, kR1_9, kR1_10, kR1_11, kR1_12, kR1_13, kC2, kG2, kP2, kR2_0, kR2_1, kC3, kG3, kP3, kR3_0, kR3_1, kR3_2, kR3_3, kL4, kA4, kS4, kL5, kA5, kS5, kL6, kA6, kS6, kL7, kA7, kS7, kC8, kG8, kP8, kR8_0, kR8_1, kL9, kA9, kS9, kL10, kA10, kS10, kC11, kG11, kP11, kR11_0, kR11_1, kR11_2, kR11_3, kL12, kA12, kS12, kL13, kA13, kS13, kL14, kA14, kS14, kL15, kA15, kS15, kC16, kG16, kP16, kR16_0, kR16_1, kL17, kA17, kS17, kL18, kA18, kS18, kC19, kG19, kP19, kR19_0, kL20, kL141, kL146, kA146, kS146, kL151, kA151, kS151, kL156, kA156, kS156, kC157, kG157, kP157, kR157_0, kR157_1, kL158, kA158, kS158, kL159, kA159, kS159, kC161, kG161, kP161, kR161_0, kR161_1, kL162, kA162, kS162, kL163, kA163, kS163, kC165, kG165, kP165, kR165_0, kR165_1, kR165_2, kR165_3, kL166, kA166, kS166, kL167, kA167, kS167, kL168, kA168, kS168, kL169, kA169, kS169, kC170, kG170, kP170, kR170_0, kR170_1, kR170_2, kL171, kA171, kS171, kL172, kA172, kS172, kL173, kA173, kS173, kC174, kG174, kP174, kR174_0, kR174_1, kR174_2, kR174_3, kR174_4, kL175, kA175, kS175, kL176, kA176, kS176, kL177, kA177, kS177, kL178, kA178, kS178, kL179, kC180, kG180, kP180, kL181, kL182, kA182, kS182, kC183, kG183, kP183, kR183_1, kR183_3, kR183_5, kR183_6, kR183_7, kR183_8, kR183_9, kR183_21, kR183_26, kR183_27, kR183_30, kR183_31, kR183_33, kR183_34, kR183_36, kR183_37, kR183_38, kR183_39, kR183_40, kR183_41, kR183_42, kR183_43, kR183_44, kL184, kA184, kS184, kL185, kA185, kS185, kL186, kA186, kS186, kL187, kA187, kS187, kL188, kA188, kS188, kL189, kL190, kL191, kA191, kS191, kL192, kA192, kS192, kL193, kA193, kS193, kL194, kA194, kS194, kL195, kA195, kS195, kL196, kA196, kS196, kL197, kA197, kS197, kL198, kA198, kS198, kL199, kA199, kS199, kL200, kA200, kS200, kL201, kL202, kA202, kS202, kL203, kA203, kS203, kL204, kA204, kS204, kL205, kL206, kA206, kS206, isSite_ok hS0 hG0, hx1]
      rfl
